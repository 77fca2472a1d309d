theorem dd_AB_init_0 : decode (mm_AB_init).2.1 0 = .ok (.aload_n 0, 1) := by decide +kernel
theorem dd_AB_init_1 : decode (mm_AB_init).2.1 1 = .ok (.invokespecial 3, 3) := by decide +kernel
theorem dd_AB_init_4 : decode (mm_AB_init).2.1 4 = .ok (.aload_n 0, 1) := by decide +kernel
theorem dd_AB_init_5 : decode (mm_AB_init).2.1 5 = .ok (.new 9, 3) := by decide +kernel
theorem dd_AB_init_8 : decode (mm_AB_init).2.1 8 = .ok (.dup, 1) := by decide +kernel
theorem dd_AB_init_9 : decode (mm_AB_init).2.1 9 = .ok (.bipush 8, 2) := by decide +kernel
theorem dd_AB_init_11 : decode (mm_AB_init).2.1 11 = .ok (.invokespecial 11, 3) := by decide +kernel
theorem dd_AB_init_14 : decode (mm_AB_init).2.1 14 = .ok (.putfield 14, 3) := by decide +kernel
theorem dd_AB_init_17 : decode (mm_AB_init).2.1 17 = .ok (.aload_n 0, 1) := by decide +kernel
theorem dd_AB_init_18 : decode (mm_AB_init).2.1 18 = .ok (.new 9, 3) := by decide +kernel
theorem dd_AB_init_21 : decode (mm_AB_init).2.1 21 = .ok (.dup, 1) := by decide +kernel
theorem dd_AB_init_22 : decode (mm_AB_init).2.1 22 = .ok (.bipush 60, 2) := by decide +kernel
theorem dd_AB_init_24 : decode (mm_AB_init).2.1 24 = .ok (.invokespecial 11, 3) := by decide +kernel
theorem dd_AB_init_27 : decode (mm_AB_init).2.1 27 = .ok (.putfield 18, 3) := by decide +kernel
theorem dd_AB_init_30 : decode (mm_AB_init).2.1 30 = .ok (.aload_n 0, 1) := by decide +kernel
theorem dd_AB_init_31 : decode (mm_AB_init).2.1 31 = .ok (.new 21, 3) := by decide +kernel
theorem dd_AB_init_34 : decode (mm_AB_init).2.1 34 = .ok (.dup, 1) := by decide +kernel
theorem dd_AB_init_35 : decode (mm_AB_init).2.1 35 = .ok (.invokespecial 23, 3) := by decide +kernel
theorem dd_AB_init_38 : decode (mm_AB_init).2.1 38 = .ok (.putfield 24, 3) := by decide +kernel
theorem dd_AB_init_41 : decode (mm_AB_init).2.1 41 = .ok (.aload_n 0, 1) := by decide +kernel
theorem dd_AB_init_42 : decode (mm_AB_init).2.1 42 = .ok (.new 28, 3) := by decide +kernel
theorem dd_AB_init_45 : decode (mm_AB_init).2.1 45 = .ok (.dup, 1) := by decide +kernel
theorem dd_AB_init_46 : decode (mm_AB_init).2.1 46 = .ok (.invokespecial 30, 3) := by decide +kernel
theorem dd_AB_init_49 : decode (mm_AB_init).2.1 49 = .ok (.putfield 31, 3) := by decide +kernel
theorem dd_AB_init_52 : decode (mm_AB_init).2.1 52 = .ok (.aload_n 0, 1) := by decide +kernel
theorem dd_AB_init_53 : decode (mm_AB_init).2.1 53 = .ok (.new 9, 3) := by decide +kernel
theorem dd_AB_init_56 : decode (mm_AB_init).2.1 56 = .ok (.dup, 1) := by decide +kernel
theorem dd_AB_init_57 : decode (mm_AB_init).2.1 57 = .ok (.bipush 60, 2) := by decide +kernel
theorem dd_AB_init_59 : decode (mm_AB_init).2.1 59 = .ok (.invokespecial 11, 3) := by decide +kernel
theorem dd_AB_init_62 : decode (mm_AB_init).2.1 62 = .ok (.putfield 35, 3) := by decide +kernel
theorem dd_AB_init_65 : decode (mm_AB_init).2.1 65 = .ok (.aload_n 0, 1) := by decide +kernel
theorem dd_AB_init_66 : decode (mm_AB_init).2.1 66 = .ok (.new 9, 3) := by decide +kernel
theorem dd_AB_init_69 : decode (mm_AB_init).2.1 69 = .ok (.dup, 1) := by decide +kernel
theorem dd_AB_init_70 : decode (mm_AB_init).2.1 70 = .ok (.bipush 60, 2) := by decide +kernel
theorem dd_AB_init_72 : decode (mm_AB_init).2.1 72 = .ok (.invokespecial 11, 3) := by decide +kernel
theorem dd_AB_init_75 : decode (mm_AB_init).2.1 75 = .ok (.putfield 38, 3) := by decide +kernel
theorem dd_AB_init_78 : decode (mm_AB_init).2.1 78 = .ok (.return_, 1) := by decide +kernel
theorem dd_Row_init_0 : decode (mm_Row_init).2.1 0 = .ok (.aload_n 0, 1) := by decide +kernel
theorem dd_Row_init_1 : decode (mm_Row_init).2.1 1 = .ok (.invokespecial 3, 3) := by decide +kernel
theorem dd_Row_init_4 : decode (mm_Row_init).2.1 4 = .ok (.aload_n 0, 1) := by decide +kernel
theorem dd_Row_init_5 : decode (mm_Row_init).2.1 5 = .ok (.iload_n 1, 1) := by decide +kernel
theorem dd_Row_init_6 : decode (mm_Row_init).2.1 6 = .ok (.newarray .int, 2) := by decide +kernel
theorem dd_Row_init_8 : decode (mm_Row_init).2.1 8 = .ok (.putfield 9, 3) := by decide +kernel
theorem dd_Row_init_11 : decode (mm_Row_init).2.1 11 = .ok (.aload_n 0, 1) := by decide +kernel
theorem dd_Row_init_12 : decode (mm_Row_init).2.1 12 = .ok (.iconst 0, 1) := by decide +kernel
theorem dd_Row_init_13 : decode (mm_Row_init).2.1 13 = .ok (.putfield 15, 3) := by decide +kernel
theorem dd_Row_init_16 : decode (mm_Row_init).2.1 16 = .ok (.return_, 1) := by decide +kernel
theorem dd_Pk_init_0 : decode (mm_Pk_init).2.1 0 = .ok (.aload_n 0, 1) := by decide +kernel
theorem dd_Pk_init_1 : decode (mm_Pk_init).2.1 1 = .ok (.invokespecial 3, 3) := by decide +kernel
theorem dd_Pk_init_4 : decode (mm_Pk_init).2.1 4 = .ok (.aload_n 0, 1) := by decide +kernel
theorem dd_Pk_init_5 : decode (mm_Pk_init).2.1 5 = .ok (.bipush 6, 2) := by decide +kernel
theorem dd_Pk_init_7 : decode (mm_Pk_init).2.1 7 = .ok (.anewarray 9, 3) := by decide +kernel
theorem dd_Pk_init_10 : decode (mm_Pk_init).2.1 10 = .ok (.putfield 11, 3) := by decide +kernel
theorem dd_Pk_init_13 : decode (mm_Pk_init).2.1 13 = .ok (.iconst 0, 1) := by decide +kernel
theorem dd_Pk_init_14 : decode (mm_Pk_init).2.1 14 = .ok (.istore_n 1, 1) := by decide +kernel
theorem dd_Pk_init_15 : decode (mm_Pk_init).2.1 15 = .ok (.iload_n 1, 1) := by decide +kernel
theorem dd_Pk_init_16 : decode (mm_Pk_init).2.1 16 = .ok (.aload_n 0, 1) := by decide +kernel
theorem dd_Pk_init_17 : decode (mm_Pk_init).2.1 17 = .ok (.getfield 11, 3) := by decide +kernel
theorem dd_Pk_init_20 : decode (mm_Pk_init).2.1 20 = .ok (.arraylength, 1) := by decide +kernel
theorem dd_Pk_init_21 : decode (mm_Pk_init).2.1 21 = .ok (.if_icmp .ge 22, 3) := by decide +kernel
theorem dd_Pk_init_24 : decode (mm_Pk_init).2.1 24 = .ok (.aload_n 0, 1) := by decide +kernel
theorem dd_Pk_init_25 : decode (mm_Pk_init).2.1 25 = .ok (.getfield 11, 3) := by decide +kernel
theorem dd_Pk_init_28 : decode (mm_Pk_init).2.1 28 = .ok (.iload_n 1, 1) := by decide +kernel
theorem dd_Pk_init_29 : decode (mm_Pk_init).2.1 29 = .ok (.new 9, 3) := by decide +kernel
theorem dd_Pk_init_32 : decode (mm_Pk_init).2.1 32 = .ok (.dup, 1) := by decide +kernel
theorem dd_Pk_init_33 : decode (mm_Pk_init).2.1 33 = .ok (.invokespecial 17, 3) := by decide +kernel
theorem dd_Pk_init_36 : decode (mm_Pk_init).2.1 36 = .ok (.aastore, 1) := by decide +kernel
theorem dd_Pk_init_37 : decode (mm_Pk_init).2.1 37 = .ok (.iinc 1 1, 3) := by decide +kernel
theorem dd_Pk_init_40 : decode (mm_Pk_init).2.1 40 = .ok (.goto (-25), 3) := by decide +kernel
theorem dd_Pk_init_43 : decode (mm_Pk_init).2.1 43 = .ok (.aload_n 0, 1) := by decide +kernel
theorem dd_Pk_init_44 : decode (mm_Pk_init).2.1 44 = .ok (.iconst 0, 1) := by decide +kernel
theorem dd_Pk_init_45 : decode (mm_Pk_init).2.1 45 = .ok (.putfield 18, 3) := by decide +kernel
theorem dd_Pk_init_48 : decode (mm_Pk_init).2.1 48 = .ok (.aload_n 0, 1) := by decide +kernel
theorem dd_Pk_init_49 : decode (mm_Pk_init).2.1 49 = .ok (.new 22, 3) := by decide +kernel
theorem dd_Pk_init_52 : decode (mm_Pk_init).2.1 52 = .ok (.dup, 1) := by decide +kernel
theorem dd_Pk_init_53 : decode (mm_Pk_init).2.1 53 = .ok (.sipush 823, 3) := by decide +kernel
theorem dd_Pk_init_56 : decode (mm_Pk_init).2.1 56 = .ok (.invokespecial 24, 3) := by decide +kernel
theorem dd_Pk_init_59 : decode (mm_Pk_init).2.1 59 = .ok (.putfield 27, 3) := by decide +kernel
theorem dd_Pk_init_62 : decode (mm_Pk_init).2.1 62 = .ok (.return_, 1) := by decide +kernel
theorem dd_WF_init_0 : decode (mm_WF_init).2.1 0 = .ok (.aload_n 0, 1) := by decide +kernel
theorem dd_WF_init_1 : decode (mm_WF_init).2.1 1 = .ok (.invokespecial 3, 3) := by decide +kernel
theorem dd_WF_init_4 : decode (mm_WF_init).2.1 4 = .ok (.aload_n 0, 1) := by decide +kernel
theorem dd_WF_init_5 : decode (mm_WF_init).2.1 5 = .ok (.new 9, 3) := by decide +kernel
theorem dd_WF_init_8 : decode (mm_WF_init).2.1 8 = .ok (.dup, 1) := by decide +kernel
theorem dd_WF_init_9 : decode (mm_WF_init).2.1 9 = .ok (.bipush 8, 2) := by decide +kernel
theorem dd_WF_init_11 : decode (mm_WF_init).2.1 11 = .ok (.invokespecial 11, 3) := by decide +kernel
theorem dd_WF_init_14 : decode (mm_WF_init).2.1 14 = .ok (.putfield 14, 3) := by decide +kernel
theorem dd_WF_init_17 : decode (mm_WF_init).2.1 17 = .ok (.aload_n 0, 1) := by decide +kernel
theorem dd_WF_init_18 : decode (mm_WF_init).2.1 18 = .ok (.new 9, 3) := by decide +kernel
theorem dd_WF_init_21 : decode (mm_WF_init).2.1 21 = .ok (.dup, 1) := by decide +kernel
theorem dd_WF_init_22 : decode (mm_WF_init).2.1 22 = .ok (.bipush 120, 2) := by decide +kernel
theorem dd_WF_init_24 : decode (mm_WF_init).2.1 24 = .ok (.invokespecial 11, 3) := by decide +kernel
theorem dd_WF_init_27 : decode (mm_WF_init).2.1 27 = .ok (.putfield 20, 3) := by decide +kernel
theorem dd_WF_init_30 : decode (mm_WF_init).2.1 30 = .ok (.return_, 1) := by decide +kernel
theorem dd_Ar_init_0 : decode (mm_Ar_init).2.1 0 = .ok (.aload_n 0, 1) := by decide +kernel
theorem dd_Ar_init_1 : decode (mm_Ar_init).2.1 1 = .ok (.invokespecial 3, 3) := by decide +kernel
theorem dd_Ar_init_4 : decode (mm_Ar_init).2.1 4 = .ok (.aload_n 0, 1) := by decide +kernel
theorem dd_Ar_init_5 : decode (mm_Ar_init).2.1 5 = .ok (.new 9, 3) := by decide +kernel
theorem dd_Ar_init_8 : decode (mm_Ar_init).2.1 8 = .ok (.dup, 1) := by decide +kernel
theorem dd_Ar_init_9 : decode (mm_Ar_init).2.1 9 = .ok (.sipush 600, 3) := by decide +kernel
theorem dd_Ar_init_12 : decode (mm_Ar_init).2.1 12 = .ok (.invokespecial 11, 3) := by decide +kernel
theorem dd_Ar_init_15 : decode (mm_Ar_init).2.1 15 = .ok (.putfield 14, 3) := by decide +kernel
theorem dd_Ar_init_18 : decode (mm_Ar_init).2.1 18 = .ok (.aload_n 0, 1) := by decide +kernel
theorem dd_Ar_init_19 : decode (mm_Ar_init).2.1 19 = .ok (.bipush 7, 2) := by decide +kernel
theorem dd_Ar_init_21 : decode (mm_Ar_init).2.1 21 = .ok (.anewarray 20, 3) := by decide +kernel
theorem dd_Ar_init_24 : decode (mm_Ar_init).2.1 24 = .ok (.putfield 22, 3) := by decide +kernel
theorem dd_Ar_init_27 : decode (mm_Ar_init).2.1 27 = .ok (.iconst 0, 1) := by decide +kernel
theorem dd_Ar_init_28 : decode (mm_Ar_init).2.1 28 = .ok (.istore_n 1, 1) := by decide +kernel
theorem dd_Ar_init_29 : decode (mm_Ar_init).2.1 29 = .ok (.iload_n 1, 1) := by decide +kernel
theorem dd_Ar_init_30 : decode (mm_Ar_init).2.1 30 = .ok (.aload_n 0, 1) := by decide +kernel
theorem dd_Ar_init_31 : decode (mm_Ar_init).2.1 31 = .ok (.getfield 22, 3) := by decide +kernel
theorem dd_Ar_init_34 : decode (mm_Ar_init).2.1 34 = .ok (.arraylength, 1) := by decide +kernel
theorem dd_Ar_init_35 : decode (mm_Ar_init).2.1 35 = .ok (.if_icmp .ge 22, 3) := by decide +kernel
theorem dd_Ar_init_38 : decode (mm_Ar_init).2.1 38 = .ok (.aload_n 0, 1) := by decide +kernel
theorem dd_Ar_init_39 : decode (mm_Ar_init).2.1 39 = .ok (.getfield 22, 3) := by decide +kernel
theorem dd_Ar_init_42 : decode (mm_Ar_init).2.1 42 = .ok (.iload_n 1, 1) := by decide +kernel
theorem dd_Ar_init_43 : decode (mm_Ar_init).2.1 43 = .ok (.new 20, 3) := by decide +kernel
theorem dd_Ar_init_46 : decode (mm_Ar_init).2.1 46 = .ok (.dup, 1) := by decide +kernel
theorem dd_Ar_init_47 : decode (mm_Ar_init).2.1 47 = .ok (.invokespecial 26, 3) := by decide +kernel
theorem dd_Ar_init_50 : decode (mm_Ar_init).2.1 50 = .ok (.aastore, 1) := by decide +kernel
theorem dd_Ar_init_51 : decode (mm_Ar_init).2.1 51 = .ok (.iinc 1 1, 3) := by decide +kernel
theorem dd_Ar_init_54 : decode (mm_Ar_init).2.1 54 = .ok (.goto (-25), 3) := by decide +kernel
theorem dd_Ar_init_57 : decode (mm_Ar_init).2.1 57 = .ok (.aload_n 0, 1) := by decide +kernel
theorem dd_Ar_init_58 : decode (mm_Ar_init).2.1 58 = .ok (.iconst 0, 1) := by decide +kernel
theorem dd_Ar_init_59 : decode (mm_Ar_init).2.1 59 = .ok (.putfield 27, 3) := by decide +kernel
theorem dd_Ar_init_62 : decode (mm_Ar_init).2.1 62 = .ok (.aload_n 0, 1) := by decide +kernel
theorem dd_Ar_init_63 : decode (mm_Ar_init).2.1 63 = .ok (.iconst (-1), 1) := by decide +kernel
theorem dd_Ar_init_64 : decode (mm_Ar_init).2.1 64 = .ok (.putfield 31, 3) := by decide +kernel
theorem dd_Ar_init_67 : decode (mm_Ar_init).2.1 67 = .ok (.return_, 1) := by decide +kernel
theorem dd_OF_init_0 : decode (mm_OF_init).2.1 0 = .ok (.aload_n 0, 1) := by decide +kernel
theorem dd_OF_init_1 : decode (mm_OF_init).2.1 1 = .ok (.invokespecial 3, 3) := by decide +kernel
theorem dd_OF_init_4 : decode (mm_OF_init).2.1 4 = .ok (.aload_n 0, 1) := by decide +kernel
theorem dd_OF_init_5 : decode (mm_OF_init).2.1 5 = .ok (.new 9, 3) := by decide +kernel
theorem dd_OF_init_8 : decode (mm_OF_init).2.1 8 = .ok (.dup, 1) := by decide +kernel
theorem dd_OF_init_9 : decode (mm_OF_init).2.1 9 = .ok (.bipush 8, 2) := by decide +kernel
theorem dd_OF_init_11 : decode (mm_OF_init).2.1 11 = .ok (.invokespecial 11, 3) := by decide +kernel
theorem dd_OF_init_14 : decode (mm_OF_init).2.1 14 = .ok (.putfield 14, 3) := by decide +kernel
theorem dd_OF_init_17 : decode (mm_OF_init).2.1 17 = .ok (.return_, 1) := by decide +kernel
theorem dd_AB_name_0 : decode (mm_AB_name).2.1 0 = .ok (.iload_n 1, 1) := by decide +kernel
theorem dd_AB_name_1 : decode (mm_AB_name).2.1 1 = .ok (.invokestatic 41, 3) := by decide +kernel
theorem dd_AB_name_4 : decode (mm_AB_name).2.1 4 = .ok (.ifCond .ne 5, 3) := by decide +kernel
theorem dd_AB_name_7 : decode (mm_AB_name).2.1 7 = .ok (.iconst (-1), 1) := by decide +kernel
theorem dd_AB_name_8 : decode (mm_AB_name).2.1 8 = .ok (.ireturn, 1) := by decide +kernel
theorem dd_AB_name_9 : decode (mm_AB_name).2.1 9 = .ok (.aload_n 0, 1) := by decide +kernel
theorem dd_AB_name_10 : decode (mm_AB_name).2.1 10 = .ok (.getfield 14, 3) := by decide +kernel
theorem dd_AB_name_13 : decode (mm_AB_name).2.1 13 = .ok (.iload_n 1, 1) := by decide +kernel
theorem dd_AB_name_14 : decode (mm_AB_name).2.1 14 = .ok (.invokevirtual 45, 3) := by decide +kernel
theorem dd_AB_name_17 : decode (mm_AB_name).2.1 17 = .ok (.ifCond .eq 13, 3) := by decide +kernel
theorem dd_AB_name_20 : decode (mm_AB_name).2.1 20 = .ok (.aload_n 0, 1) := by decide +kernel
theorem dd_AB_name_21 : decode (mm_AB_name).2.1 21 = .ok (.getfield 14, 3) := by decide +kernel
theorem dd_AB_name_24 : decode (mm_AB_name).2.1 24 = .ok (.getfield 48, 3) := by decide +kernel
theorem dd_AB_name_27 : decode (mm_AB_name).2.1 27 = .ok (.goto 5, 3) := by decide +kernel
theorem dd_AB_name_30 : decode (mm_AB_name).2.1 30 = .ok (.bipush (-2), 2) := by decide +kernel
theorem dd_AB_name_32 : decode (mm_AB_name).2.1 32 = .ok (.ireturn, 1) := by decide +kernel
theorem dd_AB_isNameCharacter_0 : decode (mm_AB_isNameCharacter).2.1 0 = .ok (.iload_n 0, 1) := by decide +kernel
theorem dd_AB_isNameCharacter_1 : decode (mm_AB_isNameCharacter).2.1 1 = .ok (.bipush 97, 2) := by decide +kernel
theorem dd_AB_isNameCharacter_3 : decode (mm_AB_isNameCharacter).2.1 3 = .ok (.if_icmp .lt 9, 3) := by decide +kernel
theorem dd_AB_isNameCharacter_6 : decode (mm_AB_isNameCharacter).2.1 6 = .ok (.iload_n 0, 1) := by decide +kernel
theorem dd_AB_isNameCharacter_7 : decode (mm_AB_isNameCharacter).2.1 7 = .ok (.bipush 122, 2) := by decide +kernel
theorem dd_AB_isNameCharacter_9 : decode (mm_AB_isNameCharacter).2.1 9 = .ok (.if_icmp .le 15, 3) := by decide +kernel
theorem dd_AB_isNameCharacter_12 : decode (mm_AB_isNameCharacter).2.1 12 = .ok (.iload_n 0, 1) := by decide +kernel
theorem dd_AB_isNameCharacter_13 : decode (mm_AB_isNameCharacter).2.1 13 = .ok (.bipush 46, 2) := by decide +kernel
theorem dd_AB_isNameCharacter_15 : decode (mm_AB_isNameCharacter).2.1 15 = .ok (.if_icmp .eq 9, 3) := by decide +kernel
theorem dd_AB_isNameCharacter_18 : decode (mm_AB_isNameCharacter).2.1 18 = .ok (.iload_n 0, 1) := by decide +kernel
theorem dd_AB_isNameCharacter_19 : decode (mm_AB_isNameCharacter).2.1 19 = .ok (.bipush 47, 2) := by decide +kernel
theorem dd_AB_isNameCharacter_21 : decode (mm_AB_isNameCharacter).2.1 21 = .ok (.if_icmp .ne 7, 3) := by decide +kernel
theorem dd_AB_isNameCharacter_24 : decode (mm_AB_isNameCharacter).2.1 24 = .ok (.iconst 1, 1) := by decide +kernel
theorem dd_AB_isNameCharacter_25 : decode (mm_AB_isNameCharacter).2.1 25 = .ok (.goto 4, 3) := by decide +kernel
theorem dd_AB_isNameCharacter_28 : decode (mm_AB_isNameCharacter).2.1 28 = .ok (.iconst 0, 1) := by decide +kernel
theorem dd_AB_isNameCharacter_29 : decode (mm_AB_isNameCharacter).2.1 29 = .ok (.ireturn, 1) := by decide +kernel
theorem dd_Row_append_0 : decode (mm_Row_append).2.1 0 = .ok (.aload_n 0, 1) := by decide +kernel
theorem dd_Row_append_1 : decode (mm_Row_append).2.1 1 = .ok (.getfield 15, 3) := by decide +kernel
theorem dd_Row_append_4 : decode (mm_Row_append).2.1 4 = .ok (.aload_n 0, 1) := by decide +kernel
theorem dd_Row_append_5 : decode (mm_Row_append).2.1 5 = .ok (.getfield 9, 3) := by decide +kernel
theorem dd_Row_append_8 : decode (mm_Row_append).2.1 8 = .ok (.arraylength, 1) := by decide +kernel
theorem dd_Row_append_9 : decode (mm_Row_append).2.1 9 = .ok (.if_icmp .lt 5, 3) := by decide +kernel
theorem dd_Row_append_12 : decode (mm_Row_append).2.1 12 = .ok (.iconst 0, 1) := by decide +kernel
theorem dd_Row_append_13 : decode (mm_Row_append).2.1 13 = .ok (.ireturn, 1) := by decide +kernel
theorem dd_Row_append_14 : decode (mm_Row_append).2.1 14 = .ok (.aload_n 0, 1) := by decide +kernel
theorem dd_Row_append_15 : decode (mm_Row_append).2.1 15 = .ok (.getfield 9, 3) := by decide +kernel
theorem dd_Row_append_18 : decode (mm_Row_append).2.1 18 = .ok (.aload_n 0, 1) := by decide +kernel
theorem dd_Row_append_19 : decode (mm_Row_append).2.1 19 = .ok (.getfield 15, 3) := by decide +kernel
theorem dd_Row_append_22 : decode (mm_Row_append).2.1 22 = .ok (.iload_n 1, 1) := by decide +kernel
theorem dd_Row_append_23 : decode (mm_Row_append).2.1 23 = .ok (.iastore, 1) := by decide +kernel
theorem dd_Row_append_24 : decode (mm_Row_append).2.1 24 = .ok (.aload_n 0, 1) := by decide +kernel
theorem dd_Row_append_25 : decode (mm_Row_append).2.1 25 = .ok (.dup, 1) := by decide +kernel
theorem dd_Row_append_26 : decode (mm_Row_append).2.1 26 = .ok (.getfield 15, 3) := by decide +kernel
theorem dd_Row_append_29 : decode (mm_Row_append).2.1 29 = .ok (.iconst 1, 1) := by decide +kernel
theorem dd_Row_append_30 : decode (mm_Row_append).2.1 30 = .ok (.iadd, 1) := by decide +kernel
theorem dd_Row_append_31 : decode (mm_Row_append).2.1 31 = .ok (.putfield 15, 3) := by decide +kernel
theorem dd_Row_append_34 : decode (mm_Row_append).2.1 34 = .ok (.iconst 1, 1) := by decide +kernel
theorem dd_Row_append_35 : decode (mm_Row_append).2.1 35 = .ok (.ireturn, 1) := by decide +kernel
theorem dd_AB_data_0 : decode (mm_AB_data).2.1 0 = .ok (.iload_n 1, 1) := by decide +kernel
theorem dd_AB_data_1 : decode (mm_AB_data).2.1 1 = .ok (.invokestatic 52, 3) := by decide +kernel
theorem dd_AB_data_4 : decode (mm_AB_data).2.1 4 = .ok (.ifCond .eq 14, 3) := by decide +kernel
theorem dd_AB_data_7 : decode (mm_AB_data).2.1 7 = .ok (.iload_n 2, 1) := by decide +kernel
theorem dd_AB_data_8 : decode (mm_AB_data).2.1 8 = .ok (.iconst 1, 1) := by decide +kernel
theorem dd_AB_data_9 : decode (mm_AB_data).2.1 9 = .ok (.if_icmp .lt 9, 3) := by decide +kernel
theorem dd_AB_data_12 : decode (mm_AB_data).2.1 12 = .ok (.iload_n 2, 1) := by decide +kernel
theorem dd_AB_data_13 : decode (mm_AB_data).2.1 13 = .ok (.bipush 60, 2) := by decide +kernel
theorem dd_AB_data_15 : decode (mm_AB_data).2.1 15 = .ok (.if_icmp .le 5, 3) := by decide +kernel
theorem dd_AB_data_18 : decode (mm_AB_data).2.1 18 = .ok (.iconst (-1), 1) := by decide +kernel
theorem dd_AB_data_19 : decode (mm_AB_data).2.1 19 = .ok (.ireturn, 1) := by decide +kernel
theorem dd_AB_data_20 : decode (mm_AB_data).2.1 20 = .ok (.aload_n 0, 1) := by decide +kernel
theorem dd_AB_data_21 : decode (mm_AB_data).2.1 21 = .ok (.getfield 18, 3) := by decide +kernel
theorem dd_AB_data_24 : decode (mm_AB_data).2.1 24 = .ok (.iload_n 1, 1) := by decide +kernel
theorem dd_AB_data_25 : decode (mm_AB_data).2.1 25 = .ok (.iload_n 2, 1) := by decide +kernel
theorem dd_AB_data_26 : decode (mm_AB_data).2.1 26 = .ok (.invokevirtual 55, 3) := by decide +kernel
theorem dd_AB_data_29 : decode (mm_AB_data).2.1 29 = .ok (.ifCond .eq 13, 3) := by decide +kernel
theorem dd_AB_data_32 : decode (mm_AB_data).2.1 32 = .ok (.aload_n 0, 1) := by decide +kernel
theorem dd_AB_data_33 : decode (mm_AB_data).2.1 33 = .ok (.getfield 18, 3) := by decide +kernel
theorem dd_AB_data_36 : decode (mm_AB_data).2.1 36 = .ok (.getfield 48, 3) := by decide +kernel
theorem dd_AB_data_39 : decode (mm_AB_data).2.1 39 = .ok (.goto 5, 3) := by decide +kernel
theorem dd_AB_data_42 : decode (mm_AB_data).2.1 42 = .ok (.bipush (-2), 2) := by decide +kernel
theorem dd_AB_data_44 : decode (mm_AB_data).2.1 44 = .ok (.ireturn, 1) := by decide +kernel
theorem dd_AB_isByte_0 : decode (mm_AB_isByte).2.1 0 = .ok (.iload_n 0, 1) := by decide +kernel
theorem dd_AB_isByte_1 : decode (mm_AB_isByte).2.1 1 = .ok (.ifCond .lt 14, 3) := by decide +kernel
theorem dd_AB_isByte_4 : decode (mm_AB_isByte).2.1 4 = .ok (.iload_n 0, 1) := by decide +kernel
theorem dd_AB_isByte_5 : decode (mm_AB_isByte).2.1 5 = .ok (.sipush 255, 3) := by decide +kernel
theorem dd_AB_isByte_8 : decode (mm_AB_isByte).2.1 8 = .ok (.if_icmp .gt 7, 3) := by decide +kernel
theorem dd_AB_isByte_11 : decode (mm_AB_isByte).2.1 11 = .ok (.iconst 1, 1) := by decide +kernel
theorem dd_AB_isByte_12 : decode (mm_AB_isByte).2.1 12 = .ok (.goto 4, 3) := by decide +kernel
theorem dd_AB_isByte_15 : decode (mm_AB_isByte).2.1 15 = .ok (.iconst 0, 1) := by decide +kernel
theorem dd_AB_isByte_16 : decode (mm_AB_isByte).2.1 16 = .ok (.ireturn, 1) := by decide +kernel
theorem dd_Row_appendTimes_0 : decode (mm_Row_appendTimes).2.1 0 = .ok (.iload_n 2, 1) := by decide +kernel
theorem dd_Row_appendTimes_1 : decode (mm_Row_appendTimes).2.1 1 = .ok (.aload_n 0, 1) := by decide +kernel
theorem dd_Row_appendTimes_2 : decode (mm_Row_appendTimes).2.1 2 = .ok (.getfield 9, 3) := by decide +kernel
theorem dd_Row_appendTimes_5 : decode (mm_Row_appendTimes).2.1 5 = .ok (.arraylength, 1) := by decide +kernel
theorem dd_Row_appendTimes_6 : decode (mm_Row_appendTimes).2.1 6 = .ok (.aload_n 0, 1) := by decide +kernel
theorem dd_Row_appendTimes_7 : decode (mm_Row_appendTimes).2.1 7 = .ok (.getfield 15, 3) := by decide +kernel
theorem dd_Row_appendTimes_10 : decode (mm_Row_appendTimes).2.1 10 = .ok (.isub, 1) := by decide +kernel
theorem dd_Row_appendTimes_11 : decode (mm_Row_appendTimes).2.1 11 = .ok (.if_icmp .le 5, 3) := by decide +kernel
theorem dd_Row_appendTimes_14 : decode (mm_Row_appendTimes).2.1 14 = .ok (.iconst 0, 1) := by decide +kernel
theorem dd_Row_appendTimes_15 : decode (mm_Row_appendTimes).2.1 15 = .ok (.ireturn, 1) := by decide +kernel
theorem dd_Row_appendTimes_16 : decode (mm_Row_appendTimes).2.1 16 = .ok (.iconst 0, 1) := by decide +kernel
theorem dd_Row_appendTimes_17 : decode (mm_Row_appendTimes).2.1 17 = .ok (.istore_n 3, 1) := by decide +kernel
theorem dd_Row_appendTimes_18 : decode (mm_Row_appendTimes).2.1 18 = .ok (.iload_n 3, 1) := by decide +kernel
theorem dd_Row_appendTimes_19 : decode (mm_Row_appendTimes).2.1 19 = .ok (.iload_n 2, 1) := by decide +kernel
theorem dd_Row_appendTimes_20 : decode (mm_Row_appendTimes).2.1 20 = .ok (.if_icmp .ge 29, 3) := by decide +kernel
theorem dd_Row_appendTimes_23 : decode (mm_Row_appendTimes).2.1 23 = .ok (.aload_n 0, 1) := by decide +kernel
theorem dd_Row_appendTimes_24 : decode (mm_Row_appendTimes).2.1 24 = .ok (.getfield 9, 3) := by decide +kernel
theorem dd_Row_appendTimes_27 : decode (mm_Row_appendTimes).2.1 27 = .ok (.aload_n 0, 1) := by decide +kernel
theorem dd_Row_appendTimes_28 : decode (mm_Row_appendTimes).2.1 28 = .ok (.getfield 15, 3) := by decide +kernel
theorem dd_Row_appendTimes_31 : decode (mm_Row_appendTimes).2.1 31 = .ok (.iload_n 1, 1) := by decide +kernel
theorem dd_Row_appendTimes_32 : decode (mm_Row_appendTimes).2.1 32 = .ok (.iastore, 1) := by decide +kernel
theorem dd_Row_appendTimes_33 : decode (mm_Row_appendTimes).2.1 33 = .ok (.aload_n 0, 1) := by decide +kernel
theorem dd_Row_appendTimes_34 : decode (mm_Row_appendTimes).2.1 34 = .ok (.dup, 1) := by decide +kernel
theorem dd_Row_appendTimes_35 : decode (mm_Row_appendTimes).2.1 35 = .ok (.getfield 15, 3) := by decide +kernel
theorem dd_Row_appendTimes_38 : decode (mm_Row_appendTimes).2.1 38 = .ok (.iconst 1, 1) := by decide +kernel
theorem dd_Row_appendTimes_39 : decode (mm_Row_appendTimes).2.1 39 = .ok (.iadd, 1) := by decide +kernel
theorem dd_Row_appendTimes_40 : decode (mm_Row_appendTimes).2.1 40 = .ok (.putfield 15, 3) := by decide +kernel
theorem dd_Row_appendTimes_43 : decode (mm_Row_appendTimes).2.1 43 = .ok (.iinc 3 1, 3) := by decide +kernel
theorem dd_Row_appendTimes_46 : decode (mm_Row_appendTimes).2.1 46 = .ok (.goto (-28), 3) := by decide +kernel
theorem dd_Row_appendTimes_49 : decode (mm_Row_appendTimes).2.1 49 = .ok (.iconst 1, 1) := by decide +kernel
theorem dd_Row_appendTimes_50 : decode (mm_Row_appendTimes).2.1 50 = .ok (.ireturn, 1) := by decide +kernel
theorem dd_AB_add_0 : decode (mm_AB_add).2.1 0 = .ok (.iload_n 1, 1) := by decide +kernel
theorem dd_AB_add_1 : decode (mm_AB_add).2.1 1 = .ok (.ifCond .lt 18, 3) := by decide +kernel
theorem dd_AB_add_4 : decode (mm_AB_add).2.1 4 = .ok (.iload_n 1, 1) := by decide +kernel
theorem dd_AB_add_5 : decode (mm_AB_add).2.1 5 = .ok (.iconst 2, 1) := by decide +kernel
theorem dd_AB_add_6 : decode (mm_AB_add).2.1 6 = .ok (.if_icmp .gt 13, 3) := by decide +kernel
theorem dd_AB_add_9 : decode (mm_AB_add).2.1 9 = .ok (.aload_n 0, 1) := by decide +kernel
theorem dd_AB_add_10 : decode (mm_AB_add).2.1 10 = .ok (.getfield 14, 3) := by decide +kernel
theorem dd_AB_add_13 : decode (mm_AB_add).2.1 13 = .ok (.getfield 48, 3) := by decide +kernel
theorem dd_AB_add_16 : decode (mm_AB_add).2.1 16 = .ok (.ifCond .ne 5, 3) := by decide +kernel
theorem dd_AB_add_19 : decode (mm_AB_add).2.1 19 = .ok (.iconst (-1), 1) := by decide +kernel
theorem dd_AB_add_20 : decode (mm_AB_add).2.1 20 = .ok (.ireturn, 1) := by decide +kernel
theorem dd_AB_add_21 : decode (mm_AB_add).2.1 21 = .ok (.aload_n 0, 1) := by decide +kernel
theorem dd_AB_add_22 : decode (mm_AB_add).2.1 22 = .ok (.getfield 24, 3) := by decide +kernel
theorem dd_AB_add_25 : decode (mm_AB_add).2.1 25 = .ok (.getfield 59, 3) := by decide +kernel
theorem dd_AB_add_28 : decode (mm_AB_add).2.1 28 = .ok (.istore_n 2, 1) := by decide +kernel
theorem dd_AB_add_29 : decode (mm_AB_add).2.1 29 = .ok (.iload_n 2, 1) := by decide +kernel
theorem dd_AB_add_30 : decode (mm_AB_add).2.1 30 = .ok (.bipush 6, 2) := by decide +kernel
theorem dd_AB_add_32 : decode (mm_AB_add).2.1 32 = .ok (.if_icmp .lt 6, 3) := by decide +kernel
theorem dd_AB_add_35 : decode (mm_AB_add).2.1 35 = .ok (.bipush (-2), 2) := by decide +kernel
theorem dd_AB_add_37 : decode (mm_AB_add).2.1 37 = .ok (.ireturn, 1) := by decide +kernel
theorem dd_AB_add_38 : decode (mm_AB_add).2.1 38 = .ok (.aload_n 0, 1) := by decide +kernel
theorem dd_AB_add_39 : decode (mm_AB_add).2.1 39 = .ok (.getfield 24, 3) := by decide +kernel
theorem dd_AB_add_42 : decode (mm_AB_add).2.1 42 = .ok (.getfield 62, 3) := by decide +kernel
theorem dd_AB_add_45 : decode (mm_AB_add).2.1 45 = .ok (.iload_n 2, 1) := by decide +kernel
theorem dd_AB_add_46 : decode (mm_AB_add).2.1 46 = .ok (.aaload, 1) := by decide +kernel
theorem dd_AB_add_47 : decode (mm_AB_add).2.1 47 = .ok (.aload_n 0, 1) := by decide +kernel
theorem dd_AB_add_48 : decode (mm_AB_add).2.1 48 = .ok (.getfield 14, 3) := by decide +kernel
theorem dd_AB_add_51 : decode (mm_AB_add).2.1 51 = .ok (.aload_n 0, 1) := by decide +kernel
theorem dd_AB_add_52 : decode (mm_AB_add).2.1 52 = .ok (.getfield 18, 3) := by decide +kernel
theorem dd_AB_add_55 : decode (mm_AB_add).2.1 55 = .ok (.iload_n 1, 1) := by decide +kernel
theorem dd_AB_add_56 : decode (mm_AB_add).2.1 56 = .ok (.invokevirtual 66, 3) := by decide +kernel
theorem dd_AB_add_59 : decode (mm_AB_add).2.1 59 = .ok (.aload_n 0, 1) := by decide +kernel
theorem dd_AB_add_60 : decode (mm_AB_add).2.1 60 = .ok (.getfield 24, 3) := by decide +kernel
theorem dd_AB_add_63 : decode (mm_AB_add).2.1 63 = .ok (.dup, 1) := by decide +kernel
theorem dd_AB_add_64 : decode (mm_AB_add).2.1 64 = .ok (.getfield 59, 3) := by decide +kernel
theorem dd_AB_add_67 : decode (mm_AB_add).2.1 67 = .ok (.iconst 1, 1) := by decide +kernel
theorem dd_AB_add_68 : decode (mm_AB_add).2.1 68 = .ok (.iadd, 1) := by decide +kernel
theorem dd_AB_add_69 : decode (mm_AB_add).2.1 69 = .ok (.putfield 59, 3) := by decide +kernel
theorem dd_AB_add_72 : decode (mm_AB_add).2.1 72 = .ok (.aload_n 0, 1) := by decide +kernel
theorem dd_AB_add_73 : decode (mm_AB_add).2.1 73 = .ok (.getfield 14, 3) := by decide +kernel
theorem dd_AB_add_76 : decode (mm_AB_add).2.1 76 = .ok (.iconst 0, 1) := by decide +kernel
theorem dd_AB_add_77 : decode (mm_AB_add).2.1 77 = .ok (.invokevirtual 72, 3) := by decide +kernel
theorem dd_AB_add_80 : decode (mm_AB_add).2.1 80 = .ok (.aload_n 0, 1) := by decide +kernel
theorem dd_AB_add_81 : decode (mm_AB_add).2.1 81 = .ok (.getfield 18, 3) := by decide +kernel
theorem dd_AB_add_84 : decode (mm_AB_add).2.1 84 = .ok (.iconst 0, 1) := by decide +kernel
theorem dd_AB_add_85 : decode (mm_AB_add).2.1 85 = .ok (.invokevirtual 72, 3) := by decide +kernel
theorem dd_AB_add_88 : decode (mm_AB_add).2.1 88 = .ok (.iload_n 2, 1) := by decide +kernel
theorem dd_AB_add_89 : decode (mm_AB_add).2.1 89 = .ok (.ireturn, 1) := by decide +kernel
theorem dd_WF_become_0 : decode (mm_WF_become).2.1 0 = .ok (.aload_n 0, 1) := by decide +kernel
theorem dd_WF_become_1 : decode (mm_WF_become).2.1 1 = .ok (.getfield 14, 3) := by decide +kernel
theorem dd_WF_become_4 : decode (mm_WF_become).2.1 4 = .ok (.aload_n 1, 1) := by decide +kernel
theorem dd_WF_become_5 : decode (mm_WF_become).2.1 5 = .ok (.invokevirtual 23, 3) := by decide +kernel
theorem dd_WF_become_8 : decode (mm_WF_become).2.1 8 = .ok (.iload_n 3, 1) := by decide +kernel
theorem dd_WF_become_9 : decode (mm_WF_become).2.1 9 = .ok (.aload_n 2, 1) := by decide +kernel
theorem dd_WF_become_10 : decode (mm_WF_become).2.1 10 = .ok (.aload_n 0, 1) := by decide +kernel
theorem dd_WF_become_11 : decode (mm_WF_become).2.1 11 = .ok (.getfield 20, 3) := by decide +kernel
theorem dd_WF_become_14 : decode (mm_WF_become).2.1 14 = .ok (.invokestatic 27, 3) := by decide +kernel
theorem dd_WF_become_17 : decode (mm_WF_become).2.1 17 = .ok (.aload_n 0, 1) := by decide +kernel
theorem dd_WF_become_18 : decode (mm_WF_become).2.1 18 = .ok (.iload_n 3, 1) := by decide +kernel
theorem dd_WF_become_19 : decode (mm_WF_become).2.1 19 = .ok (.putfield 33, 3) := by decide +kernel
theorem dd_WF_become_22 : decode (mm_WF_become).2.1 22 = .ok (.aload_n 0, 1) := by decide +kernel
theorem dd_WF_become_23 : decode (mm_WF_become).2.1 23 = .ok (.aload_n 2, 1) := by decide +kernel
theorem dd_WF_become_24 : decode (mm_WF_become).2.1 24 = .ok (.getfield 37, 3) := by decide +kernel
theorem dd_WF_become_27 : decode (mm_WF_become).2.1 27 = .ok (.putfield 40, 3) := by decide +kernel
theorem dd_WF_become_30 : decode (mm_WF_become).2.1 30 = .ok (.aload_n 0, 1) := by decide +kernel
theorem dd_WF_become_31 : decode (mm_WF_become).2.1 31 = .ok (.aload_n 2, 1) := by decide +kernel
theorem dd_WF_become_32 : decode (mm_WF_become).2.1 32 = .ok (.iconst 0, 1) := by decide +kernel
theorem dd_WF_become_33 : decode (mm_WF_become).2.1 33 = .ok (.aload_n 2, 1) := by decide +kernel
theorem dd_WF_become_34 : decode (mm_WF_become).2.1 34 = .ok (.getfield 37, 3) := by decide +kernel
theorem dd_WF_become_37 : decode (mm_WF_become).2.1 37 = .ok (.invokevirtual 41, 3) := by decide +kernel
theorem dd_WF_become_40 : decode (mm_WF_become).2.1 40 = .ok (.putfield 45, 3) := by decide +kernel
theorem dd_WF_become_43 : decode (mm_WF_become).2.1 43 = .ok (.return_, 1) := by decide +kernel
theorem dd_Row_become_0 : decode (mm_Row_become).2.1 0 = .ok (.aload_n 0, 1) := by decide +kernel
theorem dd_Row_become_1 : decode (mm_Row_become).2.1 1 = .ok (.iconst 0, 1) := by decide +kernel
theorem dd_Row_become_2 : decode (mm_Row_become).2.1 2 = .ok (.invokevirtual 37, 3) := by decide +kernel
theorem dd_Row_become_5 : decode (mm_Row_become).2.1 5 = .ok (.aload_n 0, 1) := by decide +kernel
theorem dd_Row_become_6 : decode (mm_Row_become).2.1 6 = .ok (.aload_n 1, 1) := by decide +kernel
theorem dd_Row_become_7 : decode (mm_Row_become).2.1 7 = .ok (.invokevirtual 41, 3) := by decide +kernel
theorem dd_Row_become_10 : decode (mm_Row_become).2.1 10 = .ok (.return_, 1) := by decide +kernel
theorem dd_Row_cutTo_0 : decode (mm_Row_cutTo).2.1 0 = .ok (.iload_n 1, 1) := by decide +kernel
theorem dd_Row_cutTo_1 : decode (mm_Row_cutTo).2.1 1 = .ok (.ifCond .lt 16, 3) := by decide +kernel
theorem dd_Row_cutTo_4 : decode (mm_Row_cutTo).2.1 4 = .ok (.iload_n 1, 1) := by decide +kernel
theorem dd_Row_cutTo_5 : decode (mm_Row_cutTo).2.1 5 = .ok (.aload_n 0, 1) := by decide +kernel
theorem dd_Row_cutTo_6 : decode (mm_Row_cutTo).2.1 6 = .ok (.getfield 15, 3) := by decide +kernel
theorem dd_Row_cutTo_9 : decode (mm_Row_cutTo).2.1 9 = .ok (.if_icmp .ge 8, 3) := by decide +kernel
theorem dd_Row_cutTo_12 : decode (mm_Row_cutTo).2.1 12 = .ok (.aload_n 0, 1) := by decide +kernel
theorem dd_Row_cutTo_13 : decode (mm_Row_cutTo).2.1 13 = .ok (.iload_n 1, 1) := by decide +kernel
theorem dd_Row_cutTo_14 : decode (mm_Row_cutTo).2.1 14 = .ok (.putfield 15, 3) := by decide +kernel
theorem dd_Row_cutTo_17 : decode (mm_Row_cutTo).2.1 17 = .ok (.return_, 1) := by decide +kernel
theorem dd_Row_appendAll_0 : decode (mm_Row_appendAll).2.1 0 = .ok (.aload_n 0, 1) := by decide +kernel
theorem dd_Row_appendAll_1 : decode (mm_Row_appendAll).2.1 1 = .ok (.aload_n 1, 1) := by decide +kernel
theorem dd_Row_appendAll_2 : decode (mm_Row_appendAll).2.1 2 = .ok (.iconst 0, 1) := by decide +kernel
theorem dd_Row_appendAll_3 : decode (mm_Row_appendAll).2.1 3 = .ok (.aload_n 1, 1) := by decide +kernel
theorem dd_Row_appendAll_4 : decode (mm_Row_appendAll).2.1 4 = .ok (.getfield 15, 3) := by decide +kernel
theorem dd_Row_appendAll_7 : decode (mm_Row_appendAll).2.1 7 = .ok (.invokevirtual 33, 3) := by decide +kernel
theorem dd_Row_appendAll_10 : decode (mm_Row_appendAll).2.1 10 = .ok (.pop, 1) := by decide +kernel
theorem dd_Row_appendAll_11 : decode (mm_Row_appendAll).2.1 11 = .ok (.return_, 1) := by decide +kernel
theorem dd_Row_appendPart_0 : decode (mm_Row_appendPart).2.1 0 = .ok (.iload_n 2, 1) := by decide +kernel
theorem dd_Row_appendPart_1 : decode (mm_Row_appendPart).2.1 1 = .ok (.ifCond .lt 32, 3) := by decide +kernel
theorem dd_Row_appendPart_4 : decode (mm_Row_appendPart).2.1 4 = .ok (.iload_n 2, 1) := by decide +kernel
theorem dd_Row_appendPart_5 : decode (mm_Row_appendPart).2.1 5 = .ok (.iload_n 3, 1) := by decide +kernel
theorem dd_Row_appendPart_6 : decode (mm_Row_appendPart).2.1 6 = .ok (.if_icmp .gt 27, 3) := by decide +kernel
theorem dd_Row_appendPart_9 : decode (mm_Row_appendPart).2.1 9 = .ok (.iload_n 3, 1) := by decide +kernel
theorem dd_Row_appendPart_10 : decode (mm_Row_appendPart).2.1 10 = .ok (.aload_n 1, 1) := by decide +kernel
theorem dd_Row_appendPart_11 : decode (mm_Row_appendPart).2.1 11 = .ok (.getfield 15, 3) := by decide +kernel
theorem dd_Row_appendPart_14 : decode (mm_Row_appendPart).2.1 14 = .ok (.if_icmp .gt 19, 3) := by decide +kernel
theorem dd_Row_appendPart_17 : decode (mm_Row_appendPart).2.1 17 = .ok (.iload_n 3, 1) := by decide +kernel
theorem dd_Row_appendPart_18 : decode (mm_Row_appendPart).2.1 18 = .ok (.iload_n 2, 1) := by decide +kernel
theorem dd_Row_appendPart_19 : decode (mm_Row_appendPart).2.1 19 = .ok (.isub, 1) := by decide +kernel
theorem dd_Row_appendPart_20 : decode (mm_Row_appendPart).2.1 20 = .ok (.aload_n 0, 1) := by decide +kernel
theorem dd_Row_appendPart_21 : decode (mm_Row_appendPart).2.1 21 = .ok (.getfield 9, 3) := by decide +kernel
theorem dd_Row_appendPart_24 : decode (mm_Row_appendPart).2.1 24 = .ok (.arraylength, 1) := by decide +kernel
theorem dd_Row_appendPart_25 : decode (mm_Row_appendPart).2.1 25 = .ok (.aload_n 0, 1) := by decide +kernel
theorem dd_Row_appendPart_26 : decode (mm_Row_appendPart).2.1 26 = .ok (.getfield 15, 3) := by decide +kernel
theorem dd_Row_appendPart_29 : decode (mm_Row_appendPart).2.1 29 = .ok (.isub, 1) := by decide +kernel
theorem dd_Row_appendPart_30 : decode (mm_Row_appendPart).2.1 30 = .ok (.if_icmp .le 5, 3) := by decide +kernel
theorem dd_Row_appendPart_33 : decode (mm_Row_appendPart).2.1 33 = .ok (.iconst 0, 1) := by decide +kernel
theorem dd_Row_appendPart_34 : decode (mm_Row_appendPart).2.1 34 = .ok (.ireturn, 1) := by decide +kernel
theorem dd_Row_appendPart_35 : decode (mm_Row_appendPart).2.1 35 = .ok (.aload_n 1, 1) := by decide +kernel
theorem dd_Row_appendPart_36 : decode (mm_Row_appendPart).2.1 36 = .ok (.getfield 9, 3) := by decide +kernel
theorem dd_Row_appendPart_39 : decode (mm_Row_appendPart).2.1 39 = .ok (.iload_n 2, 1) := by decide +kernel
theorem dd_Row_appendPart_40 : decode (mm_Row_appendPart).2.1 40 = .ok (.aload_n 0, 1) := by decide +kernel
theorem dd_Row_appendPart_41 : decode (mm_Row_appendPart).2.1 41 = .ok (.getfield 9, 3) := by decide +kernel
theorem dd_Row_appendPart_44 : decode (mm_Row_appendPart).2.1 44 = .ok (.aload_n 0, 1) := by decide +kernel
theorem dd_Row_appendPart_45 : decode (mm_Row_appendPart).2.1 45 = .ok (.getfield 15, 3) := by decide +kernel
theorem dd_Row_appendPart_48 : decode (mm_Row_appendPart).2.1 48 = .ok (.iload_n 3, 1) := by decide +kernel
theorem dd_Row_appendPart_49 : decode (mm_Row_appendPart).2.1 49 = .ok (.iload_n 2, 1) := by decide +kernel
theorem dd_Row_appendPart_50 : decode (mm_Row_appendPart).2.1 50 = .ok (.isub, 1) := by decide +kernel
theorem dd_Row_appendPart_51 : decode (mm_Row_appendPart).2.1 51 = .ok (.invokestatic 27, 3) := by decide +kernel
theorem dd_Row_appendPart_54 : decode (mm_Row_appendPart).2.1 54 = .ok (.aload_n 0, 1) := by decide +kernel
theorem dd_Row_appendPart_55 : decode (mm_Row_appendPart).2.1 55 = .ok (.dup, 1) := by decide +kernel
theorem dd_Row_appendPart_56 : decode (mm_Row_appendPart).2.1 56 = .ok (.getfield 15, 3) := by decide +kernel
theorem dd_Row_appendPart_59 : decode (mm_Row_appendPart).2.1 59 = .ok (.iload_n 3, 1) := by decide +kernel
theorem dd_Row_appendPart_60 : decode (mm_Row_appendPart).2.1 60 = .ok (.iload_n 2, 1) := by decide +kernel
theorem dd_Row_appendPart_61 : decode (mm_Row_appendPart).2.1 61 = .ok (.isub, 1) := by decide +kernel
theorem dd_Row_appendPart_62 : decode (mm_Row_appendPart).2.1 62 = .ok (.iadd, 1) := by decide +kernel
theorem dd_Row_appendPart_63 : decode (mm_Row_appendPart).2.1 63 = .ok (.putfield 15, 3) := by decide +kernel
theorem dd_Row_appendPart_66 : decode (mm_Row_appendPart).2.1 66 = .ok (.iconst 1, 1) := by decide +kernel
theorem dd_Row_appendPart_67 : decode (mm_Row_appendPart).2.1 67 = .ok (.ireturn, 1) := by decide +kernel
theorem dd_Sq_squeeze_0 : decode (mm_Sq_squeeze).2.1 0 = .ok (.aload_n 2, 1) := by decide +kernel
theorem dd_Sq_squeeze_1 : decode (mm_Sq_squeeze).2.1 1 = .ok (.iconst 0, 1) := by decide +kernel
theorem dd_Sq_squeeze_2 : decode (mm_Sq_squeeze).2.1 2 = .ok (.invokevirtual 9, 3) := by decide +kernel
theorem dd_Sq_squeeze_5 : decode (mm_Sq_squeeze).2.1 5 = .ok (.iload_n 0, 1) := by decide +kernel
theorem dd_Sq_squeeze_6 : decode (mm_Sq_squeeze).2.1 6 = .ok (.iconst 1, 1) := by decide +kernel
theorem dd_Sq_squeeze_7 : decode (mm_Sq_squeeze).2.1 7 = .ok (.if_icmp .ne 11, 3) := by decide +kernel
theorem dd_Sq_squeeze_10 : decode (mm_Sq_squeeze).2.1 10 = .ok (.aload_n 1, 1) := by decide +kernel
theorem dd_Sq_squeeze_11 : decode (mm_Sq_squeeze).2.1 11 = .ok (.aload_n 2, 1) := by decide +kernel
theorem dd_Sq_squeeze_12 : decode (mm_Sq_squeeze).2.1 12 = .ok (.invokestatic 15, 3) := by decide +kernel
theorem dd_Sq_squeeze_15 : decode (mm_Sq_squeeze).2.1 15 = .ok (.goto 21, 3) := by decide +kernel
theorem dd_Sq_squeeze_18 : decode (mm_Sq_squeeze).2.1 18 = .ok (.iload_n 0, 1) := by decide +kernel
theorem dd_Sq_squeeze_19 : decode (mm_Sq_squeeze).2.1 19 = .ok (.iconst 2, 1) := by decide +kernel
theorem dd_Sq_squeeze_20 : decode (mm_Sq_squeeze).2.1 20 = .ok (.if_icmp .ne 11, 3) := by decide +kernel
theorem dd_Sq_squeeze_23 : decode (mm_Sq_squeeze).2.1 23 = .ok (.aload_n 1, 1) := by decide +kernel
theorem dd_Sq_squeeze_24 : decode (mm_Sq_squeeze).2.1 24 = .ok (.aload_n 2, 1) := by decide +kernel
theorem dd_Sq_squeeze_25 : decode (mm_Sq_squeeze).2.1 25 = .ok (.invokestatic 21, 3) := by decide +kernel
theorem dd_Sq_squeeze_28 : decode (mm_Sq_squeeze).2.1 28 = .ok (.goto 8, 3) := by decide +kernel
theorem dd_Sq_squeeze_31 : decode (mm_Sq_squeeze).2.1 31 = .ok (.aload_n 2, 1) := by decide +kernel
theorem dd_Sq_squeeze_32 : decode (mm_Sq_squeeze).2.1 32 = .ok (.aload_n 1, 1) := by decide +kernel
theorem dd_Sq_squeeze_33 : decode (mm_Sq_squeeze).2.1 33 = .ok (.invokevirtual 24, 3) := by decide +kernel
theorem dd_Sq_squeeze_36 : decode (mm_Sq_squeeze).2.1 36 = .ok (.return_, 1) := by decide +kernel
theorem dd_Sq_squeezeRuns_0 : decode (mm_Sq_squeezeRuns).2.1 0 = .ok (.iconst 0, 1) := by decide +kernel
theorem dd_Sq_squeezeRuns_1 : decode (mm_Sq_squeezeRuns).2.1 1 = .ok (.istore_n 2, 1) := by decide +kernel
theorem dd_Sq_squeezeRuns_2 : decode (mm_Sq_squeezeRuns).2.1 2 = .ok (.iload_n 2, 1) := by decide +kernel
theorem dd_Sq_squeezeRuns_3 : decode (mm_Sq_squeezeRuns).2.1 3 = .ok (.aload_n 0, 1) := by decide +kernel
theorem dd_Sq_squeezeRuns_4 : decode (mm_Sq_squeezeRuns).2.1 4 = .ok (.getfield 28, 3) := by decide +kernel
theorem dd_Sq_squeezeRuns_7 : decode (mm_Sq_squeezeRuns).2.1 7 = .ok (.if_icmp .ge 86, 3) := by decide +kernel
theorem dd_Sq_squeezeRuns_10 : decode (mm_Sq_squeezeRuns).2.1 10 = .ok (.aload_n 0, 1) := by decide +kernel
theorem dd_Sq_squeezeRuns_11 : decode (mm_Sq_squeezeRuns).2.1 11 = .ok (.iload_n 2, 1) := by decide +kernel
theorem dd_Sq_squeezeRuns_12 : decode (mm_Sq_squeezeRuns).2.1 12 = .ok (.invokevirtual 32, 3) := by decide +kernel
theorem dd_Sq_squeezeRuns_15 : decode (mm_Sq_squeezeRuns).2.1 15 = .ok (.istore_n 3, 1) := by decide +kernel
theorem dd_Sq_squeezeRuns_16 : decode (mm_Sq_squeezeRuns).2.1 16 = .ok (.iconst 1, 1) := by decide +kernel
theorem dd_Sq_squeezeRuns_17 : decode (mm_Sq_squeezeRuns).2.1 17 = .ok (.istore 4, 2) := by decide +kernel
theorem dd_Sq_squeezeRuns_19 : decode (mm_Sq_squeezeRuns).2.1 19 = .ok (.iload 4, 2) := by decide +kernel
theorem dd_Sq_squeezeRuns_21 : decode (mm_Sq_squeezeRuns).2.1 21 = .ok (.bipush 9, 2) := by decide +kernel
theorem dd_Sq_squeezeRuns_23 : decode (mm_Sq_squeezeRuns).2.1 23 = .ok (.if_icmp .ge 21, 3) := by decide +kernel
theorem dd_Sq_squeezeRuns_26 : decode (mm_Sq_squeezeRuns).2.1 26 = .ok (.aload_n 0, 1) := by decide +kernel
theorem dd_Sq_squeezeRuns_27 : decode (mm_Sq_squeezeRuns).2.1 27 = .ok (.iload_n 2, 1) := by decide +kernel
theorem dd_Sq_squeezeRuns_28 : decode (mm_Sq_squeezeRuns).2.1 28 = .ok (.iload 4, 2) := by decide +kernel
theorem dd_Sq_squeezeRuns_30 : decode (mm_Sq_squeezeRuns).2.1 30 = .ok (.iadd, 1) := by decide +kernel
theorem dd_Sq_squeezeRuns_31 : decode (mm_Sq_squeezeRuns).2.1 31 = .ok (.invokevirtual 32, 3) := by decide +kernel
theorem dd_Sq_squeezeRuns_34 : decode (mm_Sq_squeezeRuns).2.1 34 = .ok (.iload_n 3, 1) := by decide +kernel
theorem dd_Sq_squeezeRuns_35 : decode (mm_Sq_squeezeRuns).2.1 35 = .ok (.if_icmp .ne 9, 3) := by decide +kernel
theorem dd_Sq_squeezeRuns_38 : decode (mm_Sq_squeezeRuns).2.1 38 = .ok (.iinc 4 1, 3) := by decide +kernel
theorem dd_Sq_squeezeRuns_41 : decode (mm_Sq_squeezeRuns).2.1 41 = .ok (.goto (-22), 3) := by decide +kernel
theorem dd_Sq_squeezeRuns_44 : decode (mm_Sq_squeezeRuns).2.1 44 = .ok (.iload 4, 2) := by decide +kernel
theorem dd_Sq_squeezeRuns_46 : decode (mm_Sq_squeezeRuns).2.1 46 = .ok (.iconst 2, 1) := by decide +kernel
theorem dd_Sq_squeezeRuns_47 : decode (mm_Sq_squeezeRuns).2.1 47 = .ok (.if_icmp .gt 21, 3) := by decide +kernel
theorem dd_Sq_squeezeRuns_50 : decode (mm_Sq_squeezeRuns).2.1 50 = .ok (.iload_n 3, 1) := by decide +kernel
theorem dd_Sq_squeezeRuns_51 : decode (mm_Sq_squeezeRuns).2.1 51 = .ok (.sipush 246, 3) := by decide +kernel
theorem dd_Sq_squeezeRuns_54 : decode (mm_Sq_squeezeRuns).2.1 54 = .ok (.if_icmp .ge 14, 3) := by decide +kernel
theorem dd_Sq_squeezeRuns_57 : decode (mm_Sq_squeezeRuns).2.1 57 = .ok (.aload_n 1, 1) := by decide +kernel
theorem dd_Sq_squeezeRuns_58 : decode (mm_Sq_squeezeRuns).2.1 58 = .ok (.iload_n 3, 1) := by decide +kernel
theorem dd_Sq_squeezeRuns_59 : decode (mm_Sq_squeezeRuns).2.1 59 = .ok (.iload 4, 2) := by decide +kernel
theorem dd_Sq_squeezeRuns_61 : decode (mm_Sq_squeezeRuns).2.1 61 = .ok (.invokevirtual 36, 3) := by decide +kernel
theorem dd_Sq_squeezeRuns_64 : decode (mm_Sq_squeezeRuns).2.1 64 = .ok (.pop, 1) := by decide +kernel
theorem dd_Sq_squeezeRuns_65 : decode (mm_Sq_squeezeRuns).2.1 65 = .ok (.goto 20, 3) := by decide +kernel
theorem dd_Sq_squeezeRuns_68 : decode (mm_Sq_squeezeRuns).2.1 68 = .ok (.aload_n 1, 1) := by decide +kernel
theorem dd_Sq_squeezeRuns_69 : decode (mm_Sq_squeezeRuns).2.1 69 = .ok (.sipush 246, 3) := by decide +kernel
theorem dd_Sq_squeezeRuns_72 : decode (mm_Sq_squeezeRuns).2.1 72 = .ok (.iload 4, 2) := by decide +kernel
theorem dd_Sq_squeezeRuns_74 : decode (mm_Sq_squeezeRuns).2.1 74 = .ok (.iadd, 1) := by decide +kernel
theorem dd_Sq_squeezeRuns_75 : decode (mm_Sq_squeezeRuns).2.1 75 = .ok (.invokevirtual 40, 3) := by decide +kernel
theorem dd_Sq_squeezeRuns_78 : decode (mm_Sq_squeezeRuns).2.1 78 = .ok (.pop, 1) := by decide +kernel
theorem dd_Sq_squeezeRuns_79 : decode (mm_Sq_squeezeRuns).2.1 79 = .ok (.aload_n 1, 1) := by decide +kernel
theorem dd_Sq_squeezeRuns_80 : decode (mm_Sq_squeezeRuns).2.1 80 = .ok (.iload_n 3, 1) := by decide +kernel
theorem dd_Sq_squeezeRuns_81 : decode (mm_Sq_squeezeRuns).2.1 81 = .ok (.invokevirtual 40, 3) := by decide +kernel
theorem dd_Sq_squeezeRuns_84 : decode (mm_Sq_squeezeRuns).2.1 84 = .ok (.pop, 1) := by decide +kernel
theorem dd_Sq_squeezeRuns_85 : decode (mm_Sq_squeezeRuns).2.1 85 = .ok (.iload_n 2, 1) := by decide +kernel
theorem dd_Sq_squeezeRuns_86 : decode (mm_Sq_squeezeRuns).2.1 86 = .ok (.iload 4, 2) := by decide +kernel
theorem dd_Sq_squeezeRuns_88 : decode (mm_Sq_squeezeRuns).2.1 88 = .ok (.iadd, 1) := by decide +kernel
theorem dd_Sq_squeezeRuns_89 : decode (mm_Sq_squeezeRuns).2.1 89 = .ok (.istore_n 2, 1) := by decide +kernel
theorem dd_Sq_squeezeRuns_90 : decode (mm_Sq_squeezeRuns).2.1 90 = .ok (.goto (-88), 3) := by decide +kernel
theorem dd_Sq_squeezeRuns_93 : decode (mm_Sq_squeezeRuns).2.1 93 = .ok (.return_, 1) := by decide +kernel
theorem dd_Row_at_0 : decode (mm_Row_at).2.1 0 = .ok (.iload_n 1, 1) := by decide +kernel
theorem dd_Row_at_1 : decode (mm_Row_at).2.1 1 = .ok (.ifCond .lt 20, 3) := by decide +kernel
theorem dd_Row_at_4 : decode (mm_Row_at).2.1 4 = .ok (.iload_n 1, 1) := by decide +kernel
theorem dd_Row_at_5 : decode (mm_Row_at).2.1 5 = .ok (.aload_n 0, 1) := by decide +kernel
theorem dd_Row_at_6 : decode (mm_Row_at).2.1 6 = .ok (.getfield 15, 3) := by decide +kernel
theorem dd_Row_at_9 : decode (mm_Row_at).2.1 9 = .ok (.if_icmp .ge 12, 3) := by decide +kernel
theorem dd_Row_at_12 : decode (mm_Row_at).2.1 12 = .ok (.aload_n 0, 1) := by decide +kernel
theorem dd_Row_at_13 : decode (mm_Row_at).2.1 13 = .ok (.getfield 9, 3) := by decide +kernel
theorem dd_Row_at_16 : decode (mm_Row_at).2.1 16 = .ok (.iload_n 1, 1) := by decide +kernel
theorem dd_Row_at_17 : decode (mm_Row_at).2.1 17 = .ok (.iaload, 1) := by decide +kernel
theorem dd_Row_at_18 : decode (mm_Row_at).2.1 18 = .ok (.goto 4, 3) := by decide +kernel
theorem dd_Row_at_21 : decode (mm_Row_at).2.1 21 = .ok (.iconst (-1), 1) := by decide +kernel
theorem dd_Row_at_22 : decode (mm_Row_at).2.1 22 = .ok (.ireturn, 1) := by decide +kernel
theorem dd_Sq_squeezeCopies_0 : decode (mm_Sq_squeezeCopies).2.1 0 = .ok (.iconst 0, 1) := by decide +kernel
theorem dd_Sq_squeezeCopies_1 : decode (mm_Sq_squeezeCopies).2.1 1 = .ok (.istore_n 2, 1) := by decide +kernel
theorem dd_Sq_squeezeCopies_2 : decode (mm_Sq_squeezeCopies).2.1 2 = .ok (.iconst 0, 1) := by decide +kernel
theorem dd_Sq_squeezeCopies_3 : decode (mm_Sq_squeezeCopies).2.1 3 = .ok (.istore_n 3, 1) := by decide +kernel
theorem dd_Sq_squeezeCopies_4 : decode (mm_Sq_squeezeCopies).2.1 4 = .ok (.iload_n 3, 1) := by decide +kernel
theorem dd_Sq_squeezeCopies_5 : decode (mm_Sq_squeezeCopies).2.1 5 = .ok (.aload_n 0, 1) := by decide +kernel
theorem dd_Sq_squeezeCopies_6 : decode (mm_Sq_squeezeCopies).2.1 6 = .ok (.getfield 28, 3) := by decide +kernel
theorem dd_Sq_squeezeCopies_9 : decode (mm_Sq_squeezeCopies).2.1 9 = .ok (.if_icmp .ge 74, 3) := by decide +kernel
theorem dd_Sq_squeezeCopies_12 : decode (mm_Sq_squeezeCopies).2.1 12 = .ok (.aload_n 0, 1) := by decide +kernel
theorem dd_Sq_squeezeCopies_13 : decode (mm_Sq_squeezeCopies).2.1 13 = .ok (.iload_n 3, 1) := by decide +kernel
theorem dd_Sq_squeezeCopies_14 : decode (mm_Sq_squeezeCopies).2.1 14 = .ok (.invokestatic 44, 3) := by decide +kernel
theorem dd_Sq_squeezeCopies_17 : decode (mm_Sq_squeezeCopies).2.1 17 = .ok (.istore 4, 2) := by decide +kernel
theorem dd_Sq_squeezeCopies_19 : decode (mm_Sq_squeezeCopies).2.1 19 = .ok (.aload_n 0, 1) := by decide +kernel
theorem dd_Sq_squeezeCopies_20 : decode (mm_Sq_squeezeCopies).2.1 20 = .ok (.iload_n 3, 1) := by decide +kernel
theorem dd_Sq_squeezeCopies_21 : decode (mm_Sq_squeezeCopies).2.1 21 = .ok (.iload 4, 2) := by decide +kernel
theorem dd_Sq_squeezeCopies_23 : decode (mm_Sq_squeezeCopies).2.1 23 = .ok (.invokestatic 48, 3) := by decide +kernel
theorem dd_Sq_squeezeCopies_26 : decode (mm_Sq_squeezeCopies).2.1 26 = .ok (.istore 5, 2) := by decide +kernel
theorem dd_Sq_squeezeCopies_28 : decode (mm_Sq_squeezeCopies).2.1 28 = .ok (.iload 5, 2) := by decide +kernel
theorem dd_Sq_squeezeCopies_30 : decode (mm_Sq_squeezeCopies).2.1 30 = .ok (.iconst 3, 1) := by decide +kernel
theorem dd_Sq_squeezeCopies_31 : decode (mm_Sq_squeezeCopies).2.1 31 = .ok (.if_icmp .lt 43, 3) := by decide +kernel
theorem dd_Sq_squeezeCopies_34 : decode (mm_Sq_squeezeCopies).2.1 34 = .ok (.aload_n 0, 1) := by decide +kernel
theorem dd_Sq_squeezeCopies_35 : decode (mm_Sq_squeezeCopies).2.1 35 = .ok (.iload_n 3, 1) := by decide +kernel
theorem dd_Sq_squeezeCopies_36 : decode (mm_Sq_squeezeCopies).2.1 36 = .ok (.iload_n 2, 1) := by decide +kernel
theorem dd_Sq_squeezeCopies_37 : decode (mm_Sq_squeezeCopies).2.1 37 = .ok (.isub, 1) := by decide +kernel
theorem dd_Sq_squeezeCopies_38 : decode (mm_Sq_squeezeCopies).2.1 38 = .ok (.iload_n 3, 1) := by decide +kernel
theorem dd_Sq_squeezeCopies_39 : decode (mm_Sq_squeezeCopies).2.1 39 = .ok (.aload_n 1, 1) := by decide +kernel
theorem dd_Sq_squeezeCopies_40 : decode (mm_Sq_squeezeCopies).2.1 40 = .ok (.invokestatic 52, 3) := by decide +kernel
theorem dd_Sq_squeezeCopies_43 : decode (mm_Sq_squeezeCopies).2.1 43 = .ok (.iconst 0, 1) := by decide +kernel
theorem dd_Sq_squeezeCopies_44 : decode (mm_Sq_squeezeCopies).2.1 44 = .ok (.istore_n 2, 1) := by decide +kernel
theorem dd_Sq_squeezeCopies_45 : decode (mm_Sq_squeezeCopies).2.1 45 = .ok (.aload_n 1, 1) := by decide +kernel
theorem dd_Sq_squeezeCopies_46 : decode (mm_Sq_squeezeCopies).2.1 46 = .ok (.bipush 32, 2) := by decide +kernel
theorem dd_Sq_squeezeCopies_48 : decode (mm_Sq_squeezeCopies).2.1 48 = .ok (.iload 5, 2) := by decide +kernel
theorem dd_Sq_squeezeCopies_50 : decode (mm_Sq_squeezeCopies).2.1 50 = .ok (.iadd, 1) := by decide +kernel
theorem dd_Sq_squeezeCopies_51 : decode (mm_Sq_squeezeCopies).2.1 51 = .ok (.iconst 3, 1) := by decide +kernel
theorem dd_Sq_squeezeCopies_52 : decode (mm_Sq_squeezeCopies).2.1 52 = .ok (.isub, 1) := by decide +kernel
theorem dd_Sq_squeezeCopies_53 : decode (mm_Sq_squeezeCopies).2.1 53 = .ok (.invokevirtual 40, 3) := by decide +kernel
theorem dd_Sq_squeezeCopies_56 : decode (mm_Sq_squeezeCopies).2.1 56 = .ok (.pop, 1) := by decide +kernel
theorem dd_Sq_squeezeCopies_57 : decode (mm_Sq_squeezeCopies).2.1 57 = .ok (.aload_n 1, 1) := by decide +kernel
theorem dd_Sq_squeezeCopies_58 : decode (mm_Sq_squeezeCopies).2.1 58 = .ok (.iload 4, 2) := by decide +kernel
theorem dd_Sq_squeezeCopies_60 : decode (mm_Sq_squeezeCopies).2.1 60 = .ok (.iconst 1, 1) := by decide +kernel
theorem dd_Sq_squeezeCopies_61 : decode (mm_Sq_squeezeCopies).2.1 61 = .ok (.isub, 1) := by decide +kernel
theorem dd_Sq_squeezeCopies_62 : decode (mm_Sq_squeezeCopies).2.1 62 = .ok (.invokevirtual 40, 3) := by decide +kernel
theorem dd_Sq_squeezeCopies_65 : decode (mm_Sq_squeezeCopies).2.1 65 = .ok (.pop, 1) := by decide +kernel
theorem dd_Sq_squeezeCopies_66 : decode (mm_Sq_squeezeCopies).2.1 66 = .ok (.iload_n 3, 1) := by decide +kernel
theorem dd_Sq_squeezeCopies_67 : decode (mm_Sq_squeezeCopies).2.1 67 = .ok (.iload 5, 2) := by decide +kernel
theorem dd_Sq_squeezeCopies_69 : decode (mm_Sq_squeezeCopies).2.1 69 = .ok (.iadd, 1) := by decide +kernel
theorem dd_Sq_squeezeCopies_70 : decode (mm_Sq_squeezeCopies).2.1 70 = .ok (.istore_n 3, 1) := by decide +kernel
theorem dd_Sq_squeezeCopies_71 : decode (mm_Sq_squeezeCopies).2.1 71 = .ok (.goto 9, 3) := by decide +kernel
theorem dd_Sq_squeezeCopies_74 : decode (mm_Sq_squeezeCopies).2.1 74 = .ok (.iinc 2 1, 3) := by decide +kernel
theorem dd_Sq_squeezeCopies_77 : decode (mm_Sq_squeezeCopies).2.1 77 = .ok (.iinc 3 1, 3) := by decide +kernel
theorem dd_Sq_squeezeCopies_80 : decode (mm_Sq_squeezeCopies).2.1 80 = .ok (.goto (-76), 3) := by decide +kernel
theorem dd_Sq_squeezeCopies_83 : decode (mm_Sq_squeezeCopies).2.1 83 = .ok (.aload_n 0, 1) := by decide +kernel
theorem dd_Sq_squeezeCopies_84 : decode (mm_Sq_squeezeCopies).2.1 84 = .ok (.iload_n 3, 1) := by decide +kernel
theorem dd_Sq_squeezeCopies_85 : decode (mm_Sq_squeezeCopies).2.1 85 = .ok (.iload_n 2, 1) := by decide +kernel
theorem dd_Sq_squeezeCopies_86 : decode (mm_Sq_squeezeCopies).2.1 86 = .ok (.isub, 1) := by decide +kernel
theorem dd_Sq_squeezeCopies_87 : decode (mm_Sq_squeezeCopies).2.1 87 = .ok (.iload_n 3, 1) := by decide +kernel
theorem dd_Sq_squeezeCopies_88 : decode (mm_Sq_squeezeCopies).2.1 88 = .ok (.aload_n 1, 1) := by decide +kernel
theorem dd_Sq_squeezeCopies_89 : decode (mm_Sq_squeezeCopies).2.1 89 = .ok (.invokestatic 52, 3) := by decide +kernel
theorem dd_Sq_squeezeCopies_92 : decode (mm_Sq_squeezeCopies).2.1 92 = .ok (.return_, 1) := by decide +kernel
theorem dd_Sq_bestDistance_0 : decode (mm_Sq_bestDistance).2.1 0 = .ok (.iconst 1, 1) := by decide +kernel
theorem dd_Sq_bestDistance_1 : decode (mm_Sq_bestDistance).2.1 1 = .ok (.istore_n 2, 1) := by decide +kernel
theorem dd_Sq_bestDistance_2 : decode (mm_Sq_bestDistance).2.1 2 = .ok (.iconst 0, 1) := by decide +kernel
theorem dd_Sq_bestDistance_3 : decode (mm_Sq_bestDistance).2.1 3 = .ok (.istore_n 3, 1) := by decide +kernel
theorem dd_Sq_bestDistance_4 : decode (mm_Sq_bestDistance).2.1 4 = .ok (.iconst 1, 1) := by decide +kernel
theorem dd_Sq_bestDistance_5 : decode (mm_Sq_bestDistance).2.1 5 = .ok (.istore 4, 2) := by decide +kernel
theorem dd_Sq_bestDistance_7 : decode (mm_Sq_bestDistance).2.1 7 = .ok (.iload 4, 2) := by decide +kernel
theorem dd_Sq_bestDistance_9 : decode (mm_Sq_bestDistance).2.1 9 = .ok (.bipush 32, 2) := by decide +kernel
theorem dd_Sq_bestDistance_11 : decode (mm_Sq_bestDistance).2.1 11 = .ok (.if_icmp .gt 36, 3) := by decide +kernel
theorem dd_Sq_bestDistance_14 : decode (mm_Sq_bestDistance).2.1 14 = .ok (.iload 4, 2) := by decide +kernel
theorem dd_Sq_bestDistance_16 : decode (mm_Sq_bestDistance).2.1 16 = .ok (.iload_n 1, 1) := by decide +kernel
theorem dd_Sq_bestDistance_17 : decode (mm_Sq_bestDistance).2.1 17 = .ok (.if_icmp .gt 30, 3) := by decide +kernel
theorem dd_Sq_bestDistance_20 : decode (mm_Sq_bestDistance).2.1 20 = .ok (.aload_n 0, 1) := by decide +kernel
theorem dd_Sq_bestDistance_21 : decode (mm_Sq_bestDistance).2.1 21 = .ok (.iload_n 1, 1) := by decide +kernel
theorem dd_Sq_bestDistance_22 : decode (mm_Sq_bestDistance).2.1 22 = .ok (.iload 4, 2) := by decide +kernel
theorem dd_Sq_bestDistance_24 : decode (mm_Sq_bestDistance).2.1 24 = .ok (.invokestatic 48, 3) := by decide +kernel
theorem dd_Sq_bestDistance_27 : decode (mm_Sq_bestDistance).2.1 27 = .ok (.istore 5, 2) := by decide +kernel
theorem dd_Sq_bestDistance_29 : decode (mm_Sq_bestDistance).2.1 29 = .ok (.iload 5, 2) := by decide +kernel
theorem dd_Sq_bestDistance_31 : decode (mm_Sq_bestDistance).2.1 31 = .ok (.iload_n 3, 1) := by decide +kernel
theorem dd_Sq_bestDistance_32 : decode (mm_Sq_bestDistance).2.1 32 = .ok (.if_icmp .le 9, 3) := by decide +kernel
theorem dd_Sq_bestDistance_35 : decode (mm_Sq_bestDistance).2.1 35 = .ok (.iload 5, 2) := by decide +kernel
theorem dd_Sq_bestDistance_37 : decode (mm_Sq_bestDistance).2.1 37 = .ok (.istore_n 3, 1) := by decide +kernel
theorem dd_Sq_bestDistance_38 : decode (mm_Sq_bestDistance).2.1 38 = .ok (.iload 4, 2) := by decide +kernel
theorem dd_Sq_bestDistance_40 : decode (mm_Sq_bestDistance).2.1 40 = .ok (.istore_n 2, 1) := by decide +kernel
theorem dd_Sq_bestDistance_41 : decode (mm_Sq_bestDistance).2.1 41 = .ok (.iinc 4 1, 3) := by decide +kernel
theorem dd_Sq_bestDistance_44 : decode (mm_Sq_bestDistance).2.1 44 = .ok (.goto (-37), 3) := by decide +kernel
theorem dd_Sq_bestDistance_47 : decode (mm_Sq_bestDistance).2.1 47 = .ok (.iload_n 2, 1) := by decide +kernel
theorem dd_Sq_bestDistance_48 : decode (mm_Sq_bestDistance).2.1 48 = .ok (.ireturn, 1) := by decide +kernel
theorem dd_Sq_copyLength_0 : decode (mm_Sq_copyLength).2.1 0 = .ok (.iconst 0, 1) := by decide +kernel
theorem dd_Sq_copyLength_1 : decode (mm_Sq_copyLength).2.1 1 = .ok (.istore_n 3, 1) := by decide +kernel
theorem dd_Sq_copyLength_2 : decode (mm_Sq_copyLength).2.1 2 = .ok (.iload_n 3, 1) := by decide +kernel
theorem dd_Sq_copyLength_3 : decode (mm_Sq_copyLength).2.1 3 = .ok (.bipush 34, 2) := by decide +kernel
theorem dd_Sq_copyLength_5 : decode (mm_Sq_copyLength).2.1 5 = .ok (.if_icmp .ge 38, 3) := by decide +kernel
theorem dd_Sq_copyLength_8 : decode (mm_Sq_copyLength).2.1 8 = .ok (.iload_n 1, 1) := by decide +kernel
theorem dd_Sq_copyLength_9 : decode (mm_Sq_copyLength).2.1 9 = .ok (.iload_n 3, 1) := by decide +kernel
theorem dd_Sq_copyLength_10 : decode (mm_Sq_copyLength).2.1 10 = .ok (.iadd, 1) := by decide +kernel
theorem dd_Sq_copyLength_11 : decode (mm_Sq_copyLength).2.1 11 = .ok (.aload_n 0, 1) := by decide +kernel
theorem dd_Sq_copyLength_12 : decode (mm_Sq_copyLength).2.1 12 = .ok (.getfield 28, 3) := by decide +kernel
theorem dd_Sq_copyLength_15 : decode (mm_Sq_copyLength).2.1 15 = .ok (.if_icmp .ge 28, 3) := by decide +kernel
theorem dd_Sq_copyLength_18 : decode (mm_Sq_copyLength).2.1 18 = .ok (.aload_n 0, 1) := by decide +kernel
theorem dd_Sq_copyLength_19 : decode (mm_Sq_copyLength).2.1 19 = .ok (.iload_n 1, 1) := by decide +kernel
theorem dd_Sq_copyLength_20 : decode (mm_Sq_copyLength).2.1 20 = .ok (.iload_n 3, 1) := by decide +kernel
theorem dd_Sq_copyLength_21 : decode (mm_Sq_copyLength).2.1 21 = .ok (.iadd, 1) := by decide +kernel
theorem dd_Sq_copyLength_22 : decode (mm_Sq_copyLength).2.1 22 = .ok (.invokevirtual 32, 3) := by decide +kernel
theorem dd_Sq_copyLength_25 : decode (mm_Sq_copyLength).2.1 25 = .ok (.aload_n 0, 1) := by decide +kernel
theorem dd_Sq_copyLength_26 : decode (mm_Sq_copyLength).2.1 26 = .ok (.iload_n 1, 1) := by decide +kernel
theorem dd_Sq_copyLength_27 : decode (mm_Sq_copyLength).2.1 27 = .ok (.iload_n 3, 1) := by decide +kernel
theorem dd_Sq_copyLength_28 : decode (mm_Sq_copyLength).2.1 28 = .ok (.iadd, 1) := by decide +kernel
theorem dd_Sq_copyLength_29 : decode (mm_Sq_copyLength).2.1 29 = .ok (.iload_n 2, 1) := by decide +kernel
theorem dd_Sq_copyLength_30 : decode (mm_Sq_copyLength).2.1 30 = .ok (.isub, 1) := by decide +kernel
theorem dd_Sq_copyLength_31 : decode (mm_Sq_copyLength).2.1 31 = .ok (.invokevirtual 32, 3) := by decide +kernel
theorem dd_Sq_copyLength_34 : decode (mm_Sq_copyLength).2.1 34 = .ok (.if_icmp .ne 9, 3) := by decide +kernel
theorem dd_Sq_copyLength_37 : decode (mm_Sq_copyLength).2.1 37 = .ok (.iinc 3 1, 3) := by decide +kernel
theorem dd_Sq_copyLength_40 : decode (mm_Sq_copyLength).2.1 40 = .ok (.goto (-38), 3) := by decide +kernel
theorem dd_Sq_copyLength_43 : decode (mm_Sq_copyLength).2.1 43 = .ok (.iload_n 3, 1) := by decide +kernel
theorem dd_Sq_copyLength_44 : decode (mm_Sq_copyLength).2.1 44 = .ok (.ireturn, 1) := by decide +kernel
theorem dd_Sq_appendLiterals_0 : decode (mm_Sq_appendLiterals).2.1 0 = .ok (.iload_n 1, 1) := by decide +kernel
theorem dd_Sq_appendLiterals_1 : decode (mm_Sq_appendLiterals).2.1 1 = .ok (.istore 4, 2) := by decide +kernel
theorem dd_Sq_appendLiterals_3 : decode (mm_Sq_appendLiterals).2.1 3 = .ok (.iload 4, 2) := by decide +kernel
theorem dd_Sq_appendLiterals_5 : decode (mm_Sq_appendLiterals).2.1 5 = .ok (.iload_n 2, 1) := by decide +kernel
theorem dd_Sq_appendLiterals_6 : decode (mm_Sq_appendLiterals).2.1 6 = .ok (.if_icmp .ge 42, 3) := by decide +kernel
theorem dd_Sq_appendLiterals_9 : decode (mm_Sq_appendLiterals).2.1 9 = .ok (.bipush 32, 2) := by decide +kernel
theorem dd_Sq_appendLiterals_11 : decode (mm_Sq_appendLiterals).2.1 11 = .ok (.iload_n 2, 1) := by decide +kernel
theorem dd_Sq_appendLiterals_12 : decode (mm_Sq_appendLiterals).2.1 12 = .ok (.iload 4, 2) := by decide +kernel
theorem dd_Sq_appendLiterals_14 : decode (mm_Sq_appendLiterals).2.1 14 = .ok (.isub, 1) := by decide +kernel
theorem dd_Sq_appendLiterals_15 : decode (mm_Sq_appendLiterals).2.1 15 = .ok (.invokestatic 56, 3) := by decide +kernel
theorem dd_Sq_appendLiterals_18 : decode (mm_Sq_appendLiterals).2.1 18 = .ok (.istore 5, 2) := by decide +kernel
theorem dd_Sq_appendLiterals_20 : decode (mm_Sq_appendLiterals).2.1 20 = .ok (.aload_n 3, 1) := by decide +kernel
theorem dd_Sq_appendLiterals_21 : decode (mm_Sq_appendLiterals).2.1 21 = .ok (.iload 5, 2) := by decide +kernel
theorem dd_Sq_appendLiterals_23 : decode (mm_Sq_appendLiterals).2.1 23 = .ok (.iconst 1, 1) := by decide +kernel
theorem dd_Sq_appendLiterals_24 : decode (mm_Sq_appendLiterals).2.1 24 = .ok (.isub, 1) := by decide +kernel
theorem dd_Sq_appendLiterals_25 : decode (mm_Sq_appendLiterals).2.1 25 = .ok (.invokevirtual 40, 3) := by decide +kernel
theorem dd_Sq_appendLiterals_28 : decode (mm_Sq_appendLiterals).2.1 28 = .ok (.pop, 1) := by decide +kernel
theorem dd_Sq_appendLiterals_29 : decode (mm_Sq_appendLiterals).2.1 29 = .ok (.aload_n 3, 1) := by decide +kernel
theorem dd_Sq_appendLiterals_30 : decode (mm_Sq_appendLiterals).2.1 30 = .ok (.aload_n 0, 1) := by decide +kernel
theorem dd_Sq_appendLiterals_31 : decode (mm_Sq_appendLiterals).2.1 31 = .ok (.iload 4, 2) := by decide +kernel
theorem dd_Sq_appendLiterals_33 : decode (mm_Sq_appendLiterals).2.1 33 = .ok (.iload 4, 2) := by decide +kernel
theorem dd_Sq_appendLiterals_35 : decode (mm_Sq_appendLiterals).2.1 35 = .ok (.iload 5, 2) := by decide +kernel
theorem dd_Sq_appendLiterals_37 : decode (mm_Sq_appendLiterals).2.1 37 = .ok (.iadd, 1) := by decide +kernel
theorem dd_Sq_appendLiterals_38 : decode (mm_Sq_appendLiterals).2.1 38 = .ok (.invokevirtual 62, 3) := by decide +kernel
theorem dd_Sq_appendLiterals_41 : decode (mm_Sq_appendLiterals).2.1 41 = .ok (.pop, 1) := by decide +kernel
theorem dd_Sq_appendLiterals_42 : decode (mm_Sq_appendLiterals).2.1 42 = .ok (.iinc 4 32, 3) := by decide +kernel
theorem dd_Sq_appendLiterals_45 : decode (mm_Sq_appendLiterals).2.1 45 = .ok (.goto (-42), 3) := by decide +kernel
theorem dd_Sq_appendLiterals_48 : decode (mm_Sq_appendLiterals).2.1 48 = .ok (.return_, 1) := by decide +kernel
theorem dd_Row_check_0 : decode (mm_Row_check).2.1 0 = .ok (.ldc 45, 2) := by decide +kernel
theorem dd_Row_check_2 : decode (mm_Row_check).2.1 2 = .ok (.istore_n 3, 1) := by decide +kernel
theorem dd_Row_check_3 : decode (mm_Row_check).2.1 3 = .ok (.iload_n 1, 1) := by decide +kernel
theorem dd_Row_check_4 : decode (mm_Row_check).2.1 4 = .ok (.istore 4, 2) := by decide +kernel
theorem dd_Row_check_6 : decode (mm_Row_check).2.1 6 = .ok (.iload 4, 2) := by decide +kernel
theorem dd_Row_check_8 : decode (mm_Row_check).2.1 8 = .ok (.iload_n 2, 1) := by decide +kernel
theorem dd_Row_check_9 : decode (mm_Row_check).2.1 9 = .ok (.if_icmp .ge 20, 3) := by decide +kernel
theorem dd_Row_check_12 : decode (mm_Row_check).2.1 12 = .ok (.iload_n 3, 1) := by decide +kernel
theorem dd_Row_check_13 : decode (mm_Row_check).2.1 13 = .ok (.aload_n 0, 1) := by decide +kernel
theorem dd_Row_check_14 : decode (mm_Row_check).2.1 14 = .ok (.iload 4, 2) := by decide +kernel
theorem dd_Row_check_16 : decode (mm_Row_check).2.1 16 = .ok (.invokevirtual 19, 3) := by decide +kernel
theorem dd_Row_check_19 : decode (mm_Row_check).2.1 19 = .ok (.invokestatic 46, 3) := by decide +kernel
theorem dd_Row_check_22 : decode (mm_Row_check).2.1 22 = .ok (.istore_n 3, 1) := by decide +kernel
theorem dd_Row_check_23 : decode (mm_Row_check).2.1 23 = .ok (.iinc 4 1, 3) := by decide +kernel
theorem dd_Row_check_26 : decode (mm_Row_check).2.1 26 = .ok (.goto (-20), 3) := by decide +kernel
theorem dd_Row_check_29 : decode (mm_Row_check).2.1 29 = .ok (.iload_n 3, 1) := by decide +kernel
theorem dd_Row_check_30 : decode (mm_Row_check).2.1 30 = .ok (.ireturn, 1) := by decide +kernel
theorem dd_Row_checkWith_0 : decode (mm_Row_checkWith).2.1 0 = .ok (.iload_n 0, 1) := by decide +kernel
theorem dd_Row_checkWith_1 : decode (mm_Row_checkWith).2.1 1 = .ok (.istore_n 2, 1) := by decide +kernel
theorem dd_Row_checkWith_2 : decode (mm_Row_checkWith).2.1 2 = .ok (.bipush 7, 2) := by decide +kernel
theorem dd_Row_checkWith_4 : decode (mm_Row_checkWith).2.1 4 = .ok (.istore_n 3, 1) := by decide +kernel
theorem dd_Row_checkWith_5 : decode (mm_Row_checkWith).2.1 5 = .ok (.iload_n 3, 1) := by decide +kernel
theorem dd_Row_checkWith_6 : decode (mm_Row_checkWith).2.1 6 = .ok (.ifCond .lt 42, 3) := by decide +kernel
theorem dd_Row_checkWith_9 : decode (mm_Row_checkWith).2.1 9 = .ok (.iload_n 1, 1) := by decide +kernel
theorem dd_Row_checkWith_10 : decode (mm_Row_checkWith).2.1 10 = .ok (.iload_n 3, 1) := by decide +kernel
theorem dd_Row_checkWith_11 : decode (mm_Row_checkWith).2.1 11 = .ok (.ishr, 1) := by decide +kernel
theorem dd_Row_checkWith_12 : decode (mm_Row_checkWith).2.1 12 = .ok (.iconst 1, 1) := by decide +kernel
theorem dd_Row_checkWith_13 : decode (mm_Row_checkWith).2.1 13 = .ok (.iand, 1) := by decide +kernel
theorem dd_Row_checkWith_14 : decode (mm_Row_checkWith).2.1 14 = .ok (.iload_n 2, 1) := by decide +kernel
theorem dd_Row_checkWith_15 : decode (mm_Row_checkWith).2.1 15 = .ok (.bipush 15, 2) := by decide +kernel
theorem dd_Row_checkWith_17 : decode (mm_Row_checkWith).2.1 17 = .ok (.ishr, 1) := by decide +kernel
theorem dd_Row_checkWith_18 : decode (mm_Row_checkWith).2.1 18 = .ok (.iconst 1, 1) := by decide +kernel
theorem dd_Row_checkWith_19 : decode (mm_Row_checkWith).2.1 19 = .ok (.iand, 1) := by decide +kernel
theorem dd_Row_checkWith_20 : decode (mm_Row_checkWith).2.1 20 = .ok (.ixor, 1) := by decide +kernel
theorem dd_Row_checkWith_21 : decode (mm_Row_checkWith).2.1 21 = .ok (.istore 4, 2) := by decide +kernel
theorem dd_Row_checkWith_23 : decode (mm_Row_checkWith).2.1 23 = .ok (.iload_n 2, 1) := by decide +kernel
theorem dd_Row_checkWith_24 : decode (mm_Row_checkWith).2.1 24 = .ok (.iconst 2, 1) := by decide +kernel
theorem dd_Row_checkWith_25 : decode (mm_Row_checkWith).2.1 25 = .ok (.imul, 1) := by decide +kernel
theorem dd_Row_checkWith_26 : decode (mm_Row_checkWith).2.1 26 = .ok (.ldc 45, 2) := by decide +kernel
theorem dd_Row_checkWith_28 : decode (mm_Row_checkWith).2.1 28 = .ok (.iand, 1) := by decide +kernel
theorem dd_Row_checkWith_29 : decode (mm_Row_checkWith).2.1 29 = .ok (.istore_n 2, 1) := by decide +kernel
theorem dd_Row_checkWith_30 : decode (mm_Row_checkWith).2.1 30 = .ok (.iload 4, 2) := by decide +kernel
theorem dd_Row_checkWith_32 : decode (mm_Row_checkWith).2.1 32 = .ok (.iconst 1, 1) := by decide +kernel
theorem dd_Row_checkWith_33 : decode (mm_Row_checkWith).2.1 33 = .ok (.if_icmp .ne 9, 3) := by decide +kernel
theorem dd_Row_checkWith_36 : decode (mm_Row_checkWith).2.1 36 = .ok (.iload_n 2, 1) := by decide +kernel
theorem dd_Row_checkWith_37 : decode (mm_Row_checkWith).2.1 37 = .ok (.sipush 4129, 3) := by decide +kernel
theorem dd_Row_checkWith_40 : decode (mm_Row_checkWith).2.1 40 = .ok (.ixor, 1) := by decide +kernel
theorem dd_Row_checkWith_41 : decode (mm_Row_checkWith).2.1 41 = .ok (.istore_n 2, 1) := by decide +kernel
theorem dd_Row_checkWith_42 : decode (mm_Row_checkWith).2.1 42 = .ok (.iinc 3 (-1), 3) := by decide +kernel
theorem dd_Row_checkWith_45 : decode (mm_Row_checkWith).2.1 45 = .ok (.goto (-40), 3) := by decide +kernel
theorem dd_Row_checkWith_48 : decode (mm_Row_checkWith).2.1 48 = .ok (.iload_n 2, 1) := by decide +kernel
theorem dd_Row_checkWith_49 : decode (mm_Row_checkWith).2.1 49 = .ok (.ireturn, 1) := by decide +kernel
theorem dd_AB_pack_0 : decode (mm_AB_pack).2.1 0 = .ok (.iload_n 1, 1) := by decide +kernel
theorem dd_AB_pack_1 : decode (mm_AB_pack).2.1 1 = .ok (.ifCond .eq 10, 3) := by decide +kernel
theorem dd_AB_pack_4 : decode (mm_AB_pack).2.1 4 = .ok (.iload_n 1, 1) := by decide +kernel
theorem dd_AB_pack_5 : decode (mm_AB_pack).2.1 5 = .ok (.iconst 1, 1) := by decide +kernel
theorem dd_AB_pack_6 : decode (mm_AB_pack).2.1 6 = .ok (.if_icmp .eq 5, 3) := by decide +kernel
theorem dd_AB_pack_9 : decode (mm_AB_pack).2.1 9 = .ok (.iconst (-1), 1) := by decide +kernel
theorem dd_AB_pack_10 : decode (mm_AB_pack).2.1 10 = .ok (.ireturn, 1) := by decide +kernel
theorem dd_AB_pack_11 : decode (mm_AB_pack).2.1 11 = .ok (.iload_n 1, 1) := by decide +kernel
theorem dd_AB_pack_12 : decode (mm_AB_pack).2.1 12 = .ok (.ifCond .ne 13, 3) := by decide +kernel
theorem dd_AB_pack_15 : decode (mm_AB_pack).2.1 15 = .ok (.aload_n 0, 1) := by decide +kernel
theorem dd_AB_pack_16 : decode (mm_AB_pack).2.1 16 = .ok (.getfield 24, 3) := by decide +kernel
theorem dd_AB_pack_19 : decode (mm_AB_pack).2.1 19 = .ok (.invokevirtual 75, 3) := by decide +kernel
theorem dd_AB_pack_22 : decode (mm_AB_pack).2.1 22 = .ok (.goto 10, 3) := by decide +kernel
theorem dd_AB_pack_25 : decode (mm_AB_pack).2.1 25 = .ok (.aload_n 0, 1) := by decide +kernel
theorem dd_AB_pack_26 : decode (mm_AB_pack).2.1 26 = .ok (.getfield 24, 3) := by decide +kernel
theorem dd_AB_pack_29 : decode (mm_AB_pack).2.1 29 = .ok (.invokevirtual 78, 3) := by decide +kernel
theorem dd_AB_pack_32 : decode (mm_AB_pack).2.1 32 = .ok (.aload_n 0, 1) := by decide +kernel
theorem dd_AB_pack_33 : decode (mm_AB_pack).2.1 33 = .ok (.getfield 24, 3) := by decide +kernel
theorem dd_AB_pack_36 : decode (mm_AB_pack).2.1 36 = .ok (.getfield 81, 3) := by decide +kernel
theorem dd_AB_pack_39 : decode (mm_AB_pack).2.1 39 = .ok (.getfield 48, 3) := by decide +kernel
theorem dd_AB_pack_42 : decode (mm_AB_pack).2.1 42 = .ok (.sipush 600, 3) := by decide +kernel
theorem dd_AB_pack_45 : decode (mm_AB_pack).2.1 45 = .ok (.if_icmp .le 6, 3) := by decide +kernel
theorem dd_AB_pack_48 : decode (mm_AB_pack).2.1 48 = .ok (.bipush (-2), 2) := by decide +kernel
theorem dd_AB_pack_50 : decode (mm_AB_pack).2.1 50 = .ok (.ireturn, 1) := by decide +kernel
theorem dd_AB_pack_51 : decode (mm_AB_pack).2.1 51 = .ok (.aload_n 0, 1) := by decide +kernel
