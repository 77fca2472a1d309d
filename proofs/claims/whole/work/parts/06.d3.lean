theorem dd_Md_init_41 : decode (mm_Md_init).2.1 41 = .ok (.putfield 22, 3) := by decide +kernel
theorem dd_Md_init_44 : decode (mm_Md_init).2.1 44 = .ok (.aload_n 0, 1) := by decide +kernel
theorem dd_Md_init_45 : decode (mm_Md_init).2.1 45 = .ok (.bipush 6, 2) := by decide +kernel
theorem dd_Md_init_47 : decode (mm_Md_init).2.1 47 = .ok (.newarray .int, 2) := by decide +kernel
theorem dd_Md_init_49 : decode (mm_Md_init).2.1 49 = .ok (.putfield 25, 3) := by decide +kernel
theorem dd_Md_init_52 : decode (mm_Md_init).2.1 52 = .ok (.aload_n 0, 1) := by decide +kernel
theorem dd_Md_init_53 : decode (mm_Md_init).2.1 53 = .ok (.sipush 360, 3) := by decide +kernel
theorem dd_Md_init_56 : decode (mm_Md_init).2.1 56 = .ok (.newarray .int, 2) := by decide +kernel
theorem dd_Md_init_58 : decode (mm_Md_init).2.1 58 = .ok (.putfield 28, 3) := by decide +kernel
theorem dd_Md_init_61 : decode (mm_Md_init).2.1 61 = .ok (.aload_n 0, 1) := by decide +kernel
theorem dd_Md_init_62 : decode (mm_Md_init).2.1 62 = .ok (.sipush 600, 3) := by decide +kernel
theorem dd_Md_init_65 : decode (mm_Md_init).2.1 65 = .ok (.newarray .int, 2) := by decide +kernel
theorem dd_Md_init_67 : decode (mm_Md_init).2.1 67 = .ok (.putfield 31, 3) := by decide +kernel
theorem dd_Md_init_70 : decode (mm_Md_init).2.1 70 = .ok (.aload_n 0, 1) := by decide +kernel
theorem dd_Md_init_71 : decode (mm_Md_init).2.1 71 = .ok (.sipush 1200, 3) := by decide +kernel
theorem dd_Md_init_74 : decode (mm_Md_init).2.1 74 = .ok (.newarray .int, 2) := by decide +kernel
theorem dd_Md_init_76 : decode (mm_Md_init).2.1 76 = .ok (.putfield 34, 3) := by decide +kernel
theorem dd_Md_init_79 : decode (mm_Md_init).2.1 79 = .ok (.aload_n 0, 1) := by decide +kernel
theorem dd_Md_init_80 : decode (mm_Md_init).2.1 80 = .ok (.bipush 84, 2) := by decide +kernel
theorem dd_Md_init_82 : decode (mm_Md_init).2.1 82 = .ok (.newarray .int, 2) := by decide +kernel
theorem dd_Md_init_84 : decode (mm_Md_init).2.1 84 = .ok (.putfield 37, 3) := by decide +kernel
theorem dd_Md_init_87 : decode (mm_Md_init).2.1 87 = .ok (.aload_n 0, 1) := by decide +kernel
theorem dd_Md_init_88 : decode (mm_Md_init).2.1 88 = .ok (.iconst (-1), 1) := by decide +kernel
theorem dd_Md_init_89 : decode (mm_Md_init).2.1 89 = .ok (.putfield 40, 3) := by decide +kernel
theorem dd_Md_init_92 : decode (mm_Md_init).2.1 92 = .ok (.aload_n 0, 1) := by decide +kernel
theorem dd_Md_init_93 : decode (mm_Md_init).2.1 93 = .ok (.bipush 60, 2) := by decide +kernel
theorem dd_Md_init_95 : decode (mm_Md_init).2.1 95 = .ok (.newarray .int, 2) := by decide +kernel
theorem dd_Md_init_97 : decode (mm_Md_init).2.1 97 = .ok (.putfield 44, 3) := by decide +kernel
theorem dd_Md_init_100 : decode (mm_Md_init).2.1 100 = .ok (.aload_n 0, 1) := by decide +kernel
theorem dd_Md_init_101 : decode (mm_Md_init).2.1 101 = .ok (.sipush 400, 3) := by decide +kernel
theorem dd_Md_init_104 : decode (mm_Md_init).2.1 104 = .ok (.newarray .int, 2) := by decide +kernel
theorem dd_Md_init_106 : decode (mm_Md_init).2.1 106 = .ok (.putfield 47, 3) := by decide +kernel
theorem dd_Md_init_109 : decode (mm_Md_init).2.1 109 = .ok (.return_, 1) := by decide +kernel
theorem dd_Md_name_0 : decode (mm_Md_name).2.1 0 = .ok (.iload_n 1, 1) := by decide +kernel
theorem dd_Md_name_1 : decode (mm_Md_name).2.1 1 = .ok (.invokestatic 54, 3) := by decide +kernel
theorem dd_Md_name_4 : decode (mm_Md_name).2.1 4 = .ok (.ifCond .ne 5, 3) := by decide +kernel
theorem dd_Md_name_7 : decode (mm_Md_name).2.1 7 = .ok (.iconst (-1), 1) := by decide +kernel
theorem dd_Md_name_8 : decode (mm_Md_name).2.1 8 = .ok (.ireturn, 1) := by decide +kernel
theorem dd_Md_name_9 : decode (mm_Md_name).2.1 9 = .ok (.aload_n 0, 1) := by decide +kernel
theorem dd_Md_name_10 : decode (mm_Md_name).2.1 10 = .ok (.getfield 58, 3) := by decide +kernel
theorem dd_Md_name_13 : decode (mm_Md_name).2.1 13 = .ok (.bipush 8, 2) := by decide +kernel
theorem dd_Md_name_15 : decode (mm_Md_name).2.1 15 = .ok (.if_icmp .ne 6, 3) := by decide +kernel
theorem dd_Md_name_18 : decode (mm_Md_name).2.1 18 = .ok (.bipush (-2), 2) := by decide +kernel
theorem dd_Md_name_20 : decode (mm_Md_name).2.1 20 = .ok (.ireturn, 1) := by decide +kernel
theorem dd_Md_name_21 : decode (mm_Md_name).2.1 21 = .ok (.aload_n 0, 1) := by decide +kernel
theorem dd_Md_name_22 : decode (mm_Md_name).2.1 22 = .ok (.getfield 7, 3) := by decide +kernel
theorem dd_Md_name_25 : decode (mm_Md_name).2.1 25 = .ok (.aload_n 0, 1) := by decide +kernel
theorem dd_Md_name_26 : decode (mm_Md_name).2.1 26 = .ok (.getfield 58, 3) := by decide +kernel
theorem dd_Md_name_29 : decode (mm_Md_name).2.1 29 = .ok (.iload_n 1, 1) := by decide +kernel
theorem dd_Md_name_30 : decode (mm_Md_name).2.1 30 = .ok (.iastore, 1) := by decide +kernel
theorem dd_Md_name_31 : decode (mm_Md_name).2.1 31 = .ok (.aload_n 0, 1) := by decide +kernel
theorem dd_Md_name_32 : decode (mm_Md_name).2.1 32 = .ok (.dup, 1) := by decide +kernel
theorem dd_Md_name_33 : decode (mm_Md_name).2.1 33 = .ok (.getfield 58, 3) := by decide +kernel
theorem dd_Md_name_36 : decode (mm_Md_name).2.1 36 = .ok (.iconst 1, 1) := by decide +kernel
theorem dd_Md_name_37 : decode (mm_Md_name).2.1 37 = .ok (.iadd, 1) := by decide +kernel
theorem dd_Md_name_38 : decode (mm_Md_name).2.1 38 = .ok (.putfield 58, 3) := by decide +kernel
theorem dd_Md_name_41 : decode (mm_Md_name).2.1 41 = .ok (.aload_n 0, 1) := by decide +kernel
theorem dd_Md_name_42 : decode (mm_Md_name).2.1 42 = .ok (.getfield 58, 3) := by decide +kernel
theorem dd_Md_name_45 : decode (mm_Md_name).2.1 45 = .ok (.ireturn, 1) := by decide +kernel
theorem dd_Md_sign_0 : decode (mm_Md_sign).2.1 0 = .ok (.iload_n 0, 1) := by decide +kernel
theorem dd_Md_sign_1 : decode (mm_Md_sign).2.1 1 = .ok (.bipush 97, 2) := by decide +kernel
theorem dd_Md_sign_3 : decode (mm_Md_sign).2.1 3 = .ok (.bipush 122, 2) := by decide +kernel
theorem dd_Md_sign_5 : decode (mm_Md_sign).2.1 5 = .ok (.invokestatic 50, 3) := by decide +kernel
theorem dd_Md_sign_8 : decode (mm_Md_sign).2.1 8 = .ok (.ifCond .ne 15, 3) := by decide +kernel
theorem dd_Md_sign_11 : decode (mm_Md_sign).2.1 11 = .ok (.iload_n 0, 1) := by decide +kernel
theorem dd_Md_sign_12 : decode (mm_Md_sign).2.1 12 = .ok (.bipush 46, 2) := by decide +kernel
theorem dd_Md_sign_14 : decode (mm_Md_sign).2.1 14 = .ok (.if_icmp .eq 9, 3) := by decide +kernel
theorem dd_Md_sign_17 : decode (mm_Md_sign).2.1 17 = .ok (.iload_n 0, 1) := by decide +kernel
theorem dd_Md_sign_18 : decode (mm_Md_sign).2.1 18 = .ok (.bipush 47, 2) := by decide +kernel
theorem dd_Md_sign_20 : decode (mm_Md_sign).2.1 20 = .ok (.if_icmp .ne 7, 3) := by decide +kernel
theorem dd_Md_sign_23 : decode (mm_Md_sign).2.1 23 = .ok (.iconst 1, 1) := by decide +kernel
theorem dd_Md_sign_24 : decode (mm_Md_sign).2.1 24 = .ok (.goto 4, 3) := by decide +kernel
theorem dd_Md_sign_27 : decode (mm_Md_sign).2.1 27 = .ok (.iconst 0, 1) := by decide +kernel
theorem dd_Md_sign_28 : decode (mm_Md_sign).2.1 28 = .ok (.ireturn, 1) := by decide +kernel
theorem dd_Md_in_0 : decode (mm_Md_in).2.1 0 = .ok (.iload_n 0, 1) := by decide +kernel
theorem dd_Md_in_1 : decode (mm_Md_in).2.1 1 = .ok (.iload_n 1, 1) := by decide +kernel
theorem dd_Md_in_2 : decode (mm_Md_in).2.1 2 = .ok (.if_icmp .lt 12, 3) := by decide +kernel
theorem dd_Md_in_5 : decode (mm_Md_in).2.1 5 = .ok (.iload_n 0, 1) := by decide +kernel
theorem dd_Md_in_6 : decode (mm_Md_in).2.1 6 = .ok (.iload_n 2, 1) := by decide +kernel
theorem dd_Md_in_7 : decode (mm_Md_in).2.1 7 = .ok (.if_icmp .gt 7, 3) := by decide +kernel
theorem dd_Md_in_10 : decode (mm_Md_in).2.1 10 = .ok (.iconst 1, 1) := by decide +kernel
theorem dd_Md_in_11 : decode (mm_Md_in).2.1 11 = .ok (.goto 4, 3) := by decide +kernel
theorem dd_Md_in_14 : decode (mm_Md_in).2.1 14 = .ok (.iconst 0, 1) := by decide +kernel
theorem dd_Md_in_15 : decode (mm_Md_in).2.1 15 = .ok (.ireturn, 1) := by decide +kernel
theorem dd_Md_data_0 : decode (mm_Md_data).2.1 0 = .ok (.iload_n 1, 1) := by decide +kernel
theorem dd_Md_data_1 : decode (mm_Md_data).2.1 1 = .ok (.iconst 0, 1) := by decide +kernel
theorem dd_Md_data_2 : decode (mm_Md_data).2.1 2 = .ok (.sipush 255, 3) := by decide +kernel
theorem dd_Md_data_5 : decode (mm_Md_data).2.1 5 = .ok (.invokestatic 50, 3) := by decide +kernel
theorem dd_Md_data_8 : decode (mm_Md_data).2.1 8 = .ok (.ifCond .eq 13, 3) := by decide +kernel
theorem dd_Md_data_11 : decode (mm_Md_data).2.1 11 = .ok (.iload_n 2, 1) := by decide +kernel
theorem dd_Md_data_12 : decode (mm_Md_data).2.1 12 = .ok (.iconst 1, 1) := by decide +kernel
theorem dd_Md_data_13 : decode (mm_Md_data).2.1 13 = .ok (.bipush 60, 2) := by decide +kernel
theorem dd_Md_data_15 : decode (mm_Md_data).2.1 15 = .ok (.invokestatic 50, 3) := by decide +kernel
theorem dd_Md_data_18 : decode (mm_Md_data).2.1 18 = .ok (.ifCond .ne 5, 3) := by decide +kernel
theorem dd_Md_data_21 : decode (mm_Md_data).2.1 21 = .ok (.iconst (-1), 1) := by decide +kernel
theorem dd_Md_data_22 : decode (mm_Md_data).2.1 22 = .ok (.ireturn, 1) := by decide +kernel
theorem dd_Md_data_23 : decode (mm_Md_data).2.1 23 = .ok (.aload_n 0, 1) := by decide +kernel
theorem dd_Md_data_24 : decode (mm_Md_data).2.1 24 = .ok (.getfield 61, 3) := by decide +kernel
theorem dd_Md_data_27 : decode (mm_Md_data).2.1 27 = .ok (.iload_n 2, 1) := by decide +kernel
theorem dd_Md_data_28 : decode (mm_Md_data).2.1 28 = .ok (.iadd, 1) := by decide +kernel
theorem dd_Md_data_29 : decode (mm_Md_data).2.1 29 = .ok (.bipush 60, 2) := by decide +kernel
theorem dd_Md_data_31 : decode (mm_Md_data).2.1 31 = .ok (.if_icmp .le 6, 3) := by decide +kernel
theorem dd_Md_data_34 : decode (mm_Md_data).2.1 34 = .ok (.bipush (-2), 2) := by decide +kernel
theorem dd_Md_data_36 : decode (mm_Md_data).2.1 36 = .ok (.ireturn, 1) := by decide +kernel
theorem dd_Md_data_37 : decode (mm_Md_data).2.1 37 = .ok (.iconst 0, 1) := by decide +kernel
theorem dd_Md_data_38 : decode (mm_Md_data).2.1 38 = .ok (.istore_n 3, 1) := by decide +kernel
theorem dd_Md_data_39 : decode (mm_Md_data).2.1 39 = .ok (.iload_n 3, 1) := by decide +kernel
theorem dd_Md_data_40 : decode (mm_Md_data).2.1 40 = .ok (.iload_n 2, 1) := by decide +kernel
theorem dd_Md_data_41 : decode (mm_Md_data).2.1 41 = .ok (.if_icmp .ge 21, 3) := by decide +kernel
theorem dd_Md_data_44 : decode (mm_Md_data).2.1 44 = .ok (.aload_n 0, 1) := by decide +kernel
theorem dd_Md_data_45 : decode (mm_Md_data).2.1 45 = .ok (.getfield 13, 3) := by decide +kernel
theorem dd_Md_data_48 : decode (mm_Md_data).2.1 48 = .ok (.aload_n 0, 1) := by decide +kernel
theorem dd_Md_data_49 : decode (mm_Md_data).2.1 49 = .ok (.getfield 61, 3) := by decide +kernel
theorem dd_Md_data_52 : decode (mm_Md_data).2.1 52 = .ok (.iload_n 3, 1) := by decide +kernel
theorem dd_Md_data_53 : decode (mm_Md_data).2.1 53 = .ok (.iadd, 1) := by decide +kernel
theorem dd_Md_data_54 : decode (mm_Md_data).2.1 54 = .ok (.iload_n 1, 1) := by decide +kernel
theorem dd_Md_data_55 : decode (mm_Md_data).2.1 55 = .ok (.iastore, 1) := by decide +kernel
theorem dd_Md_data_56 : decode (mm_Md_data).2.1 56 = .ok (.iinc 3 1, 3) := by decide +kernel
theorem dd_Md_data_59 : decode (mm_Md_data).2.1 59 = .ok (.goto (-20), 3) := by decide +kernel
theorem dd_Md_data_62 : decode (mm_Md_data).2.1 62 = .ok (.aload_n 0, 1) := by decide +kernel
theorem dd_Md_data_63 : decode (mm_Md_data).2.1 63 = .ok (.dup, 1) := by decide +kernel
theorem dd_Md_data_64 : decode (mm_Md_data).2.1 64 = .ok (.getfield 61, 3) := by decide +kernel
theorem dd_Md_data_67 : decode (mm_Md_data).2.1 67 = .ok (.iload_n 2, 1) := by decide +kernel
theorem dd_Md_data_68 : decode (mm_Md_data).2.1 68 = .ok (.iadd, 1) := by decide +kernel
theorem dd_Md_data_69 : decode (mm_Md_data).2.1 69 = .ok (.putfield 61, 3) := by decide +kernel
theorem dd_Md_data_72 : decode (mm_Md_data).2.1 72 = .ok (.aload_n 0, 1) := by decide +kernel
theorem dd_Md_data_73 : decode (mm_Md_data).2.1 73 = .ok (.getfield 61, 3) := by decide +kernel
theorem dd_Md_data_76 : decode (mm_Md_data).2.1 76 = .ok (.ireturn, 1) := by decide +kernel
theorem dd_Md_add_0 : decode (mm_Md_add).2.1 0 = .ok (.iload_n 1, 1) := by decide +kernel
theorem dd_Md_add_1 : decode (mm_Md_add).2.1 1 = .ok (.iconst 0, 1) := by decide +kernel
theorem dd_Md_add_2 : decode (mm_Md_add).2.1 2 = .ok (.iconst 2, 1) := by decide +kernel
theorem dd_Md_add_3 : decode (mm_Md_add).2.1 3 = .ok (.invokestatic 50, 3) := by decide +kernel
theorem dd_Md_add_6 : decode (mm_Md_add).2.1 6 = .ok (.ifCond .eq 10, 3) := by decide +kernel
theorem dd_Md_add_9 : decode (mm_Md_add).2.1 9 = .ok (.aload_n 0, 1) := by decide +kernel
theorem dd_Md_add_10 : decode (mm_Md_add).2.1 10 = .ok (.getfield 58, 3) := by decide +kernel
theorem dd_Md_add_13 : decode (mm_Md_add).2.1 13 = .ok (.ifCond .ne 5, 3) := by decide +kernel
theorem dd_Md_add_16 : decode (mm_Md_add).2.1 16 = .ok (.iconst (-1), 1) := by decide +kernel
theorem dd_Md_add_17 : decode (mm_Md_add).2.1 17 = .ok (.ireturn, 1) := by decide +kernel
theorem dd_Md_add_18 : decode (mm_Md_add).2.1 18 = .ok (.aload_n 0, 1) := by decide +kernel
theorem dd_Md_add_19 : decode (mm_Md_add).2.1 19 = .ok (.getfield 64, 3) := by decide +kernel
theorem dd_Md_add_22 : decode (mm_Md_add).2.1 22 = .ok (.bipush 6, 2) := by decide +kernel
theorem dd_Md_add_24 : decode (mm_Md_add).2.1 24 = .ok (.if_icmp .ne 6, 3) := by decide +kernel
theorem dd_Md_add_27 : decode (mm_Md_add).2.1 27 = .ok (.bipush (-2), 2) := by decide +kernel
theorem dd_Md_add_29 : decode (mm_Md_add).2.1 29 = .ok (.ireturn, 1) := by decide +kernel
theorem dd_Md_add_30 : decode (mm_Md_add).2.1 30 = .ok (.aload_n 0, 1) := by decide +kernel
theorem dd_Md_add_31 : decode (mm_Md_add).2.1 31 = .ok (.getfield 16, 3) := by decide +kernel
theorem dd_Md_add_34 : decode (mm_Md_add).2.1 34 = .ok (.aload_n 0, 1) := by decide +kernel
theorem dd_Md_add_35 : decode (mm_Md_add).2.1 35 = .ok (.getfield 64, 3) := by decide +kernel
theorem dd_Md_add_38 : decode (mm_Md_add).2.1 38 = .ok (.iload_n 1, 1) := by decide +kernel
theorem dd_Md_add_39 : decode (mm_Md_add).2.1 39 = .ok (.iastore, 1) := by decide +kernel
theorem dd_Md_add_40 : decode (mm_Md_add).2.1 40 = .ok (.aload_n 0, 1) := by decide +kernel
theorem dd_Md_add_41 : decode (mm_Md_add).2.1 41 = .ok (.getfield 19, 3) := by decide +kernel
theorem dd_Md_add_44 : decode (mm_Md_add).2.1 44 = .ok (.aload_n 0, 1) := by decide +kernel
theorem dd_Md_add_45 : decode (mm_Md_add).2.1 45 = .ok (.getfield 64, 3) := by decide +kernel
theorem dd_Md_add_48 : decode (mm_Md_add).2.1 48 = .ok (.aload_n 0, 1) := by decide +kernel
theorem dd_Md_add_49 : decode (mm_Md_add).2.1 49 = .ok (.getfield 58, 3) := by decide +kernel
theorem dd_Md_add_52 : decode (mm_Md_add).2.1 52 = .ok (.iastore, 1) := by decide +kernel
theorem dd_Md_add_53 : decode (mm_Md_add).2.1 53 = .ok (.aload_n 0, 1) := by decide +kernel
theorem dd_Md_add_54 : decode (mm_Md_add).2.1 54 = .ok (.getfield 25, 3) := by decide +kernel
theorem dd_Md_add_57 : decode (mm_Md_add).2.1 57 = .ok (.aload_n 0, 1) := by decide +kernel
theorem dd_Md_add_58 : decode (mm_Md_add).2.1 58 = .ok (.getfield 64, 3) := by decide +kernel
theorem dd_Md_add_61 : decode (mm_Md_add).2.1 61 = .ok (.aload_n 0, 1) := by decide +kernel
theorem dd_Md_add_62 : decode (mm_Md_add).2.1 62 = .ok (.getfield 61, 3) := by decide +kernel
theorem dd_Md_add_65 : decode (mm_Md_add).2.1 65 = .ok (.iastore, 1) := by decide +kernel
theorem dd_Md_add_66 : decode (mm_Md_add).2.1 66 = .ok (.iconst 0, 1) := by decide +kernel
theorem dd_Md_add_67 : decode (mm_Md_add).2.1 67 = .ok (.istore_n 2, 1) := by decide +kernel
theorem dd_Md_add_68 : decode (mm_Md_add).2.1 68 = .ok (.iload_n 2, 1) := by decide +kernel
theorem dd_Md_add_69 : decode (mm_Md_add).2.1 69 = .ok (.bipush 8, 2) := by decide +kernel
theorem dd_Md_add_71 : decode (mm_Md_add).2.1 71 = .ok (.if_icmp .ge 29, 3) := by decide +kernel
theorem dd_Md_add_74 : decode (mm_Md_add).2.1 74 = .ok (.aload_n 0, 1) := by decide +kernel
theorem dd_Md_add_75 : decode (mm_Md_add).2.1 75 = .ok (.getfield 22, 3) := by decide +kernel
theorem dd_Md_add_78 : decode (mm_Md_add).2.1 78 = .ok (.bipush 8, 2) := by decide +kernel
theorem dd_Md_add_80 : decode (mm_Md_add).2.1 80 = .ok (.aload_n 0, 1) := by decide +kernel
theorem dd_Md_add_81 : decode (mm_Md_add).2.1 81 = .ok (.getfield 64, 3) := by decide +kernel
theorem dd_Md_add_84 : decode (mm_Md_add).2.1 84 = .ok (.imul, 1) := by decide +kernel
theorem dd_Md_add_85 : decode (mm_Md_add).2.1 85 = .ok (.iload_n 2, 1) := by decide +kernel
theorem dd_Md_add_86 : decode (mm_Md_add).2.1 86 = .ok (.iadd, 1) := by decide +kernel
theorem dd_Md_add_87 : decode (mm_Md_add).2.1 87 = .ok (.aload_n 0, 1) := by decide +kernel
theorem dd_Md_add_88 : decode (mm_Md_add).2.1 88 = .ok (.getfield 7, 3) := by decide +kernel
theorem dd_Md_add_91 : decode (mm_Md_add).2.1 91 = .ok (.iload_n 2, 1) := by decide +kernel
theorem dd_Md_add_92 : decode (mm_Md_add).2.1 92 = .ok (.iaload, 1) := by decide +kernel
theorem dd_Md_add_93 : decode (mm_Md_add).2.1 93 = .ok (.iastore, 1) := by decide +kernel
theorem dd_Md_add_94 : decode (mm_Md_add).2.1 94 = .ok (.iinc 2 1, 3) := by decide +kernel
theorem dd_Md_add_97 : decode (mm_Md_add).2.1 97 = .ok (.goto (-29), 3) := by decide +kernel
theorem dd_Md_add_100 : decode (mm_Md_add).2.1 100 = .ok (.iconst 0, 1) := by decide +kernel
theorem dd_Md_add_101 : decode (mm_Md_add).2.1 101 = .ok (.istore_n 2, 1) := by decide +kernel
theorem dd_Md_add_102 : decode (mm_Md_add).2.1 102 = .ok (.iload_n 2, 1) := by decide +kernel
theorem dd_Md_add_103 : decode (mm_Md_add).2.1 103 = .ok (.bipush 60, 2) := by decide +kernel
theorem dd_Md_add_105 : decode (mm_Md_add).2.1 105 = .ok (.if_icmp .ge 29, 3) := by decide +kernel
theorem dd_Md_add_108 : decode (mm_Md_add).2.1 108 = .ok (.aload_n 0, 1) := by decide +kernel
theorem dd_Md_add_109 : decode (mm_Md_add).2.1 109 = .ok (.getfield 28, 3) := by decide +kernel
theorem dd_Md_add_112 : decode (mm_Md_add).2.1 112 = .ok (.bipush 60, 2) := by decide +kernel
theorem dd_Md_add_114 : decode (mm_Md_add).2.1 114 = .ok (.aload_n 0, 1) := by decide +kernel
theorem dd_Md_add_115 : decode (mm_Md_add).2.1 115 = .ok (.getfield 64, 3) := by decide +kernel
theorem dd_Md_add_118 : decode (mm_Md_add).2.1 118 = .ok (.imul, 1) := by decide +kernel
theorem dd_Md_add_119 : decode (mm_Md_add).2.1 119 = .ok (.iload_n 2, 1) := by decide +kernel
theorem dd_Md_add_120 : decode (mm_Md_add).2.1 120 = .ok (.iadd, 1) := by decide +kernel
theorem dd_Md_add_121 : decode (mm_Md_add).2.1 121 = .ok (.aload_n 0, 1) := by decide +kernel
theorem dd_Md_add_122 : decode (mm_Md_add).2.1 122 = .ok (.getfield 13, 3) := by decide +kernel
theorem dd_Md_add_125 : decode (mm_Md_add).2.1 125 = .ok (.iload_n 2, 1) := by decide +kernel
theorem dd_Md_add_126 : decode (mm_Md_add).2.1 126 = .ok (.iaload, 1) := by decide +kernel
theorem dd_Md_add_127 : decode (mm_Md_add).2.1 127 = .ok (.iastore, 1) := by decide +kernel
theorem dd_Md_add_128 : decode (mm_Md_add).2.1 128 = .ok (.iinc 2 1, 3) := by decide +kernel
theorem dd_Md_add_131 : decode (mm_Md_add).2.1 131 = .ok (.goto (-29), 3) := by decide +kernel
theorem dd_Md_add_134 : decode (mm_Md_add).2.1 134 = .ok (.aload_n 0, 1) := by decide +kernel
theorem dd_Md_add_135 : decode (mm_Md_add).2.1 135 = .ok (.dup, 1) := by decide +kernel
theorem dd_Md_add_136 : decode (mm_Md_add).2.1 136 = .ok (.getfield 64, 3) := by decide +kernel
theorem dd_Md_add_139 : decode (mm_Md_add).2.1 139 = .ok (.iconst 1, 1) := by decide +kernel
theorem dd_Md_add_140 : decode (mm_Md_add).2.1 140 = .ok (.iadd, 1) := by decide +kernel
theorem dd_Md_add_141 : decode (mm_Md_add).2.1 141 = .ok (.putfield 64, 3) := by decide +kernel
theorem dd_Md_add_144 : decode (mm_Md_add).2.1 144 = .ok (.aload_n 0, 1) := by decide +kernel
theorem dd_Md_add_145 : decode (mm_Md_add).2.1 145 = .ok (.iconst 0, 1) := by decide +kernel
theorem dd_Md_add_146 : decode (mm_Md_add).2.1 146 = .ok (.putfield 58, 3) := by decide +kernel
theorem dd_Md_add_149 : decode (mm_Md_add).2.1 149 = .ok (.aload_n 0, 1) := by decide +kernel
theorem dd_Md_add_150 : decode (mm_Md_add).2.1 150 = .ok (.iconst 0, 1) := by decide +kernel
theorem dd_Md_add_151 : decode (mm_Md_add).2.1 151 = .ok (.putfield 61, 3) := by decide +kernel
theorem dd_Md_add_154 : decode (mm_Md_add).2.1 154 = .ok (.aload_n 0, 1) := by decide +kernel
theorem dd_Md_add_155 : decode (mm_Md_add).2.1 155 = .ok (.getfield 64, 3) := by decide +kernel
theorem dd_Md_add_158 : decode (mm_Md_add).2.1 158 = .ok (.iconst 1, 1) := by decide +kernel
theorem dd_Md_add_159 : decode (mm_Md_add).2.1 159 = .ok (.isub, 1) := by decide +kernel
theorem dd_Md_add_160 : decode (mm_Md_add).2.1 160 = .ok (.ireturn, 1) := by decide +kernel
theorem dd_Md_pack_0 : decode (mm_Md_pack).2.1 0 = .ok (.iload_n 1, 1) := by decide +kernel
theorem dd_Md_pack_1 : decode (mm_Md_pack).2.1 1 = .ok (.iconst 0, 1) := by decide +kernel
theorem dd_Md_pack_2 : decode (mm_Md_pack).2.1 2 = .ok (.iconst 1, 1) := by decide +kernel
theorem dd_Md_pack_3 : decode (mm_Md_pack).2.1 3 = .ok (.invokestatic 50, 3) := by decide +kernel
theorem dd_Md_pack_6 : decode (mm_Md_pack).2.1 6 = .ok (.ifCond .ne 5, 3) := by decide +kernel
theorem dd_Md_pack_9 : decode (mm_Md_pack).2.1 9 = .ok (.iconst (-1), 1) := by decide +kernel
theorem dd_Md_pack_10 : decode (mm_Md_pack).2.1 10 = .ok (.ireturn, 1) := by decide +kernel
theorem dd_Md_pack_11 : decode (mm_Md_pack).2.1 11 = .ok (.aload_n 0, 1) := by decide +kernel
theorem dd_Md_pack_12 : decode (mm_Md_pack).2.1 12 = .ok (.iconst 0, 1) := by decide +kernel
theorem dd_Md_pack_13 : decode (mm_Md_pack).2.1 13 = .ok (.putfield 96, 3) := by decide +kernel
theorem dd_Md_pack_16 : decode (mm_Md_pack).2.1 16 = .ok (.iload_n 1, 1) := by decide +kernel
theorem dd_Md_pack_17 : decode (mm_Md_pack).2.1 17 = .ok (.ifCond .ne 10, 3) := by decide +kernel
theorem dd_Md_pack_20 : decode (mm_Md_pack).2.1 20 = .ok (.aload_n 0, 1) := by decide +kernel
theorem dd_Md_pack_21 : decode (mm_Md_pack).2.1 21 = .ok (.invokevirtual 118, 3) := by decide +kernel
theorem dd_Md_pack_24 : decode (mm_Md_pack).2.1 24 = .ok (.goto 7, 3) := by decide +kernel
theorem dd_Md_pack_27 : decode (mm_Md_pack).2.1 27 = .ok (.aload_n 0, 1) := by decide +kernel
theorem dd_Md_pack_28 : decode (mm_Md_pack).2.1 28 = .ok (.invokevirtual 121, 3) := by decide +kernel
theorem dd_Md_pack_31 : decode (mm_Md_pack).2.1 31 = .ok (.aload_n 0, 1) := by decide +kernel
theorem dd_Md_pack_32 : decode (mm_Md_pack).2.1 32 = .ok (.getfield 96, 3) := by decide +kernel
theorem dd_Md_pack_35 : decode (mm_Md_pack).2.1 35 = .ok (.sipush 600, 3) := by decide +kernel
theorem dd_Md_pack_38 : decode (mm_Md_pack).2.1 38 = .ok (.if_icmp .le 6, 3) := by decide +kernel
theorem dd_Md_pack_41 : decode (mm_Md_pack).2.1 41 = .ok (.bipush (-2), 2) := by decide +kernel
theorem dd_Md_pack_43 : decode (mm_Md_pack).2.1 43 = .ok (.ireturn, 1) := by decide +kernel
theorem dd_Md_pack_44 : decode (mm_Md_pack).2.1 44 = .ok (.iconst 0, 1) := by decide +kernel
theorem dd_Md_pack_45 : decode (mm_Md_pack).2.1 45 = .ok (.istore_n 2, 1) := by decide +kernel
theorem dd_Md_pack_46 : decode (mm_Md_pack).2.1 46 = .ok (.iload_n 2, 1) := by decide +kernel
theorem dd_Md_pack_47 : decode (mm_Md_pack).2.1 47 = .ok (.aload_n 0, 1) := by decide +kernel
theorem dd_Md_pack_48 : decode (mm_Md_pack).2.1 48 = .ok (.getfield 96, 3) := by decide +kernel
theorem dd_Md_pack_51 : decode (mm_Md_pack).2.1 51 = .ok (.if_icmp .ge 21, 3) := by decide +kernel
theorem dd_Md_pack_54 : decode (mm_Md_pack).2.1 54 = .ok (.aload_n 0, 1) := by decide +kernel
theorem dd_Md_pack_55 : decode (mm_Md_pack).2.1 55 = .ok (.getfield 31, 3) := by decide +kernel
theorem dd_Md_pack_58 : decode (mm_Md_pack).2.1 58 = .ok (.iload_n 2, 1) := by decide +kernel
theorem dd_Md_pack_59 : decode (mm_Md_pack).2.1 59 = .ok (.aload_n 0, 1) := by decide +kernel
theorem dd_Md_pack_60 : decode (mm_Md_pack).2.1 60 = .ok (.getfield 34, 3) := by decide +kernel
theorem dd_Md_pack_63 : decode (mm_Md_pack).2.1 63 = .ok (.iload_n 2, 1) := by decide +kernel
theorem dd_Md_pack_64 : decode (mm_Md_pack).2.1 64 = .ok (.iaload, 1) := by decide +kernel
theorem dd_Md_pack_65 : decode (mm_Md_pack).2.1 65 = .ok (.iastore, 1) := by decide +kernel
theorem dd_Md_pack_66 : decode (mm_Md_pack).2.1 66 = .ok (.iinc 2 1, 3) := by decide +kernel
theorem dd_Md_pack_69 : decode (mm_Md_pack).2.1 69 = .ok (.goto (-23), 3) := by decide +kernel
theorem dd_Md_pack_72 : decode (mm_Md_pack).2.1 72 = .ok (.aload_n 0, 1) := by decide +kernel
theorem dd_Md_pack_73 : decode (mm_Md_pack).2.1 73 = .ok (.aload_n 0, 1) := by decide +kernel
theorem dd_Md_pack_74 : decode (mm_Md_pack).2.1 74 = .ok (.getfield 96, 3) := by decide +kernel
theorem dd_Md_pack_77 : decode (mm_Md_pack).2.1 77 = .ok (.putfield 124, 3) := by decide +kernel
theorem dd_Md_pack_80 : decode (mm_Md_pack).2.1 80 = .ok (.aload_n 0, 1) := by decide +kernel
theorem dd_Md_pack_81 : decode (mm_Md_pack).2.1 81 = .ok (.iconst 0, 1) := by decide +kernel
theorem dd_Md_pack_82 : decode (mm_Md_pack).2.1 82 = .ok (.putfield 64, 3) := by decide +kernel
theorem dd_Md_pack_85 : decode (mm_Md_pack).2.1 85 = .ok (.aload_n 0, 1) := by decide +kernel
theorem dd_Md_pack_86 : decode (mm_Md_pack).2.1 86 = .ok (.iconst 0, 1) := by decide +kernel
theorem dd_Md_pack_87 : decode (mm_Md_pack).2.1 87 = .ok (.putfield 127, 3) := by decide +kernel
theorem dd_Md_pack_90 : decode (mm_Md_pack).2.1 90 = .ok (.aload_n 0, 1) := by decide +kernel
theorem dd_Md_pack_91 : decode (mm_Md_pack).2.1 91 = .ok (.getfield 124, 3) := by decide +kernel
theorem dd_Md_pack_94 : decode (mm_Md_pack).2.1 94 = .ok (.ireturn, 1) := by decide +kernel
theorem dd_Md_chain_0 : decode (mm_Md_chain).2.1 0 = .ok (.iconst 0, 1) := by decide +kernel
theorem dd_Md_chain_1 : decode (mm_Md_chain).2.1 1 = .ok (.istore_n 1, 1) := by decide +kernel
theorem dd_Md_chain_2 : decode (mm_Md_chain).2.1 2 = .ok (.iload_n 1, 1) := by decide +kernel
theorem dd_Md_chain_3 : decode (mm_Md_chain).2.1 3 = .ok (.aload_n 0, 1) := by decide +kernel
theorem dd_Md_chain_4 : decode (mm_Md_chain).2.1 4 = .ok (.getfield 64, 3) := by decide +kernel
theorem dd_Md_chain_7 : decode (mm_Md_chain).2.1 7 = .ok (.if_icmp .ge 117, 3) := by decide +kernel
theorem dd_Md_chain_10 : decode (mm_Md_chain).2.1 10 = .ok (.aload_n 0, 1) := by decide +kernel
theorem dd_Md_chain_11 : decode (mm_Md_chain).2.1 11 = .ok (.getfield 96, 3) := by decide +kernel
theorem dd_Md_chain_14 : decode (mm_Md_chain).2.1 14 = .ok (.istore_n 2, 1) := by decide +kernel
theorem dd_Md_chain_15 : decode (mm_Md_chain).2.1 15 = .ok (.aload_n 0, 1) := by decide +kernel
theorem dd_Md_chain_16 : decode (mm_Md_chain).2.1 16 = .ok (.iload_n 1, 1) := by decide +kernel
theorem dd_Md_chain_17 : decode (mm_Md_chain).2.1 17 = .ok (.invokevirtual 102, 3) := by decide +kernel
theorem dd_Md_chain_20 : decode (mm_Md_chain).2.1 20 = .ok (.aload_n 0, 1) := by decide +kernel
theorem dd_Md_chain_21 : decode (mm_Md_chain).2.1 21 = .ok (.bipush 67, 2) := by decide +kernel
theorem dd_Md_chain_23 : decode (mm_Md_chain).2.1 23 = .ok (.invokevirtual 99, 3) := by decide +kernel
theorem dd_Md_chain_26 : decode (mm_Md_chain).2.1 26 = .ok (.aload_n 0, 1) := by decide +kernel
theorem dd_Md_chain_27 : decode (mm_Md_chain).2.1 27 = .ok (.iload_n 1, 1) := by decide +kernel
theorem dd_Md_chain_28 : decode (mm_Md_chain).2.1 28 = .ok (.invokevirtual 105, 3) := by decide +kernel
theorem dd_Md_chain_31 : decode (mm_Md_chain).2.1 31 = .ok (.aload_n 0, 1) := by decide +kernel
theorem dd_Md_chain_32 : decode (mm_Md_chain).2.1 32 = .ok (.aload_n 0, 1) := by decide +kernel
theorem dd_Md_chain_33 : decode (mm_Md_chain).2.1 33 = .ok (.getfield 67, 3) := by decide +kernel
theorem dd_Md_chain_36 : decode (mm_Md_chain).2.1 36 = .ok (.invokevirtual 99, 3) := by decide +kernel
theorem dd_Md_chain_39 : decode (mm_Md_chain).2.1 39 = .ok (.aload_n 0, 1) := by decide +kernel
theorem dd_Md_chain_40 : decode (mm_Md_chain).2.1 40 = .ok (.aload_n 0, 1) := by decide +kernel
theorem dd_Md_chain_41 : decode (mm_Md_chain).2.1 41 = .ok (.getfield 25, 3) := by decide +kernel
theorem dd_Md_chain_44 : decode (mm_Md_chain).2.1 44 = .ok (.iload_n 1, 1) := by decide +kernel
theorem dd_Md_chain_45 : decode (mm_Md_chain).2.1 45 = .ok (.iaload, 1) := by decide +kernel
theorem dd_Md_chain_46 : decode (mm_Md_chain).2.1 46 = .ok (.invokevirtual 99, 3) := by decide +kernel
theorem dd_Md_chain_49 : decode (mm_Md_chain).2.1 49 = .ok (.aload_n 0, 1) := by decide +kernel
theorem dd_Md_chain_50 : decode (mm_Md_chain).2.1 50 = .ok (.aload_n 0, 1) := by decide +kernel
theorem dd_Md_chain_51 : decode (mm_Md_chain).2.1 51 = .ok (.iload_n 1, 1) := by decide +kernel
theorem dd_Md_chain_52 : decode (mm_Md_chain).2.1 52 = .ok (.invokevirtual 108, 3) := by decide +kernel
theorem dd_Md_chain_55 : decode (mm_Md_chain).2.1 55 = .ok (.invokevirtual 112, 3) := by decide +kernel
theorem dd_Md_chain_58 : decode (mm_Md_chain).2.1 58 = .ok (.iconst 0, 1) := by decide +kernel
theorem dd_Md_chain_59 : decode (mm_Md_chain).2.1 59 = .ok (.istore_n 3, 1) := by decide +kernel
theorem dd_Md_chain_60 : decode (mm_Md_chain).2.1 60 = .ok (.iload_n 2, 1) := by decide +kernel
theorem dd_Md_chain_61 : decode (mm_Md_chain).2.1 61 = .ok (.istore 4, 2) := by decide +kernel
theorem dd_Md_chain_63 : decode (mm_Md_chain).2.1 63 = .ok (.iload 4, 2) := by decide +kernel
theorem dd_Md_chain_65 : decode (mm_Md_chain).2.1 65 = .ok (.aload_n 0, 1) := by decide +kernel
theorem dd_Md_chain_66 : decode (mm_Md_chain).2.1 66 = .ok (.getfield 96, 3) := by decide +kernel
theorem dd_Md_chain_69 : decode (mm_Md_chain).2.1 69 = .ok (.if_icmp .ge 19, 3) := by decide +kernel
theorem dd_Md_chain_72 : decode (mm_Md_chain).2.1 72 = .ok (.iload_n 3, 1) := by decide +kernel
theorem dd_Md_chain_73 : decode (mm_Md_chain).2.1 73 = .ok (.aload_n 0, 1) := by decide +kernel
theorem dd_Md_chain_74 : decode (mm_Md_chain).2.1 74 = .ok (.getfield 34, 3) := by decide +kernel
theorem dd_Md_chain_77 : decode (mm_Md_chain).2.1 77 = .ok (.iload 4, 2) := by decide +kernel
theorem dd_Md_chain_79 : decode (mm_Md_chain).2.1 79 = .ok (.iaload, 1) := by decide +kernel
theorem dd_Md_chain_80 : decode (mm_Md_chain).2.1 80 = .ok (.iadd, 1) := by decide +kernel
theorem dd_Md_chain_81 : decode (mm_Md_chain).2.1 81 = .ok (.istore_n 3, 1) := by decide +kernel
theorem dd_Md_chain_82 : decode (mm_Md_chain).2.1 82 = .ok (.iinc 4 1, 3) := by decide +kernel
theorem dd_Md_chain_85 : decode (mm_Md_chain).2.1 85 = .ok (.goto (-22), 3) := by decide +kernel
theorem dd_Md_chain_88 : decode (mm_Md_chain).2.1 88 = .ok (.aload_n 0, 1) := by decide +kernel
theorem dd_Md_chain_89 : decode (mm_Md_chain).2.1 89 = .ok (.iload_n 3, 1) := by decide +kernel
theorem dd_Md_chain_90 : decode (mm_Md_chain).2.1 90 = .ok (.sipush 255, 3) := by decide +kernel
theorem dd_Md_chain_93 : decode (mm_Md_chain).2.1 93 = .ok (.iand, 1) := by decide +kernel
theorem dd_Md_chain_94 : decode (mm_Md_chain).2.1 94 = .ok (.invokevirtual 99, 3) := by decide +kernel
theorem dd_Md_chain_97 : decode (mm_Md_chain).2.1 97 = .ok (.aload_n 0, 1) := by decide +kernel
theorem dd_Md_chain_98 : decode (mm_Md_chain).2.1 98 = .ok (.invokevirtual 115, 3) := by decide +kernel
theorem dd_Md_chain_101 : decode (mm_Md_chain).2.1 101 = .ok (.aload_n 0, 1) := by decide +kernel
theorem dd_Md_chain_102 : decode (mm_Md_chain).2.1 102 = .ok (.getfield 96, 3) := by decide +kernel
theorem dd_Md_chain_105 : decode (mm_Md_chain).2.1 105 = .ok (.iconst 4, 1) := by decide +kernel
theorem dd_Md_chain_106 : decode (mm_Md_chain).2.1 106 = .ok (.irem, 1) := by decide +kernel
theorem dd_Md_chain_107 : decode (mm_Md_chain).2.1 107 = .ok (.ifCond .eq 11, 3) := by decide +kernel
theorem dd_Md_chain_110 : decode (mm_Md_chain).2.1 110 = .ok (.aload_n 0, 1) := by decide +kernel
theorem dd_Md_chain_111 : decode (mm_Md_chain).2.1 111 = .ok (.iconst 0, 1) := by decide +kernel
theorem dd_Md_chain_112 : decode (mm_Md_chain).2.1 112 = .ok (.invokevirtual 99, 3) := by decide +kernel
theorem dd_Md_chain_115 : decode (mm_Md_chain).2.1 115 = .ok (.goto (-14), 3) := by decide +kernel
theorem dd_Md_chain_118 : decode (mm_Md_chain).2.1 118 = .ok (.iinc 1 1, 3) := by decide +kernel
theorem dd_Md_chain_121 : decode (mm_Md_chain).2.1 121 = .ok (.goto (-119), 3) := by decide +kernel
theorem dd_Md_chain_124 : decode (mm_Md_chain).2.1 124 = .ok (.aload_n 0, 1) := by decide +kernel
theorem dd_Md_chain_125 : decode (mm_Md_chain).2.1 125 = .ok (.bipush 69, 2) := by decide +kernel
theorem dd_Md_chain_127 : decode (mm_Md_chain).2.1 127 = .ok (.invokevirtual 99, 3) := by decide +kernel
theorem dd_Md_chain_130 : decode (mm_Md_chain).2.1 130 = .ok (.return_, 1) := by decide +kernel
theorem dd_Md_squeeze_0 : decode (mm_Md_squeeze).2.1 0 = .ok (.aload_n 0, 1) := by decide +kernel
theorem dd_Md_squeeze_1 : decode (mm_Md_squeeze).2.1 1 = .ok (.iconst 0, 1) := by decide +kernel
theorem dd_Md_squeeze_2 : decode (mm_Md_squeeze).2.1 2 = .ok (.putfield 67, 3) := by decide +kernel
theorem dd_Md_squeeze_5 : decode (mm_Md_squeeze).2.1 5 = .ok (.aload_n 0, 1) := by decide +kernel
theorem dd_Md_squeeze_6 : decode (mm_Md_squeeze).2.1 6 = .ok (.getfield 16, 3) := by decide +kernel
theorem dd_Md_squeeze_9 : decode (mm_Md_squeeze).2.1 9 = .ok (.iload_n 1, 1) := by decide +kernel
theorem dd_Md_squeeze_10 : decode (mm_Md_squeeze).2.1 10 = .ok (.iaload, 1) := by decide +kernel
theorem dd_Md_squeeze_11 : decode (mm_Md_squeeze).2.1 11 = .ok (.iconst 1, 1) := by decide +kernel
theorem dd_Md_squeeze_12 : decode (mm_Md_squeeze).2.1 12 = .ok (.if_icmp .ne 11, 3) := by decide +kernel
theorem dd_Md_squeeze_15 : decode (mm_Md_squeeze).2.1 15 = .ok (.aload_n 0, 1) := by decide +kernel
theorem dd_Md_squeeze_16 : decode (mm_Md_squeeze).2.1 16 = .ok (.iload_n 1, 1) := by decide +kernel
theorem dd_Md_squeeze_17 : decode (mm_Md_squeeze).2.1 17 = .ok (.invokevirtual 86, 3) := by decide +kernel
theorem dd_Md_squeeze_20 : decode (mm_Md_squeeze).2.1 20 = .ok (.goto 49, 3) := by decide +kernel
theorem dd_Md_squeeze_23 : decode (mm_Md_squeeze).2.1 23 = .ok (.aload_n 0, 1) := by decide +kernel
theorem dd_Md_squeeze_24 : decode (mm_Md_squeeze).2.1 24 = .ok (.getfield 16, 3) := by decide +kernel
theorem dd_Md_squeeze_27 : decode (mm_Md_squeeze).2.1 27 = .ok (.iload_n 1, 1) := by decide +kernel
theorem dd_Md_squeeze_28 : decode (mm_Md_squeeze).2.1 28 = .ok (.iaload, 1) := by decide +kernel
theorem dd_Md_squeeze_29 : decode (mm_Md_squeeze).2.1 29 = .ok (.iconst 2, 1) := by decide +kernel
theorem dd_Md_squeeze_30 : decode (mm_Md_squeeze).2.1 30 = .ok (.if_icmp .ne 11, 3) := by decide +kernel
theorem dd_Md_squeeze_33 : decode (mm_Md_squeeze).2.1 33 = .ok (.aload_n 0, 1) := by decide +kernel
theorem dd_Md_squeeze_34 : decode (mm_Md_squeeze).2.1 34 = .ok (.iload_n 1, 1) := by decide +kernel
theorem dd_Md_squeeze_35 : decode (mm_Md_squeeze).2.1 35 = .ok (.invokevirtual 89, 3) := by decide +kernel
theorem dd_Md_squeeze_38 : decode (mm_Md_squeeze).2.1 38 = .ok (.goto 31, 3) := by decide +kernel
theorem dd_Md_squeeze_41 : decode (mm_Md_squeeze).2.1 41 = .ok (.iconst 0, 1) := by decide +kernel
theorem dd_Md_squeeze_42 : decode (mm_Md_squeeze).2.1 42 = .ok (.istore_n 2, 1) := by decide +kernel
theorem dd_Md_squeeze_43 : decode (mm_Md_squeeze).2.1 43 = .ok (.iload_n 2, 1) := by decide +kernel
theorem dd_Md_squeeze_44 : decode (mm_Md_squeeze).2.1 44 = .ok (.aload_n 0, 1) := by decide +kernel
theorem dd_Md_squeeze_45 : decode (mm_Md_squeeze).2.1 45 = .ok (.getfield 25, 3) := by decide +kernel
theorem dd_Md_squeeze_48 : decode (mm_Md_squeeze).2.1 48 = .ok (.iload_n 1, 1) := by decide +kernel
theorem dd_Md_squeeze_49 : decode (mm_Md_squeeze).2.1 49 = .ok (.iaload, 1) := by decide +kernel
theorem dd_Md_squeeze_50 : decode (mm_Md_squeeze).2.1 50 = .ok (.if_icmp .ge 19, 3) := by decide +kernel
theorem dd_Md_squeeze_53 : decode (mm_Md_squeeze).2.1 53 = .ok (.aload_n 0, 1) := by decide +kernel
theorem dd_Md_squeeze_54 : decode (mm_Md_squeeze).2.1 54 = .ok (.aload_n 0, 1) := by decide +kernel
theorem dd_Md_squeeze_55 : decode (mm_Md_squeeze).2.1 55 = .ok (.iload_n 1, 1) := by decide +kernel
theorem dd_Md_squeeze_56 : decode (mm_Md_squeeze).2.1 56 = .ok (.iload_n 2, 1) := by decide +kernel
theorem dd_Md_squeeze_57 : decode (mm_Md_squeeze).2.1 57 = .ok (.invokevirtual 70, 3) := by decide +kernel
theorem dd_Md_squeeze_60 : decode (mm_Md_squeeze).2.1 60 = .ok (.invokevirtual 74, 3) := by decide +kernel
theorem dd_Md_squeeze_63 : decode (mm_Md_squeeze).2.1 63 = .ok (.iinc 2 1, 3) := by decide +kernel
theorem dd_Md_squeeze_66 : decode (mm_Md_squeeze).2.1 66 = .ok (.goto (-23), 3) := by decide +kernel
theorem dd_Md_squeeze_69 : decode (mm_Md_squeeze).2.1 69 = .ok (.return_, 1) := by decide +kernel
theorem dd_Md_runs_0 : decode (mm_Md_runs).2.1 0 = .ok (.iconst 0, 1) := by decide +kernel
theorem dd_Md_runs_1 : decode (mm_Md_runs).2.1 1 = .ok (.istore_n 2, 1) := by decide +kernel
theorem dd_Md_runs_2 : decode (mm_Md_runs).2.1 2 = .ok (.iload_n 2, 1) := by decide +kernel
theorem dd_Md_runs_3 : decode (mm_Md_runs).2.1 3 = .ok (.aload_n 0, 1) := by decide +kernel
theorem dd_Md_runs_4 : decode (mm_Md_runs).2.1 4 = .ok (.getfield 25, 3) := by decide +kernel
theorem dd_Md_runs_7 : decode (mm_Md_runs).2.1 7 = .ok (.iload_n 1, 1) := by decide +kernel
theorem dd_Md_runs_8 : decode (mm_Md_runs).2.1 8 = .ok (.iaload, 1) := by decide +kernel
theorem dd_Md_runs_9 : decode (mm_Md_runs).2.1 9 = .ok (.if_icmp .ge 112, 3) := by decide +kernel
theorem dd_Md_runs_12 : decode (mm_Md_runs).2.1 12 = .ok (.aload_n 0, 1) := by decide +kernel
theorem dd_Md_runs_13 : decode (mm_Md_runs).2.1 13 = .ok (.iload_n 1, 1) := by decide +kernel
theorem dd_Md_runs_14 : decode (mm_Md_runs).2.1 14 = .ok (.iload_n 2, 1) := by decide +kernel
theorem dd_Md_runs_15 : decode (mm_Md_runs).2.1 15 = .ok (.invokevirtual 70, 3) := by decide +kernel
theorem dd_Md_runs_18 : decode (mm_Md_runs).2.1 18 = .ok (.istore_n 3, 1) := by decide +kernel
theorem dd_Md_runs_19 : decode (mm_Md_runs).2.1 19 = .ok (.iconst 1, 1) := by decide +kernel
theorem dd_Md_runs_20 : decode (mm_Md_runs).2.1 20 = .ok (.istore 4, 2) := by decide +kernel
theorem dd_Md_runs_22 : decode (mm_Md_runs).2.1 22 = .ok (.iload 4, 2) := by decide +kernel
theorem dd_Md_runs_24 : decode (mm_Md_runs).2.1 24 = .ok (.bipush 9, 2) := by decide +kernel
theorem dd_Md_runs_26 : decode (mm_Md_runs).2.1 26 = .ok (.if_icmp .ge 22, 3) := by decide +kernel
theorem dd_Md_runs_29 : decode (mm_Md_runs).2.1 29 = .ok (.aload_n 0, 1) := by decide +kernel
theorem dd_Md_runs_30 : decode (mm_Md_runs).2.1 30 = .ok (.iload_n 1, 1) := by decide +kernel
theorem dd_Md_runs_31 : decode (mm_Md_runs).2.1 31 = .ok (.iload_n 2, 1) := by decide +kernel
theorem dd_Md_runs_32 : decode (mm_Md_runs).2.1 32 = .ok (.iload 4, 2) := by decide +kernel
theorem dd_Md_runs_34 : decode (mm_Md_runs).2.1 34 = .ok (.iadd, 1) := by decide +kernel
theorem dd_Md_runs_35 : decode (mm_Md_runs).2.1 35 = .ok (.invokevirtual 70, 3) := by decide +kernel
theorem dd_Md_runs_38 : decode (mm_Md_runs).2.1 38 = .ok (.iload_n 3, 1) := by decide +kernel
theorem dd_Md_runs_39 : decode (mm_Md_runs).2.1 39 = .ok (.if_icmp .ne 9, 3) := by decide +kernel
theorem dd_Md_runs_42 : decode (mm_Md_runs).2.1 42 = .ok (.iinc 4 1, 3) := by decide +kernel
theorem dd_Md_runs_45 : decode (mm_Md_runs).2.1 45 = .ok (.goto (-23), 3) := by decide +kernel
theorem dd_Md_runs_48 : decode (mm_Md_runs).2.1 48 = .ok (.iload 4, 2) := by decide +kernel
theorem dd_Md_runs_50 : decode (mm_Md_runs).2.1 50 = .ok (.iconst 3, 1) := by decide +kernel
theorem dd_Md_runs_51 : decode (mm_Md_runs).2.1 51 = .ok (.if_icmp .ge 14, 3) := by decide +kernel
theorem dd_Md_runs_54 : decode (mm_Md_runs).2.1 54 = .ok (.iload_n 3, 1) := by decide +kernel
theorem dd_Md_runs_55 : decode (mm_Md_runs).2.1 55 = .ok (.sipush 246, 3) := by decide +kernel
theorem dd_Md_runs_58 : decode (mm_Md_runs).2.1 58 = .ok (.if_icmp .ge 7, 3) := by decide +kernel
theorem dd_Md_runs_61 : decode (mm_Md_runs).2.1 61 = .ok (.iconst 1, 1) := by decide +kernel
theorem dd_Md_runs_62 : decode (mm_Md_runs).2.1 62 = .ok (.goto 4, 3) := by decide +kernel
theorem dd_Md_runs_65 : decode (mm_Md_runs).2.1 65 = .ok (.iconst 0, 1) := by decide +kernel
theorem dd_Md_runs_66 : decode (mm_Md_runs).2.1 66 = .ok (.istore 5, 2) := by decide +kernel
theorem dd_Md_runs_68 : decode (mm_Md_runs).2.1 68 = .ok (.iload 5, 2) := by decide +kernel
theorem dd_Md_runs_70 : decode (mm_Md_runs).2.1 70 = .ok (.ifCond .ne 13, 3) := by decide +kernel
theorem dd_Md_runs_73 : decode (mm_Md_runs).2.1 73 = .ok (.aload_n 0, 1) := by decide +kernel
theorem dd_Md_runs_74 : decode (mm_Md_runs).2.1 74 = .ok (.sipush 246, 3) := by decide +kernel
theorem dd_Md_runs_77 : decode (mm_Md_runs).2.1 77 = .ok (.iload 4, 2) := by decide +kernel
theorem dd_Md_runs_79 : decode (mm_Md_runs).2.1 79 = .ok (.iadd, 1) := by decide +kernel
theorem dd_Md_runs_80 : decode (mm_Md_runs).2.1 80 = .ok (.invokevirtual 74, 3) := by decide +kernel
theorem dd_Md_runs_83 : decode (mm_Md_runs).2.1 83 = .ok (.iconst 0, 1) := by decide +kernel
theorem dd_Md_runs_84 : decode (mm_Md_runs).2.1 84 = .ok (.istore 6, 2) := by decide +kernel
theorem dd_Md_runs_86 : decode (mm_Md_runs).2.1 86 = .ok (.iload 6, 2) := by decide +kernel
theorem dd_Md_runs_88 : decode (mm_Md_runs).2.1 88 = .ok (.iload 5, 2) := by decide +kernel
theorem dd_Md_runs_90 : decode (mm_Md_runs).2.1 90 = .ok (.ifCond .eq 8, 3) := by decide +kernel
theorem dd_Md_runs_93 : decode (mm_Md_runs).2.1 93 = .ok (.iload 4, 2) := by decide +kernel
theorem dd_Md_runs_95 : decode (mm_Md_runs).2.1 95 = .ok (.goto 4, 3) := by decide +kernel
theorem dd_Md_runs_98 : decode (mm_Md_runs).2.1 98 = .ok (.iconst 1, 1) := by decide +kernel
theorem dd_Md_runs_99 : decode (mm_Md_runs).2.1 99 = .ok (.if_icmp .ge 14, 3) := by decide +kernel
theorem dd_Md_runs_102 : decode (mm_Md_runs).2.1 102 = .ok (.aload_n 0, 1) := by decide +kernel
theorem dd_Md_runs_103 : decode (mm_Md_runs).2.1 103 = .ok (.iload_n 3, 1) := by decide +kernel
theorem dd_Md_runs_104 : decode (mm_Md_runs).2.1 104 = .ok (.invokevirtual 74, 3) := by decide +kernel
theorem dd_Md_runs_107 : decode (mm_Md_runs).2.1 107 = .ok (.iinc 6 1, 3) := by decide +kernel
theorem dd_Md_runs_110 : decode (mm_Md_runs).2.1 110 = .ok (.goto (-24), 3) := by decide +kernel
theorem dd_Md_runs_113 : decode (mm_Md_runs).2.1 113 = .ok (.iload_n 2, 1) := by decide +kernel
theorem dd_Md_runs_114 : decode (mm_Md_runs).2.1 114 = .ok (.iload 4, 2) := by decide +kernel
theorem dd_Md_runs_116 : decode (mm_Md_runs).2.1 116 = .ok (.iadd, 1) := by decide +kernel
theorem dd_Md_runs_117 : decode (mm_Md_runs).2.1 117 = .ok (.istore_n 2, 1) := by decide +kernel
theorem dd_Md_runs_118 : decode (mm_Md_runs).2.1 118 = .ok (.goto (-116), 3) := by decide +kernel
theorem dd_Md_runs_121 : decode (mm_Md_runs).2.1 121 = .ok (.return_, 1) := by decide +kernel
theorem dd_Md_byteOf_0 : decode (mm_Md_byteOf).2.1 0 = .ok (.iload_n 2, 1) := by decide +kernel
theorem dd_Md_byteOf_1 : decode (mm_Md_byteOf).2.1 1 = .ok (.ifCond .lt 27, 3) := by decide +kernel
theorem dd_Md_byteOf_4 : decode (mm_Md_byteOf).2.1 4 = .ok (.iload_n 2, 1) := by decide +kernel
theorem dd_Md_byteOf_5 : decode (mm_Md_byteOf).2.1 5 = .ok (.aload_n 0, 1) := by decide +kernel
theorem dd_Md_byteOf_6 : decode (mm_Md_byteOf).2.1 6 = .ok (.getfield 25, 3) := by decide +kernel
theorem dd_Md_byteOf_9 : decode (mm_Md_byteOf).2.1 9 = .ok (.iload_n 1, 1) := by decide +kernel
theorem dd_Md_byteOf_10 : decode (mm_Md_byteOf).2.1 10 = .ok (.iaload, 1) := by decide +kernel
theorem dd_Md_byteOf_11 : decode (mm_Md_byteOf).2.1 11 = .ok (.if_icmp .ge 17, 3) := by decide +kernel
theorem dd_Md_byteOf_14 : decode (mm_Md_byteOf).2.1 14 = .ok (.aload_n 0, 1) := by decide +kernel
theorem dd_Md_byteOf_15 : decode (mm_Md_byteOf).2.1 15 = .ok (.getfield 28, 3) := by decide +kernel
theorem dd_Md_byteOf_18 : decode (mm_Md_byteOf).2.1 18 = .ok (.bipush 60, 2) := by decide +kernel
theorem dd_Md_byteOf_20 : decode (mm_Md_byteOf).2.1 20 = .ok (.iload_n 1, 1) := by decide +kernel
theorem dd_Md_byteOf_21 : decode (mm_Md_byteOf).2.1 21 = .ok (.imul, 1) := by decide +kernel
theorem dd_Md_byteOf_22 : decode (mm_Md_byteOf).2.1 22 = .ok (.iload_n 2, 1) := by decide +kernel
theorem dd_Md_byteOf_23 : decode (mm_Md_byteOf).2.1 23 = .ok (.iadd, 1) := by decide +kernel
theorem dd_Md_byteOf_24 : decode (mm_Md_byteOf).2.1 24 = .ok (.iaload, 1) := by decide +kernel
theorem dd_Md_byteOf_25 : decode (mm_Md_byteOf).2.1 25 = .ok (.goto 4, 3) := by decide +kernel
theorem dd_Md_byteOf_28 : decode (mm_Md_byteOf).2.1 28 = .ok (.iconst (-1), 1) := by decide +kernel
theorem dd_Md_byteOf_29 : decode (mm_Md_byteOf).2.1 29 = .ok (.ireturn, 1) := by decide +kernel
theorem dd_Md_push_0 : decode (mm_Md_push).2.1 0 = .ok (.aload_n 0, 1) := by decide +kernel
theorem dd_Md_push_1 : decode (mm_Md_push).2.1 1 = .ok (.getfield 47, 3) := by decide +kernel
theorem dd_Md_push_4 : decode (mm_Md_push).2.1 4 = .ok (.aload_n 0, 1) := by decide +kernel
theorem dd_Md_push_5 : decode (mm_Md_push).2.1 5 = .ok (.getfield 67, 3) := by decide +kernel
theorem dd_Md_push_8 : decode (mm_Md_push).2.1 8 = .ok (.iload_n 1, 1) := by decide +kernel
theorem dd_Md_push_9 : decode (mm_Md_push).2.1 9 = .ok (.iastore, 1) := by decide +kernel
theorem dd_Md_push_10 : decode (mm_Md_push).2.1 10 = .ok (.aload_n 0, 1) := by decide +kernel
theorem dd_Md_push_11 : decode (mm_Md_push).2.1 11 = .ok (.dup, 1) := by decide +kernel
theorem dd_Md_push_12 : decode (mm_Md_push).2.1 12 = .ok (.getfield 67, 3) := by decide +kernel
theorem dd_Md_push_15 : decode (mm_Md_push).2.1 15 = .ok (.iconst 1, 1) := by decide +kernel
theorem dd_Md_push_16 : decode (mm_Md_push).2.1 16 = .ok (.iadd, 1) := by decide +kernel
theorem dd_Md_push_17 : decode (mm_Md_push).2.1 17 = .ok (.putfield 67, 3) := by decide +kernel
theorem dd_Md_push_20 : decode (mm_Md_push).2.1 20 = .ok (.return_, 1) := by decide +kernel
theorem dd_Md_copies_0 : decode (mm_Md_copies).2.1 0 = .ok (.iconst 0, 1) := by decide +kernel
theorem dd_Md_copies_1 : decode (mm_Md_copies).2.1 1 = .ok (.istore_n 2, 1) := by decide +kernel
theorem dd_Md_copies_2 : decode (mm_Md_copies).2.1 2 = .ok (.iconst 0, 1) := by decide +kernel
theorem dd_Md_copies_3 : decode (mm_Md_copies).2.1 3 = .ok (.istore_n 3, 1) := by decide +kernel
theorem dd_Md_copies_4 : decode (mm_Md_copies).2.1 4 = .ok (.iload_n 2, 1) := by decide +kernel
theorem dd_Md_copies_5 : decode (mm_Md_copies).2.1 5 = .ok (.aload_n 0, 1) := by decide +kernel
theorem dd_Md_copies_6 : decode (mm_Md_copies).2.1 6 = .ok (.getfield 25, 3) := by decide +kernel
theorem dd_Md_copies_9 : decode (mm_Md_copies).2.1 9 = .ok (.iload_n 1, 1) := by decide +kernel
theorem dd_Md_copies_10 : decode (mm_Md_copies).2.1 10 = .ok (.iaload, 1) := by decide +kernel
theorem dd_Md_copies_11 : decode (mm_Md_copies).2.1 11 = .ok (.if_icmp .ge 109, 3) := by decide +kernel
theorem dd_Md_copies_14 : decode (mm_Md_copies).2.1 14 = .ok (.iconst 0, 1) := by decide +kernel
theorem dd_Md_copies_15 : decode (mm_Md_copies).2.1 15 = .ok (.istore 4, 2) := by decide +kernel
theorem dd_Md_copies_17 : decode (mm_Md_copies).2.1 17 = .ok (.iconst 1, 1) := by decide +kernel
theorem dd_Md_copies_18 : decode (mm_Md_copies).2.1 18 = .ok (.istore 5, 2) := by decide +kernel
theorem dd_Md_copies_20 : decode (mm_Md_copies).2.1 20 = .ok (.iload 5, 2) := by decide +kernel
theorem dd_Md_copies_22 : decode (mm_Md_copies).2.1 22 = .ok (.bipush 32, 2) := by decide +kernel
theorem dd_Md_copies_24 : decode (mm_Md_copies).2.1 24 = .ok (.if_icmp .gt 41, 3) := by decide +kernel
theorem dd_Md_copies_27 : decode (mm_Md_copies).2.1 27 = .ok (.aload_n 0, 1) := by decide +kernel
theorem dd_Md_copies_28 : decode (mm_Md_copies).2.1 28 = .ok (.iload_n 1, 1) := by decide +kernel
theorem dd_Md_copies_29 : decode (mm_Md_copies).2.1 29 = .ok (.iload_n 2, 1) := by decide +kernel
theorem dd_Md_copies_30 : decode (mm_Md_copies).2.1 30 = .ok (.iload 5, 2) := by decide +kernel
theorem dd_Md_copies_32 : decode (mm_Md_copies).2.1 32 = .ok (.invokevirtual 78, 3) := by decide +kernel
theorem dd_Md_copies_35 : decode (mm_Md_copies).2.1 35 = .ok (.iload 4, 2) := by decide +kernel
theorem dd_Md_copies_37 : decode (mm_Md_copies).2.1 37 = .ok (.ifCond .ne 7, 3) := by decide +kernel
theorem dd_Md_copies_40 : decode (mm_Md_copies).2.1 40 = .ok (.iconst 0, 1) := by decide +kernel
theorem dd_Md_copies_41 : decode (mm_Md_copies).2.1 41 = .ok (.goto 11, 3) := by decide +kernel
theorem dd_Md_copies_44 : decode (mm_Md_copies).2.1 44 = .ok (.aload_n 0, 1) := by decide +kernel
theorem dd_Md_copies_45 : decode (mm_Md_copies).2.1 45 = .ok (.iload_n 1, 1) := by decide +kernel
theorem dd_Md_copies_46 : decode (mm_Md_copies).2.1 46 = .ok (.iload_n 2, 1) := by decide +kernel
theorem dd_Md_copies_47 : decode (mm_Md_copies).2.1 47 = .ok (.iload 4, 2) := by decide +kernel
theorem dd_Md_copies_49 : decode (mm_Md_copies).2.1 49 = .ok (.invokevirtual 78, 3) := by decide +kernel
theorem dd_Md_copies_52 : decode (mm_Md_copies).2.1 52 = .ok (.if_icmp .le 7, 3) := by decide +kernel
theorem dd_Md_copies_55 : decode (mm_Md_copies).2.1 55 = .ok (.iload 5, 2) := by decide +kernel
theorem dd_Md_copies_57 : decode (mm_Md_copies).2.1 57 = .ok (.istore 4, 2) := by decide +kernel
theorem dd_Md_copies_59 : decode (mm_Md_copies).2.1 59 = .ok (.iinc 5 1, 3) := by decide +kernel
theorem dd_Md_copies_62 : decode (mm_Md_copies).2.1 62 = .ok (.goto (-42), 3) := by decide +kernel
theorem dd_Md_copies_65 : decode (mm_Md_copies).2.1 65 = .ok (.iload 4, 2) := by decide +kernel
theorem dd_Md_copies_67 : decode (mm_Md_copies).2.1 67 = .ok (.ifCond .ne 9, 3) := by decide +kernel
theorem dd_Md_copies_70 : decode (mm_Md_copies).2.1 70 = .ok (.iinc 2 1, 3) := by decide +kernel
theorem dd_Md_copies_73 : decode (mm_Md_copies).2.1 73 = .ok (.goto (-69), 3) := by decide +kernel
theorem dd_Md_copies_76 : decode (mm_Md_copies).2.1 76 = .ok (.aload_n 0, 1) := by decide +kernel
theorem dd_Md_copies_77 : decode (mm_Md_copies).2.1 77 = .ok (.iload_n 1, 1) := by decide +kernel
theorem dd_Md_copies_78 : decode (mm_Md_copies).2.1 78 = .ok (.iload_n 2, 1) := by decide +kernel
theorem dd_Md_copies_79 : decode (mm_Md_copies).2.1 79 = .ok (.iload 4, 2) := by decide +kernel
theorem dd_Md_copies_81 : decode (mm_Md_copies).2.1 81 = .ok (.invokevirtual 78, 3) := by decide +kernel
theorem dd_Md_copies_84 : decode (mm_Md_copies).2.1 84 = .ok (.istore 5, 2) := by decide +kernel
theorem dd_Md_copies_86 : decode (mm_Md_copies).2.1 86 = .ok (.aload_n 0, 1) := by decide +kernel
theorem dd_Md_copies_87 : decode (mm_Md_copies).2.1 87 = .ok (.iload_n 1, 1) := by decide +kernel
theorem dd_Md_copies_88 : decode (mm_Md_copies).2.1 88 = .ok (.iload_n 3, 1) := by decide +kernel
theorem dd_Md_copies_89 : decode (mm_Md_copies).2.1 89 = .ok (.iload_n 2, 1) := by decide +kernel
theorem dd_Md_copies_90 : decode (mm_Md_copies).2.1 90 = .ok (.invokevirtual 82, 3) := by decide +kernel
theorem dd_Md_copies_93 : decode (mm_Md_copies).2.1 93 = .ok (.aload_n 0, 1) := by decide +kernel
theorem dd_Md_copies_94 : decode (mm_Md_copies).2.1 94 = .ok (.bipush 29, 2) := by decide +kernel
theorem dd_Md_copies_96 : decode (mm_Md_copies).2.1 96 = .ok (.iload 5, 2) := by decide +kernel
theorem dd_Md_copies_98 : decode (mm_Md_copies).2.1 98 = .ok (.iadd, 1) := by decide +kernel
theorem dd_Md_copies_99 : decode (mm_Md_copies).2.1 99 = .ok (.invokevirtual 74, 3) := by decide +kernel
theorem dd_Md_copies_102 : decode (mm_Md_copies).2.1 102 = .ok (.aload_n 0, 1) := by decide +kernel
theorem dd_Md_copies_103 : decode (mm_Md_copies).2.1 103 = .ok (.iload 4, 2) := by decide +kernel
theorem dd_Md_copies_105 : decode (mm_Md_copies).2.1 105 = .ok (.iconst 1, 1) := by decide +kernel
theorem dd_Md_copies_106 : decode (mm_Md_copies).2.1 106 = .ok (.isub, 1) := by decide +kernel
theorem dd_Md_copies_107 : decode (mm_Md_copies).2.1 107 = .ok (.invokevirtual 74, 3) := by decide +kernel
theorem dd_Md_copies_110 : decode (mm_Md_copies).2.1 110 = .ok (.iload_n 2, 1) := by decide +kernel
theorem dd_Md_copies_111 : decode (mm_Md_copies).2.1 111 = .ok (.iload 5, 2) := by decide +kernel
theorem dd_Md_copies_113 : decode (mm_Md_copies).2.1 113 = .ok (.iadd, 1) := by decide +kernel
theorem dd_Md_copies_114 : decode (mm_Md_copies).2.1 114 = .ok (.istore_n 2, 1) := by decide +kernel
theorem dd_Md_copies_115 : decode (mm_Md_copies).2.1 115 = .ok (.iload_n 2, 1) := by decide +kernel
theorem dd_Md_copies_116 : decode (mm_Md_copies).2.1 116 = .ok (.istore_n 3, 1) := by decide +kernel
theorem dd_Md_copies_117 : decode (mm_Md_copies).2.1 117 = .ok (.goto (-113), 3) := by decide +kernel
theorem dd_Md_copies_120 : decode (mm_Md_copies).2.1 120 = .ok (.aload_n 0, 1) := by decide +kernel
theorem dd_Md_copies_121 : decode (mm_Md_copies).2.1 121 = .ok (.iload_n 1, 1) := by decide +kernel
theorem dd_Md_copies_122 : decode (mm_Md_copies).2.1 122 = .ok (.iload_n 3, 1) := by decide +kernel
theorem dd_Md_copies_123 : decode (mm_Md_copies).2.1 123 = .ok (.iload_n 2, 1) := by decide +kernel
theorem dd_Md_copies_124 : decode (mm_Md_copies).2.1 124 = .ok (.invokevirtual 82, 3) := by decide +kernel
theorem dd_Md_copies_127 : decode (mm_Md_copies).2.1 127 = .ok (.return_, 1) := by decide +kernel
theorem dd_Md_copyLength_0 : decode (mm_Md_copyLength).2.1 0 = .ok (.iconst 0, 1) := by decide +kernel
theorem dd_Md_copyLength_1 : decode (mm_Md_copyLength).2.1 1 = .ok (.istore 4, 2) := by decide +kernel
theorem dd_Md_copyLength_3 : decode (mm_Md_copyLength).2.1 3 = .ok (.iload_n 3, 1) := by decide +kernel
theorem dd_Md_copyLength_4 : decode (mm_Md_copyLength).2.1 4 = .ok (.iload_n 2, 1) := by decide +kernel
theorem dd_Md_copyLength_5 : decode (mm_Md_copyLength).2.1 5 = .ok (.if_icmp .le 5, 3) := by decide +kernel
theorem dd_Md_copyLength_8 : decode (mm_Md_copyLength).2.1 8 = .ok (.iconst 0, 1) := by decide +kernel
theorem dd_Md_copyLength_9 : decode (mm_Md_copyLength).2.1 9 = .ok (.ireturn, 1) := by decide +kernel
theorem dd_Md_copyLength_10 : decode (mm_Md_copyLength).2.1 10 = .ok (.iload 4, 2) := by decide +kernel
theorem dd_Md_copyLength_12 : decode (mm_Md_copyLength).2.1 12 = .ok (.bipush 34, 2) := by decide +kernel
theorem dd_Md_copyLength_14 : decode (mm_Md_copyLength).2.1 14 = .ok (.if_icmp .ge 45, 3) := by decide +kernel
theorem dd_Md_copyLength_17 : decode (mm_Md_copyLength).2.1 17 = .ok (.iload_n 2, 1) := by decide +kernel
theorem dd_Md_copyLength_18 : decode (mm_Md_copyLength).2.1 18 = .ok (.iload 4, 2) := by decide +kernel
theorem dd_Md_copyLength_20 : decode (mm_Md_copyLength).2.1 20 = .ok (.iadd, 1) := by decide +kernel
theorem dd_Md_copyLength_21 : decode (mm_Md_copyLength).2.1 21 = .ok (.aload_n 0, 1) := by decide +kernel
theorem dd_Md_copyLength_22 : decode (mm_Md_copyLength).2.1 22 = .ok (.getfield 25, 3) := by decide +kernel
theorem dd_Md_copyLength_25 : decode (mm_Md_copyLength).2.1 25 = .ok (.iload_n 1, 1) := by decide +kernel
theorem dd_Md_copyLength_26 : decode (mm_Md_copyLength).2.1 26 = .ok (.iaload, 1) := by decide +kernel
theorem dd_Md_copyLength_27 : decode (mm_Md_copyLength).2.1 27 = .ok (.if_icmp .ge 32, 3) := by decide +kernel
theorem dd_Md_copyLength_30 : decode (mm_Md_copyLength).2.1 30 = .ok (.aload_n 0, 1) := by decide +kernel
theorem dd_Md_copyLength_31 : decode (mm_Md_copyLength).2.1 31 = .ok (.iload_n 1, 1) := by decide +kernel
theorem dd_Md_copyLength_32 : decode (mm_Md_copyLength).2.1 32 = .ok (.iload_n 2, 1) := by decide +kernel
theorem dd_Md_copyLength_33 : decode (mm_Md_copyLength).2.1 33 = .ok (.iload 4, 2) := by decide +kernel
theorem dd_Md_copyLength_35 : decode (mm_Md_copyLength).2.1 35 = .ok (.iadd, 1) := by decide +kernel
theorem dd_Md_copyLength_36 : decode (mm_Md_copyLength).2.1 36 = .ok (.invokevirtual 70, 3) := by decide +kernel
theorem dd_Md_copyLength_39 : decode (mm_Md_copyLength).2.1 39 = .ok (.aload_n 0, 1) := by decide +kernel
theorem dd_Md_copyLength_40 : decode (mm_Md_copyLength).2.1 40 = .ok (.iload_n 1, 1) := by decide +kernel
theorem dd_Md_copyLength_41 : decode (mm_Md_copyLength).2.1 41 = .ok (.iload_n 2, 1) := by decide +kernel
theorem dd_Md_copyLength_42 : decode (mm_Md_copyLength).2.1 42 = .ok (.iload 4, 2) := by decide +kernel
theorem dd_Md_copyLength_44 : decode (mm_Md_copyLength).2.1 44 = .ok (.iadd, 1) := by decide +kernel
theorem dd_Md_copyLength_45 : decode (mm_Md_copyLength).2.1 45 = .ok (.iload_n 3, 1) := by decide +kernel
theorem dd_Md_copyLength_46 : decode (mm_Md_copyLength).2.1 46 = .ok (.isub, 1) := by decide +kernel
theorem dd_Md_copyLength_47 : decode (mm_Md_copyLength).2.1 47 = .ok (.invokevirtual 70, 3) := by decide +kernel
theorem dd_Md_copyLength_50 : decode (mm_Md_copyLength).2.1 50 = .ok (.if_icmp .ne 9, 3) := by decide +kernel
theorem dd_Md_copyLength_53 : decode (mm_Md_copyLength).2.1 53 = .ok (.iinc 4 1, 3) := by decide +kernel
theorem dd_Md_copyLength_56 : decode (mm_Md_copyLength).2.1 56 = .ok (.goto (-46), 3) := by decide +kernel
theorem dd_Md_copyLength_59 : decode (mm_Md_copyLength).2.1 59 = .ok (.iload 4, 2) := by decide +kernel
theorem dd_Md_copyLength_61 : decode (mm_Md_copyLength).2.1 61 = .ok (.iconst 3, 1) := by decide +kernel
theorem dd_Md_copyLength_62 : decode (mm_Md_copyLength).2.1 62 = .ok (.if_icmp .ge 7, 3) := by decide +kernel
theorem dd_Md_copyLength_65 : decode (mm_Md_copyLength).2.1 65 = .ok (.iconst 0, 1) := by decide +kernel
theorem dd_Md_copyLength_66 : decode (mm_Md_copyLength).2.1 66 = .ok (.goto 5, 3) := by decide +kernel
theorem dd_Md_copyLength_69 : decode (mm_Md_copyLength).2.1 69 = .ok (.iload 4, 2) := by decide +kernel
theorem dd_Md_copyLength_71 : decode (mm_Md_copyLength).2.1 71 = .ok (.ireturn, 1) := by decide +kernel
theorem dd_Md_literals_0 : decode (mm_Md_literals).2.1 0 = .ok (.iload_n 2, 1) := by decide +kernel
theorem dd_Md_literals_1 : decode (mm_Md_literals).2.1 1 = .ok (.istore 4, 2) := by decide +kernel
theorem dd_Md_literals_3 : decode (mm_Md_literals).2.1 3 = .ok (.iload 4, 2) := by decide +kernel
theorem dd_Md_literals_5 : decode (mm_Md_literals).2.1 5 = .ok (.iload_n 3, 1) := by decide +kernel
theorem dd_Md_literals_6 : decode (mm_Md_literals).2.1 6 = .ok (.if_icmp .ge 54, 3) := by decide +kernel
theorem dd_Md_literals_9 : decode (mm_Md_literals).2.1 9 = .ok (.iload 4, 2) := by decide +kernel
theorem dd_Md_literals_11 : decode (mm_Md_literals).2.1 11 = .ok (.iload_n 2, 1) := by decide +kernel
theorem dd_Md_literals_12 : decode (mm_Md_literals).2.1 12 = .ok (.isub, 1) := by decide +kernel
theorem dd_Md_literals_13 : decode (mm_Md_literals).2.1 13 = .ok (.bipush 32, 2) := by decide +kernel
theorem dd_Md_literals_15 : decode (mm_Md_literals).2.1 15 = .ok (.irem, 1) := by decide +kernel
theorem dd_Md_literals_16 : decode (mm_Md_literals).2.1 16 = .ok (.ifCond .ne 27, 3) := by decide +kernel
theorem dd_Md_literals_19 : decode (mm_Md_literals).2.1 19 = .ok (.aload_n 0, 1) := by decide +kernel
theorem dd_Md_literals_20 : decode (mm_Md_literals).2.1 20 = .ok (.iload_n 3, 1) := by decide +kernel
theorem dd_Md_literals_21 : decode (mm_Md_literals).2.1 21 = .ok (.iload 4, 2) := by decide +kernel
theorem dd_Md_literals_23 : decode (mm_Md_literals).2.1 23 = .ok (.isub, 1) := by decide +kernel
theorem dd_Md_literals_24 : decode (mm_Md_literals).2.1 24 = .ok (.bipush 32, 2) := by decide +kernel
theorem dd_Md_literals_26 : decode (mm_Md_literals).2.1 26 = .ok (.if_icmp .ge 12, 3) := by decide +kernel
theorem dd_Md_literals_29 : decode (mm_Md_literals).2.1 29 = .ok (.iload_n 3, 1) := by decide +kernel
theorem dd_Md_literals_30 : decode (mm_Md_literals).2.1 30 = .ok (.iload 4, 2) := by decide +kernel
theorem dd_Md_literals_32 : decode (mm_Md_literals).2.1 32 = .ok (.isub, 1) := by decide +kernel
theorem dd_Md_literals_33 : decode (mm_Md_literals).2.1 33 = .ok (.iconst 1, 1) := by decide +kernel
theorem dd_Md_literals_34 : decode (mm_Md_literals).2.1 34 = .ok (.isub, 1) := by decide +kernel
theorem dd_Md_literals_35 : decode (mm_Md_literals).2.1 35 = .ok (.goto 5, 3) := by decide +kernel
theorem dd_Md_literals_38 : decode (mm_Md_literals).2.1 38 = .ok (.bipush 31, 2) := by decide +kernel
theorem dd_Md_literals_40 : decode (mm_Md_literals).2.1 40 = .ok (.invokevirtual 74, 3) := by decide +kernel
theorem dd_Md_literals_43 : decode (mm_Md_literals).2.1 43 = .ok (.aload_n 0, 1) := by decide +kernel
theorem dd_Md_literals_44 : decode (mm_Md_literals).2.1 44 = .ok (.aload_n 0, 1) := by decide +kernel
theorem dd_Md_literals_45 : decode (mm_Md_literals).2.1 45 = .ok (.iload_n 1, 1) := by decide +kernel
theorem dd_Md_literals_46 : decode (mm_Md_literals).2.1 46 = .ok (.iload 4, 2) := by decide +kernel
theorem dd_Md_literals_48 : decode (mm_Md_literals).2.1 48 = .ok (.invokevirtual 70, 3) := by decide +kernel
theorem dd_Md_literals_51 : decode (mm_Md_literals).2.1 51 = .ok (.invokevirtual 74, 3) := by decide +kernel
theorem dd_Md_literals_54 : decode (mm_Md_literals).2.1 54 = .ok (.iinc 4 1, 3) := by decide +kernel
theorem dd_Md_literals_57 : decode (mm_Md_literals).2.1 57 = .ok (.goto (-54), 3) := by decide +kernel
theorem dd_Md_literals_60 : decode (mm_Md_literals).2.1 60 = .ok (.return_, 1) := by decide +kernel
theorem dd_Md_say_0 : decode (mm_Md_say).2.1 0 = .ok (.aload_n 0, 1) := by decide +kernel
theorem dd_Md_say_1 : decode (mm_Md_say).2.1 1 = .ok (.getfield 34, 3) := by decide +kernel
theorem dd_Md_say_4 : decode (mm_Md_say).2.1 4 = .ok (.aload_n 0, 1) := by decide +kernel
theorem dd_Md_say_5 : decode (mm_Md_say).2.1 5 = .ok (.getfield 96, 3) := by decide +kernel
theorem dd_Md_say_8 : decode (mm_Md_say).2.1 8 = .ok (.iload_n 1, 1) := by decide +kernel
theorem dd_Md_say_9 : decode (mm_Md_say).2.1 9 = .ok (.iastore, 1) := by decide +kernel
theorem dd_Md_say_10 : decode (mm_Md_say).2.1 10 = .ok (.aload_n 0, 1) := by decide +kernel
theorem dd_Md_say_11 : decode (mm_Md_say).2.1 11 = .ok (.dup, 1) := by decide +kernel
theorem dd_Md_say_12 : decode (mm_Md_say).2.1 12 = .ok (.getfield 96, 3) := by decide +kernel
theorem dd_Md_say_15 : decode (mm_Md_say).2.1 15 = .ok (.iconst 1, 1) := by decide +kernel
theorem dd_Md_say_16 : decode (mm_Md_say).2.1 16 = .ok (.iadd, 1) := by decide +kernel
theorem dd_Md_say_17 : decode (mm_Md_say).2.1 17 = .ok (.putfield 96, 3) := by decide +kernel
theorem dd_Md_say_20 : decode (mm_Md_say).2.1 20 = .ok (.return_, 1) := by decide +kernel
theorem dd_Md_sayHead_0 : decode (mm_Md_sayHead).2.1 0 = .ok (.aload_n 0, 1) := by decide +kernel
theorem dd_Md_sayHead_1 : decode (mm_Md_sayHead).2.1 1 = .ok (.aload_n 0, 1) := by decide +kernel
theorem dd_Md_sayHead_2 : decode (mm_Md_sayHead).2.1 2 = .ok (.getfield 16, 3) := by decide +kernel
theorem dd_Md_sayHead_5 : decode (mm_Md_sayHead).2.1 5 = .ok (.iload_n 1, 1) := by decide +kernel
theorem dd_Md_sayHead_6 : decode (mm_Md_sayHead).2.1 6 = .ok (.iaload, 1) := by decide +kernel
theorem dd_Md_sayHead_7 : decode (mm_Md_sayHead).2.1 7 = .ok (.invokevirtual 99, 3) := by decide +kernel
theorem dd_Md_sayHead_10 : decode (mm_Md_sayHead).2.1 10 = .ok (.aload_n 0, 1) := by decide +kernel
theorem dd_Md_sayHead_11 : decode (mm_Md_sayHead).2.1 11 = .ok (.aload_n 0, 1) := by decide +kernel
theorem dd_Md_sayHead_12 : decode (mm_Md_sayHead).2.1 12 = .ok (.getfield 19, 3) := by decide +kernel
theorem dd_Md_sayHead_15 : decode (mm_Md_sayHead).2.1 15 = .ok (.iload_n 1, 1) := by decide +kernel
theorem dd_Md_sayHead_16 : decode (mm_Md_sayHead).2.1 16 = .ok (.iaload, 1) := by decide +kernel
theorem dd_Md_sayHead_17 : decode (mm_Md_sayHead).2.1 17 = .ok (.invokevirtual 99, 3) := by decide +kernel
theorem dd_Md_sayHead_20 : decode (mm_Md_sayHead).2.1 20 = .ok (.iconst 0, 1) := by decide +kernel
theorem dd_Md_sayHead_21 : decode (mm_Md_sayHead).2.1 21 = .ok (.istore_n 2, 1) := by decide +kernel
theorem dd_Md_sayHead_22 : decode (mm_Md_sayHead).2.1 22 = .ok (.iload_n 2, 1) := by decide +kernel
theorem dd_Md_sayHead_23 : decode (mm_Md_sayHead).2.1 23 = .ok (.aload_n 0, 1) := by decide +kernel
theorem dd_Md_sayHead_24 : decode (mm_Md_sayHead).2.1 24 = .ok (.getfield 19, 3) := by decide +kernel
theorem dd_Md_sayHead_27 : decode (mm_Md_sayHead).2.1 27 = .ok (.iload_n 1, 1) := by decide +kernel
theorem dd_Md_sayHead_28 : decode (mm_Md_sayHead).2.1 28 = .ok (.iaload, 1) := by decide +kernel
theorem dd_Md_sayHead_29 : decode (mm_Md_sayHead).2.1 29 = .ok (.if_icmp .ge 24, 3) := by decide +kernel
theorem dd_Md_sayHead_32 : decode (mm_Md_sayHead).2.1 32 = .ok (.aload_n 0, 1) := by decide +kernel
theorem dd_Md_sayHead_33 : decode (mm_Md_sayHead).2.1 33 = .ok (.aload_n 0, 1) := by decide +kernel
theorem dd_Md_sayHead_34 : decode (mm_Md_sayHead).2.1 34 = .ok (.getfield 22, 3) := by decide +kernel
theorem dd_Md_sayHead_37 : decode (mm_Md_sayHead).2.1 37 = .ok (.bipush 8, 2) := by decide +kernel
theorem dd_Md_sayHead_39 : decode (mm_Md_sayHead).2.1 39 = .ok (.iload_n 1, 1) := by decide +kernel
theorem dd_Md_sayHead_40 : decode (mm_Md_sayHead).2.1 40 = .ok (.imul, 1) := by decide +kernel
theorem dd_Md_sayHead_41 : decode (mm_Md_sayHead).2.1 41 = .ok (.iload_n 2, 1) := by decide +kernel
theorem dd_Md_sayHead_42 : decode (mm_Md_sayHead).2.1 42 = .ok (.iadd, 1) := by decide +kernel
theorem dd_Md_sayHead_43 : decode (mm_Md_sayHead).2.1 43 = .ok (.iaload, 1) := by decide +kernel
theorem dd_Md_sayHead_44 : decode (mm_Md_sayHead).2.1 44 = .ok (.invokevirtual 99, 3) := by decide +kernel
theorem dd_Md_sayHead_47 : decode (mm_Md_sayHead).2.1 47 = .ok (.iinc 2 1, 3) := by decide +kernel
theorem dd_Md_sayHead_50 : decode (mm_Md_sayHead).2.1 50 = .ok (.goto (-28), 3) := by decide +kernel
theorem dd_Md_sayHead_53 : decode (mm_Md_sayHead).2.1 53 = .ok (.return_, 1) := by decide +kernel
theorem dd_Md_checkOf_0 : decode (mm_Md_checkOf).2.1 0 = .ok (.ldc 92, 2) := by decide +kernel
theorem dd_Md_checkOf_2 : decode (mm_Md_checkOf).2.1 2 = .ok (.istore_n 2, 1) := by decide +kernel
theorem dd_Md_checkOf_3 : decode (mm_Md_checkOf).2.1 3 = .ok (.iconst 0, 1) := by decide +kernel
theorem dd_Md_checkOf_4 : decode (mm_Md_checkOf).2.1 4 = .ok (.istore_n 3, 1) := by decide +kernel
theorem dd_Md_checkOf_5 : decode (mm_Md_checkOf).2.1 5 = .ok (.iload_n 3, 1) := by decide +kernel
theorem dd_Md_checkOf_6 : decode (mm_Md_checkOf).2.1 6 = .ok (.aload_n 0, 1) := by decide +kernel
theorem dd_Md_checkOf_7 : decode (mm_Md_checkOf).2.1 7 = .ok (.getfield 25, 3) := by decide +kernel
theorem dd_Md_checkOf_10 : decode (mm_Md_checkOf).2.1 10 = .ok (.iload_n 1, 1) := by decide +kernel
theorem dd_Md_checkOf_11 : decode (mm_Md_checkOf).2.1 11 = .ok (.iaload, 1) := by decide +kernel
theorem dd_Md_checkOf_12 : decode (mm_Md_checkOf).2.1 12 = .ok (.if_icmp .ge 20, 3) := by decide +kernel
theorem dd_Md_checkOf_15 : decode (mm_Md_checkOf).2.1 15 = .ok (.iload_n 2, 1) := by decide +kernel
theorem dd_Md_checkOf_16 : decode (mm_Md_checkOf).2.1 16 = .ok (.aload_n 0, 1) := by decide +kernel
theorem dd_Md_checkOf_17 : decode (mm_Md_checkOf).2.1 17 = .ok (.iload_n 1, 1) := by decide +kernel
theorem dd_Md_checkOf_18 : decode (mm_Md_checkOf).2.1 18 = .ok (.iload_n 3, 1) := by decide +kernel
theorem dd_Md_checkOf_19 : decode (mm_Md_checkOf).2.1 19 = .ok (.invokevirtual 70, 3) := by decide +kernel
theorem dd_Md_checkOf_22 : decode (mm_Md_checkOf).2.1 22 = .ok (.invokestatic 93, 3) := by decide +kernel
theorem dd_Md_checkOf_25 : decode (mm_Md_checkOf).2.1 25 = .ok (.istore_n 2, 1) := by decide +kernel
theorem dd_Md_checkOf_26 : decode (mm_Md_checkOf).2.1 26 = .ok (.iinc 3 1, 3) := by decide +kernel
theorem dd_Md_checkOf_29 : decode (mm_Md_checkOf).2.1 29 = .ok (.goto (-24), 3) := by decide +kernel
theorem dd_Md_checkOf_32 : decode (mm_Md_checkOf).2.1 32 = .ok (.iload_n 2, 1) := by decide +kernel
theorem dd_Md_checkOf_33 : decode (mm_Md_checkOf).2.1 33 = .ok (.ireturn, 1) := by decide +kernel
theorem dd_Md_checked_0 : decode (mm_Md_checked).2.1 0 = .ok (.iload_n 0, 1) := by decide +kernel
