theorem dd_AB_pack_52 : decode (mm_AB_pack).2.1 52 = .ok (.getfield 31, 3) := by decide +kernel
theorem dd_AB_pack_55 : decode (mm_AB_pack).2.1 55 = .ok (.getfield 84, 3) := by decide +kernel
theorem dd_AB_pack_58 : decode (mm_AB_pack).2.1 58 = .ok (.aload_n 0, 1) := by decide +kernel
theorem dd_AB_pack_59 : decode (mm_AB_pack).2.1 59 = .ok (.getfield 24, 3) := by decide +kernel
theorem dd_AB_pack_62 : decode (mm_AB_pack).2.1 62 = .ok (.getfield 81, 3) := by decide +kernel
theorem dd_AB_pack_65 : decode (mm_AB_pack).2.1 65 = .ok (.invokevirtual 87, 3) := by decide +kernel
theorem dd_AB_pack_68 : decode (mm_AB_pack).2.1 68 = .ok (.aload_n 0, 1) := by decide +kernel
theorem dd_AB_pack_69 : decode (mm_AB_pack).2.1 69 = .ok (.getfield 31, 3) := by decide +kernel
theorem dd_AB_pack_72 : decode (mm_AB_pack).2.1 72 = .ok (.invokevirtual 90, 3) := by decide +kernel
theorem dd_AB_pack_75 : decode (mm_AB_pack).2.1 75 = .ok (.aload_n 0, 1) := by decide +kernel
theorem dd_AB_pack_76 : decode (mm_AB_pack).2.1 76 = .ok (.getfield 24, 3) := by decide +kernel
theorem dd_AB_pack_79 : decode (mm_AB_pack).2.1 79 = .ok (.iconst 0, 1) := by decide +kernel
theorem dd_AB_pack_80 : decode (mm_AB_pack).2.1 80 = .ok (.putfield 59, 3) := by decide +kernel
theorem dd_AB_pack_83 : decode (mm_AB_pack).2.1 83 = .ok (.aload_n 0, 1) := by decide +kernel
theorem dd_AB_pack_84 : decode (mm_AB_pack).2.1 84 = .ok (.getfield 31, 3) := by decide +kernel
theorem dd_AB_pack_87 : decode (mm_AB_pack).2.1 87 = .ok (.getfield 84, 3) := by decide +kernel
theorem dd_AB_pack_90 : decode (mm_AB_pack).2.1 90 = .ok (.getfield 48, 3) := by decide +kernel
theorem dd_AB_pack_93 : decode (mm_AB_pack).2.1 93 = .ok (.ireturn, 1) := by decide +kernel
theorem dd_Pk_draftChain_0 : decode (mm_Pk_draftChain).2.1 0 = .ok (.aload_n 0, 1) := by decide +kernel
theorem dd_Pk_draftChain_1 : decode (mm_Pk_draftChain).2.1 1 = .ok (.getfield 27, 3) := by decide +kernel
theorem dd_Pk_draftChain_4 : decode (mm_Pk_draftChain).2.1 4 = .ok (.iconst 0, 1) := by decide +kernel
theorem dd_Pk_draftChain_5 : decode (mm_Pk_draftChain).2.1 5 = .ok (.invokevirtual 31, 3) := by decide +kernel
theorem dd_Pk_draftChain_8 : decode (mm_Pk_draftChain).2.1 8 = .ok (.iconst 0, 1) := by decide +kernel
theorem dd_Pk_draftChain_9 : decode (mm_Pk_draftChain).2.1 9 = .ok (.istore_n 1, 1) := by decide +kernel
theorem dd_Pk_draftChain_10 : decode (mm_Pk_draftChain).2.1 10 = .ok (.iload_n 1, 1) := by decide +kernel
theorem dd_Pk_draftChain_11 : decode (mm_Pk_draftChain).2.1 11 = .ok (.aload_n 0, 1) := by decide +kernel
theorem dd_Pk_draftChain_12 : decode (mm_Pk_draftChain).2.1 12 = .ok (.getfield 18, 3) := by decide +kernel
theorem dd_Pk_draftChain_15 : decode (mm_Pk_draftChain).2.1 15 = .ok (.if_icmp .ge 19, 3) := by decide +kernel
theorem dd_Pk_draftChain_18 : decode (mm_Pk_draftChain).2.1 18 = .ok (.aload_n 0, 1) := by decide +kernel
theorem dd_Pk_draftChain_19 : decode (mm_Pk_draftChain).2.1 19 = .ok (.aload_n 0, 1) := by decide +kernel
theorem dd_Pk_draftChain_20 : decode (mm_Pk_draftChain).2.1 20 = .ok (.getfield 11, 3) := by decide +kernel
theorem dd_Pk_draftChain_23 : decode (mm_Pk_draftChain).2.1 23 = .ok (.iload_n 1, 1) := by decide +kernel
theorem dd_Pk_draftChain_24 : decode (mm_Pk_draftChain).2.1 24 = .ok (.aaload, 1) := by decide +kernel
theorem dd_Pk_draftChain_25 : decode (mm_Pk_draftChain).2.1 25 = .ok (.invokevirtual 34, 3) := by decide +kernel
theorem dd_Pk_draftChain_28 : decode (mm_Pk_draftChain).2.1 28 = .ok (.iinc 1 1, 3) := by decide +kernel
theorem dd_Pk_draftChain_31 : decode (mm_Pk_draftChain).2.1 31 = .ok (.goto (-21), 3) := by decide +kernel
theorem dd_Pk_draftChain_34 : decode (mm_Pk_draftChain).2.1 34 = .ok (.aload_n 0, 1) := by decide +kernel
theorem dd_Pk_draftChain_35 : decode (mm_Pk_draftChain).2.1 35 = .ok (.getfield 27, 3) := by decide +kernel
theorem dd_Pk_draftChain_38 : decode (mm_Pk_draftChain).2.1 38 = .ok (.bipush 69, 2) := by decide +kernel
theorem dd_Pk_draftChain_40 : decode (mm_Pk_draftChain).2.1 40 = .ok (.invokevirtual 38, 3) := by decide +kernel
theorem dd_Pk_draftChain_43 : decode (mm_Pk_draftChain).2.1 43 = .ok (.pop, 1) := by decide +kernel
theorem dd_Pk_draftChain_44 : decode (mm_Pk_draftChain).2.1 44 = .ok (.return_, 1) := by decide +kernel
theorem dd_Pk_appendRecord_0 : decode (mm_Pk_appendRecord).2.1 0 = .ok (.aload_n 0, 1) := by decide +kernel
theorem dd_Pk_appendRecord_1 : decode (mm_Pk_appendRecord).2.1 1 = .ok (.getfield 27, 3) := by decide +kernel
theorem dd_Pk_appendRecord_4 : decode (mm_Pk_appendRecord).2.1 4 = .ok (.getfield 42, 3) := by decide +kernel
theorem dd_Pk_appendRecord_7 : decode (mm_Pk_appendRecord).2.1 7 = .ok (.istore_n 2, 1) := by decide +kernel
theorem dd_Pk_appendRecord_8 : decode (mm_Pk_appendRecord).2.1 8 = .ok (.aload_n 0, 1) := by decide +kernel
theorem dd_Pk_appendRecord_9 : decode (mm_Pk_appendRecord).2.1 9 = .ok (.getfield 27, 3) := by decide +kernel
theorem dd_Pk_appendRecord_12 : decode (mm_Pk_appendRecord).2.1 12 = .ok (.bipush 67, 2) := by decide +kernel
theorem dd_Pk_appendRecord_14 : decode (mm_Pk_appendRecord).2.1 14 = .ok (.invokevirtual 38, 3) := by decide +kernel
theorem dd_Pk_appendRecord_17 : decode (mm_Pk_appendRecord).2.1 17 = .ok (.pop, 1) := by decide +kernel
theorem dd_Pk_appendRecord_18 : decode (mm_Pk_appendRecord).2.1 18 = .ok (.aload_n 1, 1) := by decide +kernel
theorem dd_Pk_appendRecord_19 : decode (mm_Pk_appendRecord).2.1 19 = .ok (.aload_n 0, 1) := by decide +kernel
theorem dd_Pk_appendRecord_20 : decode (mm_Pk_appendRecord).2.1 20 = .ok (.getfield 27, 3) := by decide +kernel
theorem dd_Pk_appendRecord_23 : decode (mm_Pk_appendRecord).2.1 23 = .ok (.invokevirtual 45, 3) := by decide +kernel
theorem dd_Pk_appendRecord_26 : decode (mm_Pk_appendRecord).2.1 26 = .ok (.aload_n 1, 1) := by decide +kernel
theorem dd_Pk_appendRecord_27 : decode (mm_Pk_appendRecord).2.1 27 = .ok (.aload_n 0, 1) := by decide +kernel
theorem dd_Pk_appendRecord_28 : decode (mm_Pk_appendRecord).2.1 28 = .ok (.getfield 27, 3) := by decide +kernel
theorem dd_Pk_appendRecord_31 : decode (mm_Pk_appendRecord).2.1 31 = .ok (.invokevirtual 49, 3) := by decide +kernel
theorem dd_Pk_appendRecord_34 : decode (mm_Pk_appendRecord).2.1 34 = .ok (.aload_n 0, 1) := by decide +kernel
theorem dd_Pk_appendRecord_35 : decode (mm_Pk_appendRecord).2.1 35 = .ok (.getfield 27, 3) := by decide +kernel
theorem dd_Pk_appendRecord_38 : decode (mm_Pk_appendRecord).2.1 38 = .ok (.aload_n 0, 1) := by decide +kernel
theorem dd_Pk_appendRecord_39 : decode (mm_Pk_appendRecord).2.1 39 = .ok (.getfield 27, 3) := by decide +kernel
theorem dd_Pk_appendRecord_42 : decode (mm_Pk_appendRecord).2.1 42 = .ok (.iload_n 2, 1) := by decide +kernel
theorem dd_Pk_appendRecord_43 : decode (mm_Pk_appendRecord).2.1 43 = .ok (.aload_n 0, 1) := by decide +kernel
theorem dd_Pk_appendRecord_44 : decode (mm_Pk_appendRecord).2.1 44 = .ok (.getfield 27, 3) := by decide +kernel
theorem dd_Pk_appendRecord_47 : decode (mm_Pk_appendRecord).2.1 47 = .ok (.getfield 42, 3) := by decide +kernel
theorem dd_Pk_appendRecord_50 : decode (mm_Pk_appendRecord).2.1 50 = .ok (.invokevirtual 52, 3) := by decide +kernel
theorem dd_Pk_appendRecord_53 : decode (mm_Pk_appendRecord).2.1 53 = .ok (.invokevirtual 38, 3) := by decide +kernel
theorem dd_Pk_appendRecord_56 : decode (mm_Pk_appendRecord).2.1 56 = .ok (.pop, 1) := by decide +kernel
theorem dd_Pk_appendRecord_57 : decode (mm_Pk_appendRecord).2.1 57 = .ok (.aload_n 0, 1) := by decide +kernel
theorem dd_Pk_appendRecord_58 : decode (mm_Pk_appendRecord).2.1 58 = .ok (.getfield 27, 3) := by decide +kernel
theorem dd_Pk_appendRecord_61 : decode (mm_Pk_appendRecord).2.1 61 = .ok (.aload_n 1, 1) := by decide +kernel
theorem dd_Pk_appendRecord_62 : decode (mm_Pk_appendRecord).2.1 62 = .ok (.getfield 56, 3) := by decide +kernel
theorem dd_Pk_appendRecord_65 : decode (mm_Pk_appendRecord).2.1 65 = .ok (.invokevirtual 59, 3) := by decide +kernel
theorem dd_Pk_appendRecord_68 : decode (mm_Pk_appendRecord).2.1 68 = .ok (.aload_n 0, 1) := by decide +kernel
theorem dd_Pk_appendRecord_69 : decode (mm_Pk_appendRecord).2.1 69 = .ok (.getfield 27, 3) := by decide +kernel
theorem dd_Pk_appendRecord_72 : decode (mm_Pk_appendRecord).2.1 72 = .ok (.iconst 0, 1) := by decide +kernel
theorem dd_Pk_appendRecord_73 : decode (mm_Pk_appendRecord).2.1 73 = .ok (.aload_n 0, 1) := by decide +kernel
theorem dd_Pk_appendRecord_74 : decode (mm_Pk_appendRecord).2.1 74 = .ok (.getfield 27, 3) := by decide +kernel
theorem dd_Pk_appendRecord_77 : decode (mm_Pk_appendRecord).2.1 77 = .ok (.getfield 42, 3) := by decide +kernel
theorem dd_Pk_appendRecord_80 : decode (mm_Pk_appendRecord).2.1 80 = .ok (.invokestatic 62, 3) := by decide +kernel
theorem dd_Pk_appendRecord_83 : decode (mm_Pk_appendRecord).2.1 83 = .ok (.invokevirtual 66, 3) := by decide +kernel
theorem dd_Pk_appendRecord_86 : decode (mm_Pk_appendRecord).2.1 86 = .ok (.pop, 1) := by decide +kernel
theorem dd_Pk_appendRecord_87 : decode (mm_Pk_appendRecord).2.1 87 = .ok (.return_, 1) := by decide +kernel
theorem dd_WF_appendMethodAndName_0 : decode (mm_WF_appendMethodAndName).2.1 0 = .ok (.aload_n 1, 1) := by decide +kernel
theorem dd_WF_appendMethodAndName_1 : decode (mm_WF_appendMethodAndName).2.1 1 = .ok (.aload_n 0, 1) := by decide +kernel
theorem dd_WF_appendMethodAndName_2 : decode (mm_WF_appendMethodAndName).2.1 2 = .ok (.getfield 33, 3) := by decide +kernel
theorem dd_WF_appendMethodAndName_5 : decode (mm_WF_appendMethodAndName).2.1 5 = .ok (.invokevirtual 47, 3) := by decide +kernel
theorem dd_WF_appendMethodAndName_8 : decode (mm_WF_appendMethodAndName).2.1 8 = .ok (.pop, 1) := by decide +kernel
theorem dd_WF_appendMethodAndName_9 : decode (mm_WF_appendMethodAndName).2.1 9 = .ok (.aload_n 1, 1) := by decide +kernel
theorem dd_WF_appendMethodAndName_10 : decode (mm_WF_appendMethodAndName).2.1 10 = .ok (.aload_n 0, 1) := by decide +kernel
theorem dd_WF_appendMethodAndName_11 : decode (mm_WF_appendMethodAndName).2.1 11 = .ok (.getfield 14, 3) := by decide +kernel
theorem dd_WF_appendMethodAndName_14 : decode (mm_WF_appendMethodAndName).2.1 14 = .ok (.getfield 37, 3) := by decide +kernel
theorem dd_WF_appendMethodAndName_17 : decode (mm_WF_appendMethodAndName).2.1 17 = .ok (.invokevirtual 47, 3) := by decide +kernel
theorem dd_WF_appendMethodAndName_20 : decode (mm_WF_appendMethodAndName).2.1 20 = .ok (.pop, 1) := by decide +kernel
theorem dd_WF_appendMethodAndName_21 : decode (mm_WF_appendMethodAndName).2.1 21 = .ok (.aload_n 1, 1) := by decide +kernel
theorem dd_WF_appendMethodAndName_22 : decode (mm_WF_appendMethodAndName).2.1 22 = .ok (.aload_n 0, 1) := by decide +kernel
theorem dd_WF_appendMethodAndName_23 : decode (mm_WF_appendMethodAndName).2.1 23 = .ok (.getfield 14, 3) := by decide +kernel
theorem dd_WF_appendMethodAndName_26 : decode (mm_WF_appendMethodAndName).2.1 26 = .ok (.invokevirtual 51, 3) := by decide +kernel
theorem dd_WF_appendMethodAndName_29 : decode (mm_WF_appendMethodAndName).2.1 29 = .ok (.return_, 1) := by decide +kernel
theorem dd_WF_appendLengthsAndCheck_0 : decode (mm_WF_appendLengthsAndCheck).2.1 0 = .ok (.aload_n 1, 1) := by decide +kernel
theorem dd_WF_appendLengthsAndCheck_1 : decode (mm_WF_appendLengthsAndCheck).2.1 1 = .ok (.aload_n 0, 1) := by decide +kernel
theorem dd_WF_appendLengthsAndCheck_2 : decode (mm_WF_appendLengthsAndCheck).2.1 2 = .ok (.getfield 20, 3) := by decide +kernel
theorem dd_WF_appendLengthsAndCheck_5 : decode (mm_WF_appendLengthsAndCheck).2.1 5 = .ok (.getfield 37, 3) := by decide +kernel
theorem dd_WF_appendLengthsAndCheck_8 : decode (mm_WF_appendLengthsAndCheck).2.1 8 = .ok (.invokevirtual 47, 3) := by decide +kernel
theorem dd_WF_appendLengthsAndCheck_11 : decode (mm_WF_appendLengthsAndCheck).2.1 11 = .ok (.pop, 1) := by decide +kernel
theorem dd_WF_appendLengthsAndCheck_12 : decode (mm_WF_appendLengthsAndCheck).2.1 12 = .ok (.aload_n 1, 1) := by decide +kernel
theorem dd_WF_appendLengthsAndCheck_13 : decode (mm_WF_appendLengthsAndCheck).2.1 13 = .ok (.aload_n 0, 1) := by decide +kernel
theorem dd_WF_appendLengthsAndCheck_14 : decode (mm_WF_appendLengthsAndCheck).2.1 14 = .ok (.getfield 40, 3) := by decide +kernel
theorem dd_WF_appendLengthsAndCheck_17 : decode (mm_WF_appendLengthsAndCheck).2.1 17 = .ok (.invokevirtual 47, 3) := by decide +kernel
theorem dd_WF_appendLengthsAndCheck_20 : decode (mm_WF_appendLengthsAndCheck).2.1 20 = .ok (.pop, 1) := by decide +kernel
theorem dd_WF_appendLengthsAndCheck_21 : decode (mm_WF_appendLengthsAndCheck).2.1 21 = .ok (.aload_n 1, 1) := by decide +kernel
theorem dd_WF_appendLengthsAndCheck_22 : decode (mm_WF_appendLengthsAndCheck).2.1 22 = .ok (.aload_n 0, 1) := by decide +kernel
theorem dd_WF_appendLengthsAndCheck_23 : decode (mm_WF_appendLengthsAndCheck).2.1 23 = .ok (.getfield 45, 3) := by decide +kernel
theorem dd_WF_appendLengthsAndCheck_26 : decode (mm_WF_appendLengthsAndCheck).2.1 26 = .ok (.invokevirtual 54, 3) := by decide +kernel
theorem dd_WF_appendLengthsAndCheck_29 : decode (mm_WF_appendLengthsAndCheck).2.1 29 = .ok (.return_, 1) := by decide +kernel
theorem dd_Row_appendNumber_0 : decode (mm_Row_appendNumber).2.1 0 = .ok (.aload_n 0, 1) := by decide +kernel
theorem dd_Row_appendNumber_1 : decode (mm_Row_appendNumber).2.1 1 = .ok (.iload_n 1, 1) := by decide +kernel
theorem dd_Row_appendNumber_2 : decode (mm_Row_appendNumber).2.1 2 = .ok (.sipush 256, 3) := by decide +kernel
theorem dd_Row_appendNumber_5 : decode (mm_Row_appendNumber).2.1 5 = .ok (.idiv, 1) := by decide +kernel
theorem dd_Row_appendNumber_6 : decode (mm_Row_appendNumber).2.1 6 = .ok (.invokevirtual 23, 3) := by decide +kernel
theorem dd_Row_appendNumber_9 : decode (mm_Row_appendNumber).2.1 9 = .ok (.pop, 1) := by decide +kernel
theorem dd_Row_appendNumber_10 : decode (mm_Row_appendNumber).2.1 10 = .ok (.aload_n 0, 1) := by decide +kernel
theorem dd_Row_appendNumber_11 : decode (mm_Row_appendNumber).2.1 11 = .ok (.iload_n 1, 1) := by decide +kernel
theorem dd_Row_appendNumber_12 : decode (mm_Row_appendNumber).2.1 12 = .ok (.sipush 256, 3) := by decide +kernel
theorem dd_Row_appendNumber_15 : decode (mm_Row_appendNumber).2.1 15 = .ok (.irem, 1) := by decide +kernel
theorem dd_Row_appendNumber_16 : decode (mm_Row_appendNumber).2.1 16 = .ok (.invokevirtual 23, 3) := by decide +kernel
theorem dd_Row_appendNumber_19 : decode (mm_Row_appendNumber).2.1 19 = .ok (.pop, 1) := by decide +kernel
theorem dd_Row_appendNumber_20 : decode (mm_Row_appendNumber).2.1 20 = .ok (.return_, 1) := by decide +kernel
theorem dd_Row_sum_0 : decode (mm_Row_sum).2.1 0 = .ok (.iconst 0, 1) := by decide +kernel
theorem dd_Row_sum_1 : decode (mm_Row_sum).2.1 1 = .ok (.istore_n 3, 1) := by decide +kernel
theorem dd_Row_sum_2 : decode (mm_Row_sum).2.1 2 = .ok (.iload_n 1, 1) := by decide +kernel
theorem dd_Row_sum_3 : decode (mm_Row_sum).2.1 3 = .ok (.istore 4, 2) := by decide +kernel
theorem dd_Row_sum_5 : decode (mm_Row_sum).2.1 5 = .ok (.iload 4, 2) := by decide +kernel
theorem dd_Row_sum_7 : decode (mm_Row_sum).2.1 7 = .ok (.iload_n 2, 1) := by decide +kernel
theorem dd_Row_sum_8 : decode (mm_Row_sum).2.1 8 = .ok (.if_icmp .ge 18, 3) := by decide +kernel
theorem dd_Row_sum_11 : decode (mm_Row_sum).2.1 11 = .ok (.iload_n 3, 1) := by decide +kernel
theorem dd_Row_sum_12 : decode (mm_Row_sum).2.1 12 = .ok (.aload_n 0, 1) := by decide +kernel
theorem dd_Row_sum_13 : decode (mm_Row_sum).2.1 13 = .ok (.iload 4, 2) := by decide +kernel
theorem dd_Row_sum_15 : decode (mm_Row_sum).2.1 15 = .ok (.invokevirtual 19, 3) := by decide +kernel
theorem dd_Row_sum_18 : decode (mm_Row_sum).2.1 18 = .ok (.iadd, 1) := by decide +kernel
theorem dd_Row_sum_19 : decode (mm_Row_sum).2.1 19 = .ok (.istore_n 3, 1) := by decide +kernel
theorem dd_Row_sum_20 : decode (mm_Row_sum).2.1 20 = .ok (.iinc 4 1, 3) := by decide +kernel
theorem dd_Row_sum_23 : decode (mm_Row_sum).2.1 23 = .ok (.goto (-18), 3) := by decide +kernel
theorem dd_Row_sum_26 : decode (mm_Row_sum).2.1 26 = .ok (.iload_n 3, 1) := by decide +kernel
theorem dd_Row_sum_27 : decode (mm_Row_sum).2.1 27 = .ok (.sipush 255, 3) := by decide +kernel
theorem dd_Row_sum_30 : decode (mm_Row_sum).2.1 30 = .ok (.iand, 1) := by decide +kernel
theorem dd_Row_sum_31 : decode (mm_Row_sum).2.1 31 = .ok (.ireturn, 1) := by decide +kernel
theorem dd_Pk_zerosBehind_0 : decode (mm_Pk_zerosBehind).2.1 0 = .ok (.iconst 4, 1) := by decide +kernel
theorem dd_Pk_zerosBehind_1 : decode (mm_Pk_zerosBehind).2.1 1 = .ok (.iload_n 0, 1) := by decide +kernel
theorem dd_Pk_zerosBehind_2 : decode (mm_Pk_zerosBehind).2.1 2 = .ok (.iconst 4, 1) := by decide +kernel
theorem dd_Pk_zerosBehind_3 : decode (mm_Pk_zerosBehind).2.1 3 = .ok (.irem, 1) := by decide +kernel
theorem dd_Pk_zerosBehind_4 : decode (mm_Pk_zerosBehind).2.1 4 = .ok (.isub, 1) := by decide +kernel
theorem dd_Pk_zerosBehind_5 : decode (mm_Pk_zerosBehind).2.1 5 = .ok (.iconst 4, 1) := by decide +kernel
theorem dd_Pk_zerosBehind_6 : decode (mm_Pk_zerosBehind).2.1 6 = .ok (.irem, 1) := by decide +kernel
theorem dd_Pk_zerosBehind_7 : decode (mm_Pk_zerosBehind).2.1 7 = .ok (.ireturn, 1) := by decide +kernel
theorem dd_Pk_draftIndex_0 : decode (mm_Pk_draftIndex).2.1 0 = .ok (.aload_n 0, 1) := by decide +kernel
theorem dd_Pk_draftIndex_1 : decode (mm_Pk_draftIndex).2.1 1 = .ok (.getfield 27, 3) := by decide +kernel
theorem dd_Pk_draftIndex_4 : decode (mm_Pk_draftIndex).2.1 4 = .ok (.iconst 0, 1) := by decide +kernel
theorem dd_Pk_draftIndex_5 : decode (mm_Pk_draftIndex).2.1 5 = .ok (.invokevirtual 31, 3) := by decide +kernel
theorem dd_Pk_draftIndex_8 : decode (mm_Pk_draftIndex).2.1 8 = .ok (.aload_n 0, 1) := by decide +kernel
theorem dd_Pk_draftIndex_9 : decode (mm_Pk_draftIndex).2.1 9 = .ok (.getfield 27, 3) := by decide +kernel
theorem dd_Pk_draftIndex_12 : decode (mm_Pk_draftIndex).2.1 12 = .ok (.bipush 73, 2) := by decide +kernel
theorem dd_Pk_draftIndex_14 : decode (mm_Pk_draftIndex).2.1 14 = .ok (.invokevirtual 38, 3) := by decide +kernel
theorem dd_Pk_draftIndex_17 : decode (mm_Pk_draftIndex).2.1 17 = .ok (.pop, 1) := by decide +kernel
theorem dd_Pk_draftIndex_18 : decode (mm_Pk_draftIndex).2.1 18 = .ok (.iconst 0, 1) := by decide +kernel
theorem dd_Pk_draftIndex_19 : decode (mm_Pk_draftIndex).2.1 19 = .ok (.istore_n 1, 1) := by decide +kernel
theorem dd_Pk_draftIndex_20 : decode (mm_Pk_draftIndex).2.1 20 = .ok (.iload_n 1, 1) := by decide +kernel
theorem dd_Pk_draftIndex_21 : decode (mm_Pk_draftIndex).2.1 21 = .ok (.aload_n 0, 1) := by decide +kernel
theorem dd_Pk_draftIndex_22 : decode (mm_Pk_draftIndex).2.1 22 = .ok (.getfield 18, 3) := by decide +kernel
theorem dd_Pk_draftIndex_25 : decode (mm_Pk_draftIndex).2.1 25 = .ok (.if_icmp .ge 41, 3) := by decide +kernel
theorem dd_Pk_draftIndex_28 : decode (mm_Pk_draftIndex).2.1 28 = .ok (.aload_n 0, 1) := by decide +kernel
theorem dd_Pk_draftIndex_29 : decode (mm_Pk_draftIndex).2.1 29 = .ok (.getfield 11, 3) := by decide +kernel
theorem dd_Pk_draftIndex_32 : decode (mm_Pk_draftIndex).2.1 32 = .ok (.iload_n 1, 1) := by decide +kernel
theorem dd_Pk_draftIndex_33 : decode (mm_Pk_draftIndex).2.1 33 = .ok (.aaload, 1) := by decide +kernel
theorem dd_Pk_draftIndex_34 : decode (mm_Pk_draftIndex).2.1 34 = .ok (.aload_n 0, 1) := by decide +kernel
theorem dd_Pk_draftIndex_35 : decode (mm_Pk_draftIndex).2.1 35 = .ok (.getfield 27, 3) := by decide +kernel
theorem dd_Pk_draftIndex_38 : decode (mm_Pk_draftIndex).2.1 38 = .ok (.getfield 42, 3) := by decide +kernel
theorem dd_Pk_draftIndex_41 : decode (mm_Pk_draftIndex).2.1 41 = .ok (.putfield 70, 3) := by decide +kernel
theorem dd_Pk_draftIndex_44 : decode (mm_Pk_draftIndex).2.1 44 = .ok (.aload_n 0, 1) := by decide +kernel
theorem dd_Pk_draftIndex_45 : decode (mm_Pk_draftIndex).2.1 45 = .ok (.getfield 27, 3) := by decide +kernel
theorem dd_Pk_draftIndex_48 : decode (mm_Pk_draftIndex).2.1 48 = .ok (.aload_n 0, 1) := by decide +kernel
theorem dd_Pk_draftIndex_49 : decode (mm_Pk_draftIndex).2.1 49 = .ok (.getfield 11, 3) := by decide +kernel
theorem dd_Pk_draftIndex_52 : decode (mm_Pk_draftIndex).2.1 52 = .ok (.iload_n 1, 1) := by decide +kernel
theorem dd_Pk_draftIndex_53 : decode (mm_Pk_draftIndex).2.1 53 = .ok (.aaload, 1) := by decide +kernel
theorem dd_Pk_draftIndex_54 : decode (mm_Pk_draftIndex).2.1 54 = .ok (.getfield 56, 3) := by decide +kernel
theorem dd_Pk_draftIndex_57 : decode (mm_Pk_draftIndex).2.1 57 = .ok (.invokevirtual 59, 3) := by decide +kernel
theorem dd_Pk_draftIndex_60 : decode (mm_Pk_draftIndex).2.1 60 = .ok (.iinc 1 1, 3) := by decide +kernel
theorem dd_Pk_draftIndex_63 : decode (mm_Pk_draftIndex).2.1 63 = .ok (.goto (-43), 3) := by decide +kernel
theorem dd_Pk_draftIndex_66 : decode (mm_Pk_draftIndex).2.1 66 = .ok (.aload_n 0, 1) := by decide +kernel
theorem dd_Pk_draftIndex_67 : decode (mm_Pk_draftIndex).2.1 67 = .ok (.getfield 27, 3) := by decide +kernel
theorem dd_Pk_draftIndex_70 : decode (mm_Pk_draftIndex).2.1 70 = .ok (.getfield 42, 3) := by decide +kernel
theorem dd_Pk_draftIndex_73 : decode (mm_Pk_draftIndex).2.1 73 = .ok (.istore_n 1, 1) := by decide +kernel
theorem dd_Pk_draftIndex_74 : decode (mm_Pk_draftIndex).2.1 74 = .ok (.iconst 0, 1) := by decide +kernel
theorem dd_Pk_draftIndex_75 : decode (mm_Pk_draftIndex).2.1 75 = .ok (.istore_n 2, 1) := by decide +kernel
theorem dd_Pk_draftIndex_76 : decode (mm_Pk_draftIndex).2.1 76 = .ok (.iload_n 2, 1) := by decide +kernel
theorem dd_Pk_draftIndex_77 : decode (mm_Pk_draftIndex).2.1 77 = .ok (.aload_n 0, 1) := by decide +kernel
theorem dd_Pk_draftIndex_78 : decode (mm_Pk_draftIndex).2.1 78 = .ok (.getfield 18, 3) := by decide +kernel
theorem dd_Pk_draftIndex_81 : decode (mm_Pk_draftIndex).2.1 81 = .ok (.if_icmp .ge 19, 3) := by decide +kernel
theorem dd_Pk_draftIndex_84 : decode (mm_Pk_draftIndex).2.1 84 = .ok (.aload_n 0, 1) := by decide +kernel
theorem dd_Pk_draftIndex_85 : decode (mm_Pk_draftIndex).2.1 85 = .ok (.aload_n 0, 1) := by decide +kernel
theorem dd_Pk_draftIndex_86 : decode (mm_Pk_draftIndex).2.1 86 = .ok (.getfield 11, 3) := by decide +kernel
theorem dd_Pk_draftIndex_89 : decode (mm_Pk_draftIndex).2.1 89 = .ok (.iload_n 2, 1) := by decide +kernel
theorem dd_Pk_draftIndex_90 : decode (mm_Pk_draftIndex).2.1 90 = .ok (.aaload, 1) := by decide +kernel
theorem dd_Pk_draftIndex_91 : decode (mm_Pk_draftIndex).2.1 91 = .ok (.invokevirtual 73, 3) := by decide +kernel
theorem dd_Pk_draftIndex_94 : decode (mm_Pk_draftIndex).2.1 94 = .ok (.iinc 2 1, 3) := by decide +kernel
theorem dd_Pk_draftIndex_97 : decode (mm_Pk_draftIndex).2.1 97 = .ok (.goto (-21), 3) := by decide +kernel
theorem dd_Pk_draftIndex_100 : decode (mm_Pk_draftIndex).2.1 100 = .ok (.aload_n 0, 1) := by decide +kernel
theorem dd_Pk_draftIndex_101 : decode (mm_Pk_draftIndex).2.1 101 = .ok (.getfield 27, 3) := by decide +kernel
theorem dd_Pk_draftIndex_104 : decode (mm_Pk_draftIndex).2.1 104 = .ok (.iload_n 1, 1) := by decide +kernel
theorem dd_Pk_draftIndex_105 : decode (mm_Pk_draftIndex).2.1 105 = .ok (.aload_n 0, 1) := by decide +kernel
theorem dd_Pk_draftIndex_106 : decode (mm_Pk_draftIndex).2.1 106 = .ok (.getfield 27, 3) := by decide +kernel
theorem dd_Pk_draftIndex_109 : decode (mm_Pk_draftIndex).2.1 109 = .ok (.getfield 42, 3) := by decide +kernel
theorem dd_Pk_draftIndex_112 : decode (mm_Pk_draftIndex).2.1 112 = .ok (.invokevirtual 76, 3) := by decide +kernel
theorem dd_Pk_draftIndex_115 : decode (mm_Pk_draftIndex).2.1 115 = .ok (.istore_n 2, 1) := by decide +kernel
theorem dd_Pk_draftIndex_116 : decode (mm_Pk_draftIndex).2.1 116 = .ok (.aload_n 0, 1) := by decide +kernel
theorem dd_Pk_draftIndex_117 : decode (mm_Pk_draftIndex).2.1 117 = .ok (.getfield 27, 3) := by decide +kernel
theorem dd_Pk_draftIndex_120 : decode (mm_Pk_draftIndex).2.1 120 = .ok (.bipush 88, 2) := by decide +kernel
theorem dd_Pk_draftIndex_122 : decode (mm_Pk_draftIndex).2.1 122 = .ok (.invokevirtual 38, 3) := by decide +kernel
theorem dd_Pk_draftIndex_125 : decode (mm_Pk_draftIndex).2.1 125 = .ok (.pop, 1) := by decide +kernel
theorem dd_Pk_draftIndex_126 : decode (mm_Pk_draftIndex).2.1 126 = .ok (.aload_n 0, 1) := by decide +kernel
theorem dd_Pk_draftIndex_127 : decode (mm_Pk_draftIndex).2.1 127 = .ok (.getfield 27, 3) := by decide +kernel
theorem dd_Pk_draftIndex_130 : decode (mm_Pk_draftIndex).2.1 130 = .ok (.aload_n 0, 1) := by decide +kernel
theorem dd_Pk_draftIndex_131 : decode (mm_Pk_draftIndex).2.1 131 = .ok (.getfield 18, 3) := by decide +kernel
theorem dd_Pk_draftIndex_134 : decode (mm_Pk_draftIndex).2.1 134 = .ok (.invokevirtual 38, 3) := by decide +kernel
theorem dd_Pk_draftIndex_137 : decode (mm_Pk_draftIndex).2.1 137 = .ok (.pop, 1) := by decide +kernel
theorem dd_Pk_draftIndex_138 : decode (mm_Pk_draftIndex).2.1 138 = .ok (.aload_n 0, 1) := by decide +kernel
theorem dd_Pk_draftIndex_139 : decode (mm_Pk_draftIndex).2.1 139 = .ok (.getfield 27, 3) := by decide +kernel
theorem dd_Pk_draftIndex_142 : decode (mm_Pk_draftIndex).2.1 142 = .ok (.iload_n 1, 1) := by decide +kernel
theorem dd_Pk_draftIndex_143 : decode (mm_Pk_draftIndex).2.1 143 = .ok (.invokevirtual 79, 3) := by decide +kernel
theorem dd_Pk_draftIndex_146 : decode (mm_Pk_draftIndex).2.1 146 = .ok (.aload_n 0, 1) := by decide +kernel
theorem dd_Pk_draftIndex_147 : decode (mm_Pk_draftIndex).2.1 147 = .ok (.getfield 27, 3) := by decide +kernel
theorem dd_Pk_draftIndex_150 : decode (mm_Pk_draftIndex).2.1 150 = .ok (.iload_n 2, 1) := by decide +kernel
theorem dd_Pk_draftIndex_151 : decode (mm_Pk_draftIndex).2.1 151 = .ok (.invokevirtual 79, 3) := by decide +kernel
theorem dd_Pk_draftIndex_154 : decode (mm_Pk_draftIndex).2.1 154 = .ok (.return_, 1) := by decide +kernel
theorem dd_Pk_appendEntry_0 : decode (mm_Pk_appendEntry).2.1 0 = .ok (.aload_n 1, 1) := by decide +kernel
theorem dd_Pk_appendEntry_1 : decode (mm_Pk_appendEntry).2.1 1 = .ok (.aload_n 0, 1) := by decide +kernel
theorem dd_Pk_appendEntry_2 : decode (mm_Pk_appendEntry).2.1 2 = .ok (.getfield 27, 3) := by decide +kernel
theorem dd_Pk_appendEntry_5 : decode (mm_Pk_appendEntry).2.1 5 = .ok (.invokevirtual 45, 3) := by decide +kernel
theorem dd_Pk_appendEntry_8 : decode (mm_Pk_appendEntry).2.1 8 = .ok (.aload_n 0, 1) := by decide +kernel
theorem dd_Pk_appendEntry_9 : decode (mm_Pk_appendEntry).2.1 9 = .ok (.getfield 27, 3) := by decide +kernel
theorem dd_Pk_appendEntry_12 : decode (mm_Pk_appendEntry).2.1 12 = .ok (.aload_n 1, 1) := by decide +kernel
theorem dd_Pk_appendEntry_13 : decode (mm_Pk_appendEntry).2.1 13 = .ok (.getfield 70, 3) := by decide +kernel
theorem dd_Pk_appendEntry_16 : decode (mm_Pk_appendEntry).2.1 16 = .ok (.invokevirtual 79, 3) := by decide +kernel
theorem dd_Pk_appendEntry_19 : decode (mm_Pk_appendEntry).2.1 19 = .ok (.aload_n 1, 1) := by decide +kernel
theorem dd_Pk_appendEntry_20 : decode (mm_Pk_appendEntry).2.1 20 = .ok (.aload_n 0, 1) := by decide +kernel
theorem dd_Pk_appendEntry_21 : decode (mm_Pk_appendEntry).2.1 21 = .ok (.getfield 27, 3) := by decide +kernel
theorem dd_Pk_appendEntry_24 : decode (mm_Pk_appendEntry).2.1 24 = .ok (.invokevirtual 49, 3) := by decide +kernel
theorem dd_Pk_appendEntry_27 : decode (mm_Pk_appendEntry).2.1 27 = .ok (.return_, 1) := by decide +kernel
theorem dd_Ar_close_0 : decode (mm_Ar_close).2.1 0 = .ok (.aload_n 0, 1) := by decide +kernel
theorem dd_Ar_close_1 : decode (mm_Ar_close).2.1 1 = .ok (.iconst 0, 1) := by decide +kernel
theorem dd_Ar_close_2 : decode (mm_Ar_close).2.1 2 = .ok (.putfield 27, 3) := by decide +kernel
theorem dd_Ar_close_5 : decode (mm_Ar_close).2.1 5 = .ok (.return_, 1) := by decide +kernel
theorem dd_AB_put_0 : decode (mm_AB_put).2.1 0 = .ok (.iload_n 1, 1) := by decide +kernel
theorem dd_AB_put_1 : decode (mm_AB_put).2.1 1 = .ok (.ifCond .lt 24, 3) := by decide +kernel
theorem dd_AB_put_4 : decode (mm_AB_put).2.1 4 = .ok (.iload_n 1, 1) := by decide +kernel
theorem dd_AB_put_5 : decode (mm_AB_put).2.1 5 = .ok (.aload_n 0, 1) := by decide +kernel
theorem dd_AB_put_6 : decode (mm_AB_put).2.1 6 = .ok (.getfield 31, 3) := by decide +kernel
theorem dd_AB_put_9 : decode (mm_AB_put).2.1 9 = .ok (.getfield 84, 3) := by decide +kernel
theorem dd_AB_put_12 : decode (mm_AB_put).2.1 12 = .ok (.getfield 48, 3) := by decide +kernel
theorem dd_AB_put_15 : decode (mm_AB_put).2.1 15 = .ok (.if_icmp .gt 10, 3) := by decide +kernel
theorem dd_AB_put_18 : decode (mm_AB_put).2.1 18 = .ok (.iload_n 2, 1) := by decide +kernel
theorem dd_AB_put_19 : decode (mm_AB_put).2.1 19 = .ok (.invokestatic 52, 3) := by decide +kernel
theorem dd_AB_put_22 : decode (mm_AB_put).2.1 22 = .ok (.ifCond .ne 5, 3) := by decide +kernel
theorem dd_AB_put_25 : decode (mm_AB_put).2.1 25 = .ok (.iconst (-1), 1) := by decide +kernel
theorem dd_AB_put_26 : decode (mm_AB_put).2.1 26 = .ok (.ireturn, 1) := by decide +kernel
theorem dd_AB_put_27 : decode (mm_AB_put).2.1 27 = .ok (.iload_n 1, 1) := by decide +kernel
theorem dd_AB_put_28 : decode (mm_AB_put).2.1 28 = .ok (.aload_n 0, 1) := by decide +kernel
theorem dd_AB_put_29 : decode (mm_AB_put).2.1 29 = .ok (.getfield 31, 3) := by decide +kernel
theorem dd_AB_put_32 : decode (mm_AB_put).2.1 32 = .ok (.getfield 84, 3) := by decide +kernel
theorem dd_AB_put_35 : decode (mm_AB_put).2.1 35 = .ok (.getfield 48, 3) := by decide +kernel
theorem dd_AB_put_38 : decode (mm_AB_put).2.1 38 = .ok (.if_icmp .ge 18, 3) := by decide +kernel
theorem dd_AB_put_41 : decode (mm_AB_put).2.1 41 = .ok (.aload_n 0, 1) := by decide +kernel
theorem dd_AB_put_42 : decode (mm_AB_put).2.1 42 = .ok (.getfield 31, 3) := by decide +kernel
theorem dd_AB_put_45 : decode (mm_AB_put).2.1 45 = .ok (.getfield 84, 3) := by decide +kernel
theorem dd_AB_put_48 : decode (mm_AB_put).2.1 48 = .ok (.iload_n 1, 1) := by decide +kernel
theorem dd_AB_put_49 : decode (mm_AB_put).2.1 49 = .ok (.iload_n 2, 1) := by decide +kernel
theorem dd_AB_put_50 : decode (mm_AB_put).2.1 50 = .ok (.invokevirtual 93, 3) := by decide +kernel
theorem dd_AB_put_53 : decode (mm_AB_put).2.1 53 = .ok (.goto 20, 3) := by decide +kernel
theorem dd_AB_put_56 : decode (mm_AB_put).2.1 56 = .ok (.aload_n 0, 1) := by decide +kernel
theorem dd_AB_put_57 : decode (mm_AB_put).2.1 57 = .ok (.getfield 31, 3) := by decide +kernel
theorem dd_AB_put_60 : decode (mm_AB_put).2.1 60 = .ok (.getfield 84, 3) := by decide +kernel
theorem dd_AB_put_63 : decode (mm_AB_put).2.1 63 = .ok (.iload_n 2, 1) := by decide +kernel
theorem dd_AB_put_64 : decode (mm_AB_put).2.1 64 = .ok (.invokevirtual 45, 3) := by decide +kernel
theorem dd_AB_put_67 : decode (mm_AB_put).2.1 67 = .ok (.ifCond .ne 6, 3) := by decide +kernel
theorem dd_AB_put_70 : decode (mm_AB_put).2.1 70 = .ok (.bipush (-2), 2) := by decide +kernel
theorem dd_AB_put_72 : decode (mm_AB_put).2.1 72 = .ok (.ireturn, 1) := by decide +kernel
theorem dd_AB_put_73 : decode (mm_AB_put).2.1 73 = .ok (.aload_n 0, 1) := by decide +kernel
theorem dd_AB_put_74 : decode (mm_AB_put).2.1 74 = .ok (.getfield 31, 3) := by decide +kernel
theorem dd_AB_put_77 : decode (mm_AB_put).2.1 77 = .ok (.invokevirtual 90, 3) := by decide +kernel
theorem dd_AB_put_80 : decode (mm_AB_put).2.1 80 = .ok (.aload_n 0, 1) := by decide +kernel
theorem dd_AB_put_81 : decode (mm_AB_put).2.1 81 = .ok (.getfield 31, 3) := by decide +kernel
theorem dd_AB_put_84 : decode (mm_AB_put).2.1 84 = .ok (.getfield 84, 3) := by decide +kernel
theorem dd_AB_put_87 : decode (mm_AB_put).2.1 87 = .ok (.getfield 48, 3) := by decide +kernel
theorem dd_AB_put_90 : decode (mm_AB_put).2.1 90 = .ok (.ireturn, 1) := by decide +kernel
theorem dd_Row_set_0 : decode (mm_Row_set).2.1 0 = .ok (.iload_n 1, 1) := by decide +kernel
theorem dd_Row_set_1 : decode (mm_Row_set).2.1 1 = .ok (.ifCond .lt 18, 3) := by decide +kernel
theorem dd_Row_set_4 : decode (mm_Row_set).2.1 4 = .ok (.iload_n 1, 1) := by decide +kernel
theorem dd_Row_set_5 : decode (mm_Row_set).2.1 5 = .ok (.aload_n 0, 1) := by decide +kernel
theorem dd_Row_set_6 : decode (mm_Row_set).2.1 6 = .ok (.getfield 15, 3) := by decide +kernel
theorem dd_Row_set_9 : decode (mm_Row_set).2.1 9 = .ok (.if_icmp .ge 10, 3) := by decide +kernel
theorem dd_Row_set_12 : decode (mm_Row_set).2.1 12 = .ok (.aload_n 0, 1) := by decide +kernel
theorem dd_Row_set_13 : decode (mm_Row_set).2.1 13 = .ok (.getfield 9, 3) := by decide +kernel
theorem dd_Row_set_16 : decode (mm_Row_set).2.1 16 = .ok (.iload_n 1, 1) := by decide +kernel
theorem dd_Row_set_17 : decode (mm_Row_set).2.1 17 = .ok (.iload_n 2, 1) := by decide +kernel
theorem dd_Row_set_18 : decode (mm_Row_set).2.1 18 = .ok (.iastore, 1) := by decide +kernel
theorem dd_Row_set_19 : decode (mm_Row_set).2.1 19 = .ok (.return_, 1) := by decide +kernel
theorem dd_AB_cut_0 : decode (mm_AB_cut).2.1 0 = .ok (.iload_n 1, 1) := by decide +kernel
theorem dd_AB_cut_1 : decode (mm_AB_cut).2.1 1 = .ok (.ifCond .lt 17, 3) := by decide +kernel
theorem dd_AB_cut_4 : decode (mm_AB_cut).2.1 4 = .ok (.iload_n 1, 1) := by decide +kernel
theorem dd_AB_cut_5 : decode (mm_AB_cut).2.1 5 = .ok (.aload_n 0, 1) := by decide +kernel
theorem dd_AB_cut_6 : decode (mm_AB_cut).2.1 6 = .ok (.getfield 31, 3) := by decide +kernel
theorem dd_AB_cut_9 : decode (mm_AB_cut).2.1 9 = .ok (.getfield 84, 3) := by decide +kernel
theorem dd_AB_cut_12 : decode (mm_AB_cut).2.1 12 = .ok (.getfield 48, 3) := by decide +kernel
theorem dd_AB_cut_15 : decode (mm_AB_cut).2.1 15 = .ok (.if_icmp .le 5, 3) := by decide +kernel
theorem dd_AB_cut_18 : decode (mm_AB_cut).2.1 18 = .ok (.iconst (-1), 1) := by decide +kernel
theorem dd_AB_cut_19 : decode (mm_AB_cut).2.1 19 = .ok (.ireturn, 1) := by decide +kernel
theorem dd_AB_cut_20 : decode (mm_AB_cut).2.1 20 = .ok (.aload_n 0, 1) := by decide +kernel
theorem dd_AB_cut_21 : decode (mm_AB_cut).2.1 21 = .ok (.getfield 31, 3) := by decide +kernel
theorem dd_AB_cut_24 : decode (mm_AB_cut).2.1 24 = .ok (.getfield 84, 3) := by decide +kernel
theorem dd_AB_cut_27 : decode (mm_AB_cut).2.1 27 = .ok (.iload_n 1, 1) := by decide +kernel
theorem dd_AB_cut_28 : decode (mm_AB_cut).2.1 28 = .ok (.invokevirtual 72, 3) := by decide +kernel
theorem dd_AB_cut_31 : decode (mm_AB_cut).2.1 31 = .ok (.aload_n 0, 1) := by decide +kernel
theorem dd_AB_cut_32 : decode (mm_AB_cut).2.1 32 = .ok (.getfield 31, 3) := by decide +kernel
theorem dd_AB_cut_35 : decode (mm_AB_cut).2.1 35 = .ok (.invokevirtual 90, 3) := by decide +kernel
theorem dd_AB_cut_38 : decode (mm_AB_cut).2.1 38 = .ok (.iload_n 1, 1) := by decide +kernel
theorem dd_AB_cut_39 : decode (mm_AB_cut).2.1 39 = .ok (.ireturn, 1) := by decide +kernel
theorem dd_AB_image_0 : decode (mm_AB_image).2.1 0 = .ok (.aload_n 0, 1) := by decide +kernel
theorem dd_AB_image_1 : decode (mm_AB_image).2.1 1 = .ok (.getfield 31, 3) := by decide +kernel
theorem dd_AB_image_4 : decode (mm_AB_image).2.1 4 = .ok (.getfield 84, 3) := by decide +kernel
theorem dd_AB_image_7 : decode (mm_AB_image).2.1 7 = .ok (.iload_n 1, 1) := by decide +kernel
theorem dd_AB_image_8 : decode (mm_AB_image).2.1 8 = .ok (.invokevirtual 97, 3) := by decide +kernel
theorem dd_AB_image_11 : decode (mm_AB_image).2.1 11 = .ok (.ireturn, 1) := by decide +kernel
theorem dd_AB_open_0 : decode (mm_AB_open).2.1 0 = .ok (.aload_n 0, 1) := by decide +kernel
theorem dd_AB_open_1 : decode (mm_AB_open).2.1 1 = .ok (.getfield 31, 3) := by decide +kernel
theorem dd_AB_open_4 : decode (mm_AB_open).2.1 4 = .ok (.getfield 84, 3) := by decide +kernel
theorem dd_AB_open_7 : decode (mm_AB_open).2.1 7 = .ok (.iconst 0, 1) := by decide +kernel
theorem dd_AB_open_8 : decode (mm_AB_open).2.1 8 = .ok (.invokevirtual 97, 3) := by decide +kernel
theorem dd_AB_open_11 : decode (mm_AB_open).2.1 11 = .ok (.lookupswitch 49 #[(67, 33), (69, 33), (73, 41)], 33) := by decide +kernel
theorem dd_AB_open_44 : decode (mm_AB_open).2.1 44 = .ok (.aload_n 0, 1) := by decide +kernel
theorem dd_AB_open_45 : decode (mm_AB_open).2.1 45 = .ok (.getfield 31, 3) := by decide +kernel
theorem dd_AB_open_48 : decode (mm_AB_open).2.1 48 = .ok (.invokevirtual 101, 3) := by decide +kernel
theorem dd_AB_open_51 : decode (mm_AB_open).2.1 51 = .ok (.ireturn, 1) := by decide +kernel
theorem dd_AB_open_52 : decode (mm_AB_open).2.1 52 = .ok (.aload_n 0, 1) := by decide +kernel
theorem dd_AB_open_53 : decode (mm_AB_open).2.1 53 = .ok (.getfield 31, 3) := by decide +kernel
theorem dd_AB_open_56 : decode (mm_AB_open).2.1 56 = .ok (.invokevirtual 105, 3) := by decide +kernel
theorem dd_AB_open_59 : decode (mm_AB_open).2.1 59 = .ok (.ireturn, 1) := by decide +kernel
theorem dd_AB_open_60 : decode (mm_AB_open).2.1 60 = .ok (.aload_n 0, 1) := by decide +kernel
theorem dd_AB_open_61 : decode (mm_AB_open).2.1 61 = .ok (.getfield 31, 3) := by decide +kernel
theorem dd_AB_open_64 : decode (mm_AB_open).2.1 64 = .ok (.bipush (-4), 2) := by decide +kernel
theorem dd_AB_open_66 : decode (mm_AB_open).2.1 66 = .ok (.iconst 0, 1) := by decide +kernel
theorem dd_AB_open_67 : decode (mm_AB_open).2.1 67 = .ok (.invokevirtual 108, 3) := by decide +kernel
theorem dd_AB_open_70 : decode (mm_AB_open).2.1 70 = .ok (.ireturn, 1) := by decide +kernel
theorem dd_Ar_openChain_0 : decode (mm_Ar_openChain).2.1 0 = .ok (.aload_n 0, 1) := by decide +kernel
theorem dd_Ar_openChain_1 : decode (mm_Ar_openChain).2.1 1 = .ok (.iconst 0, 1) := by decide +kernel
theorem dd_Ar_openChain_2 : decode (mm_Ar_openChain).2.1 2 = .ok (.aload_n 0, 1) := by decide +kernel
theorem dd_Ar_openChain_3 : decode (mm_Ar_openChain).2.1 3 = .ok (.getfield 14, 3) := by decide +kernel
theorem dd_Ar_openChain_6 : decode (mm_Ar_openChain).2.1 6 = .ok (.getfield 47, 3) := by decide +kernel
theorem dd_Ar_openChain_9 : decode (mm_Ar_openChain).2.1 9 = .ok (.invokevirtual 50, 3) := by decide +kernel
theorem dd_Ar_openChain_12 : decode (mm_Ar_openChain).2.1 12 = .ok (.iconst 0, 1) := by decide +kernel
theorem dd_Ar_openChain_13 : decode (mm_Ar_openChain).2.1 13 = .ok (.istore_n 1, 1) := by decide +kernel
theorem dd_Ar_openChain_14 : decode (mm_Ar_openChain).2.1 14 = .ok (.iload_n 1, 1) := by decide +kernel
theorem dd_Ar_openChain_15 : decode (mm_Ar_openChain).2.1 15 = .ok (.bipush 6, 2) := by decide +kernel
theorem dd_Ar_openChain_17 : decode (mm_Ar_openChain).2.1 17 = .ok (.if_icmp .gt 118, 3) := by decide +kernel
theorem dd_Ar_openChain_20 : decode (mm_Ar_openChain).2.1 20 = .ok (.aload_n 0, 1) := by decide +kernel
theorem dd_Ar_openChain_21 : decode (mm_Ar_openChain).2.1 21 = .ok (.getfield 41, 3) := by decide +kernel
theorem dd_Ar_openChain_24 : decode (mm_Ar_openChain).2.1 24 = .ok (.istore_n 2, 1) := by decide +kernel
theorem dd_Ar_openChain_25 : decode (mm_Ar_openChain).2.1 25 = .ok (.aload_n 0, 1) := by decide +kernel
theorem dd_Ar_openChain_26 : decode (mm_Ar_openChain).2.1 26 = .ok (.invokevirtual 54, 3) := by decide +kernel
theorem dd_Ar_openChain_29 : decode (mm_Ar_openChain).2.1 29 = .ok (.istore_n 3, 1) := by decide +kernel
theorem dd_Ar_openChain_30 : decode (mm_Ar_openChain).2.1 30 = .ok (.iload_n 3, 1) := by decide +kernel
theorem dd_Ar_openChain_31 : decode (mm_Ar_openChain).2.1 31 = .ok (.ifCond .ge 5, 3) := by decide +kernel
theorem dd_Ar_openChain_34 : decode (mm_Ar_openChain).2.1 34 = .ok (.iload_n 3, 1) := by decide +kernel
theorem dd_Ar_openChain_35 : decode (mm_Ar_openChain).2.1 35 = .ok (.ireturn, 1) := by decide +kernel
theorem dd_Ar_openChain_36 : decode (mm_Ar_openChain).2.1 36 = .ok (.iload_n 3, 1) := by decide +kernel
theorem dd_Ar_openChain_37 : decode (mm_Ar_openChain).2.1 37 = .ok (.bipush 69, 2) := by decide +kernel
theorem dd_Ar_openChain_39 : decode (mm_Ar_openChain).2.1 39 = .ok (.if_icmp .ne 8, 3) := by decide +kernel
theorem dd_Ar_openChain_42 : decode (mm_Ar_openChain).2.1 42 = .ok (.aload_n 0, 1) := by decide +kernel
theorem dd_Ar_openChain_43 : decode (mm_Ar_openChain).2.1 43 = .ok (.getfield 27, 3) := by decide +kernel
theorem dd_Ar_openChain_46 : decode (mm_Ar_openChain).2.1 46 = .ok (.ireturn, 1) := by decide +kernel
theorem dd_Ar_openChain_47 : decode (mm_Ar_openChain).2.1 47 = .ok (.iload_n 3, 1) := by decide +kernel
theorem dd_Ar_openChain_48 : decode (mm_Ar_openChain).2.1 48 = .ok (.bipush 67, 2) := by decide +kernel
theorem dd_Ar_openChain_50 : decode (mm_Ar_openChain).2.1 50 = .ok (.if_icmp .eq 11, 3) := by decide +kernel
theorem dd_Ar_openChain_53 : decode (mm_Ar_openChain).2.1 53 = .ok (.aload_n 0, 1) := by decide +kernel
theorem dd_Ar_openChain_54 : decode (mm_Ar_openChain).2.1 54 = .ok (.bipush (-4), 2) := by decide +kernel
theorem dd_Ar_openChain_56 : decode (mm_Ar_openChain).2.1 56 = .ok (.iload_n 2, 1) := by decide +kernel
theorem dd_Ar_openChain_57 : decode (mm_Ar_openChain).2.1 57 = .ok (.invokevirtual 58, 3) := by decide +kernel
theorem dd_Ar_openChain_60 : decode (mm_Ar_openChain).2.1 60 = .ok (.ireturn, 1) := by decide +kernel
theorem dd_Ar_openChain_61 : decode (mm_Ar_openChain).2.1 61 = .ok (.aload_n 0, 1) := by decide +kernel
theorem dd_Ar_openChain_62 : decode (mm_Ar_openChain).2.1 62 = .ok (.aload_n 0, 1) := by decide +kernel
theorem dd_Ar_openChain_63 : decode (mm_Ar_openChain).2.1 63 = .ok (.getfield 22, 3) := by decide +kernel
theorem dd_Ar_openChain_66 : decode (mm_Ar_openChain).2.1 66 = .ok (.iload_n 1, 1) := by decide +kernel
theorem dd_Ar_openChain_67 : decode (mm_Ar_openChain).2.1 67 = .ok (.aaload, 1) := by decide +kernel
theorem dd_Ar_openChain_68 : decode (mm_Ar_openChain).2.1 68 = .ok (.iload_n 2, 1) := by decide +kernel
theorem dd_Ar_openChain_69 : decode (mm_Ar_openChain).2.1 69 = .ok (.invokevirtual 62, 3) := by decide +kernel
theorem dd_Ar_openChain_72 : decode (mm_Ar_openChain).2.1 72 = .ok (.istore 4, 2) := by decide +kernel
theorem dd_Ar_openChain_74 : decode (mm_Ar_openChain).2.1 74 = .ok (.iload 4, 2) := by decide +kernel
theorem dd_Ar_openChain_76 : decode (mm_Ar_openChain).2.1 76 = .ok (.ifCond .ge 6, 3) := by decide +kernel
theorem dd_Ar_openChain_79 : decode (mm_Ar_openChain).2.1 79 = .ok (.iload 4, 2) := by decide +kernel
theorem dd_Ar_openChain_81 : decode (mm_Ar_openChain).2.1 81 = .ok (.ireturn, 1) := by decide +kernel
theorem dd_Ar_openChain_82 : decode (mm_Ar_openChain).2.1 82 = .ok (.aload_n 0, 1) := by decide +kernel
theorem dd_Ar_openChain_83 : decode (mm_Ar_openChain).2.1 83 = .ok (.getfield 27, 3) := by decide +kernel
theorem dd_Ar_openChain_86 : decode (mm_Ar_openChain).2.1 86 = .ok (.bipush 6, 2) := by decide +kernel
theorem dd_Ar_openChain_88 : decode (mm_Ar_openChain).2.1 88 = .ok (.if_icmp .ne 11, 3) := by decide +kernel
theorem dd_Ar_openChain_91 : decode (mm_Ar_openChain).2.1 91 = .ok (.aload_n 0, 1) := by decide +kernel
theorem dd_Ar_openChain_92 : decode (mm_Ar_openChain).2.1 92 = .ok (.bipush (-2), 2) := by decide +kernel
theorem dd_Ar_openChain_94 : decode (mm_Ar_openChain).2.1 94 = .ok (.iload_n 2, 1) := by decide +kernel
theorem dd_Ar_openChain_95 : decode (mm_Ar_openChain).2.1 95 = .ok (.invokevirtual 58, 3) := by decide +kernel
theorem dd_Ar_openChain_98 : decode (mm_Ar_openChain).2.1 98 = .ok (.ireturn, 1) := by decide +kernel
theorem dd_Ar_openChain_99 : decode (mm_Ar_openChain).2.1 99 = .ok (.aload_n 0, 1) := by decide +kernel
theorem dd_Ar_openChain_100 : decode (mm_Ar_openChain).2.1 100 = .ok (.aload_n 0, 1) := by decide +kernel
theorem dd_Ar_openChain_101 : decode (mm_Ar_openChain).2.1 101 = .ok (.getfield 22, 3) := by decide +kernel
theorem dd_Ar_openChain_104 : decode (mm_Ar_openChain).2.1 104 = .ok (.iload_n 1, 1) := by decide +kernel
theorem dd_Ar_openChain_105 : decode (mm_Ar_openChain).2.1 105 = .ok (.aaload, 1) := by decide +kernel
theorem dd_Ar_openChain_106 : decode (mm_Ar_openChain).2.1 106 = .ok (.invokevirtual 66, 3) := by decide +kernel
theorem dd_Ar_openChain_109 : decode (mm_Ar_openChain).2.1 109 = .ok (.istore 4, 2) := by decide +kernel
theorem dd_Ar_openChain_111 : decode (mm_Ar_openChain).2.1 111 = .ok (.iload 4, 2) := by decide +kernel
theorem dd_Ar_openChain_113 : decode (mm_Ar_openChain).2.1 113 = .ok (.ifCond .ge 6, 3) := by decide +kernel
theorem dd_Ar_openChain_116 : decode (mm_Ar_openChain).2.1 116 = .ok (.iload 4, 2) := by decide +kernel
theorem dd_Ar_openChain_118 : decode (mm_Ar_openChain).2.1 118 = .ok (.ireturn, 1) := by decide +kernel
theorem dd_Ar_openChain_119 : decode (mm_Ar_openChain).2.1 119 = .ok (.aload_n 0, 1) := by decide +kernel
theorem dd_Ar_openChain_120 : decode (mm_Ar_openChain).2.1 120 = .ok (.dup, 1) := by decide +kernel
theorem dd_Ar_openChain_121 : decode (mm_Ar_openChain).2.1 121 = .ok (.getfield 27, 3) := by decide +kernel
theorem dd_Ar_openChain_124 : decode (mm_Ar_openChain).2.1 124 = .ok (.iconst 1, 1) := by decide +kernel
theorem dd_Ar_openChain_125 : decode (mm_Ar_openChain).2.1 125 = .ok (.iadd, 1) := by decide +kernel
theorem dd_Ar_openChain_126 : decode (mm_Ar_openChain).2.1 126 = .ok (.putfield 27, 3) := by decide +kernel
theorem dd_Ar_openChain_129 : decode (mm_Ar_openChain).2.1 129 = .ok (.iinc 1 1, 3) := by decide +kernel
theorem dd_Ar_openChain_132 : decode (mm_Ar_openChain).2.1 132 = .ok (.goto (-118), 3) := by decide +kernel
theorem dd_Ar_openChain_135 : decode (mm_Ar_openChain).2.1 135 = .ok (.aload_n 0, 1) := by decide +kernel
theorem dd_Ar_openChain_136 : decode (mm_Ar_openChain).2.1 136 = .ok (.bipush (-2), 2) := by decide +kernel
theorem dd_Ar_openChain_138 : decode (mm_Ar_openChain).2.1 138 = .ok (.aload_n 0, 1) := by decide +kernel
theorem dd_Ar_openChain_139 : decode (mm_Ar_openChain).2.1 139 = .ok (.getfield 41, 3) := by decide +kernel
theorem dd_Ar_openChain_142 : decode (mm_Ar_openChain).2.1 142 = .ok (.invokevirtual 58, 3) := by decide +kernel
theorem dd_Ar_openChain_145 : decode (mm_Ar_openChain).2.1 145 = .ok (.ireturn, 1) := by decide +kernel
theorem dd_Ar_start_0 : decode (mm_Ar_start).2.1 0 = .ok (.aload_n 0, 1) := by decide +kernel
theorem dd_Ar_start_1 : decode (mm_Ar_start).2.1 1 = .ok (.iconst 0, 1) := by decide +kernel
theorem dd_Ar_start_2 : decode (mm_Ar_start).2.1 2 = .ok (.putfield 27, 3) := by decide +kernel
theorem dd_Ar_start_5 : decode (mm_Ar_start).2.1 5 = .ok (.aload_n 0, 1) := by decide +kernel
theorem dd_Ar_start_6 : decode (mm_Ar_start).2.1 6 = .ok (.iconst (-1), 1) := by decide +kernel
theorem dd_Ar_start_7 : decode (mm_Ar_start).2.1 7 = .ok (.putfield 31, 3) := by decide +kernel
theorem dd_Ar_start_10 : decode (mm_Ar_start).2.1 10 = .ok (.aload_n 0, 1) := by decide +kernel
theorem dd_Ar_start_11 : decode (mm_Ar_start).2.1 11 = .ok (.iload_n 1, 1) := by decide +kernel
theorem dd_Ar_start_12 : decode (mm_Ar_start).2.1 12 = .ok (.putfield 41, 3) := by decide +kernel
theorem dd_Ar_start_15 : decode (mm_Ar_start).2.1 15 = .ok (.aload_n 0, 1) := by decide +kernel
theorem dd_Ar_start_16 : decode (mm_Ar_start).2.1 16 = .ok (.iload_n 2, 1) := by decide +kernel
theorem dd_Ar_start_17 : decode (mm_Ar_start).2.1 17 = .ok (.putfield 44, 3) := by decide +kernel
theorem dd_Ar_start_20 : decode (mm_Ar_start).2.1 20 = .ok (.return_, 1) := by decide +kernel
theorem dd_Ar_readByte_0 : decode (mm_Ar_readByte).2.1 0 = .ok (.aload_n 0, 1) := by decide +kernel
theorem dd_Ar_readByte_1 : decode (mm_Ar_readByte).2.1 1 = .ok (.getfield 41, 3) := by decide +kernel
theorem dd_Ar_readByte_4 : decode (mm_Ar_readByte).2.1 4 = .ok (.aload_n 0, 1) := by decide +kernel
theorem dd_Ar_readByte_5 : decode (mm_Ar_readByte).2.1 5 = .ok (.getfield 44, 3) := by decide +kernel
theorem dd_Ar_readByte_8 : decode (mm_Ar_readByte).2.1 8 = .ok (.if_icmp .lt 14, 3) := by decide +kernel
theorem dd_Ar_readByte_11 : decode (mm_Ar_readByte).2.1 11 = .ok (.aload_n 0, 1) := by decide +kernel
theorem dd_Ar_readByte_12 : decode (mm_Ar_readByte).2.1 12 = .ok (.bipush (-3), 2) := by decide +kernel
theorem dd_Ar_readByte_14 : decode (mm_Ar_readByte).2.1 14 = .ok (.aload_n 0, 1) := by decide +kernel
theorem dd_Ar_readByte_15 : decode (mm_Ar_readByte).2.1 15 = .ok (.getfield 44, 3) := by decide +kernel
theorem dd_Ar_readByte_18 : decode (mm_Ar_readByte).2.1 18 = .ok (.invokevirtual 58, 3) := by decide +kernel
theorem dd_Ar_readByte_21 : decode (mm_Ar_readByte).2.1 21 = .ok (.ireturn, 1) := by decide +kernel
theorem dd_Ar_readByte_22 : decode (mm_Ar_readByte).2.1 22 = .ok (.aload_n 0, 1) := by decide +kernel
theorem dd_Ar_readByte_23 : decode (mm_Ar_readByte).2.1 23 = .ok (.getfield 14, 3) := by decide +kernel
theorem dd_Ar_readByte_26 : decode (mm_Ar_readByte).2.1 26 = .ok (.aload_n 0, 1) := by decide +kernel
theorem dd_Ar_readByte_27 : decode (mm_Ar_readByte).2.1 27 = .ok (.getfield 41, 3) := by decide +kernel
theorem dd_Ar_readByte_30 : decode (mm_Ar_readByte).2.1 30 = .ok (.invokevirtual 94, 3) := by decide +kernel
theorem dd_Ar_readByte_33 : decode (mm_Ar_readByte).2.1 33 = .ok (.istore_n 1, 1) := by decide +kernel
theorem dd_Ar_readByte_34 : decode (mm_Ar_readByte).2.1 34 = .ok (.aload_n 0, 1) := by decide +kernel
theorem dd_Ar_readByte_35 : decode (mm_Ar_readByte).2.1 35 = .ok (.dup, 1) := by decide +kernel
theorem dd_Ar_readByte_36 : decode (mm_Ar_readByte).2.1 36 = .ok (.getfield 41, 3) := by decide +kernel
theorem dd_Ar_readByte_39 : decode (mm_Ar_readByte).2.1 39 = .ok (.iconst 1, 1) := by decide +kernel
theorem dd_Ar_readByte_40 : decode (mm_Ar_readByte).2.1 40 = .ok (.iadd, 1) := by decide +kernel
theorem dd_Ar_readByte_41 : decode (mm_Ar_readByte).2.1 41 = .ok (.putfield 41, 3) := by decide +kernel
theorem dd_Ar_readByte_44 : decode (mm_Ar_readByte).2.1 44 = .ok (.iload_n 1, 1) := by decide +kernel
theorem dd_Ar_readByte_45 : decode (mm_Ar_readByte).2.1 45 = .ok (.ireturn, 1) := by decide +kernel
theorem dd_Ar_stop_0 : decode (mm_Ar_stop).2.1 0 = .ok (.aload_n 0, 1) := by decide +kernel
theorem dd_Ar_stop_1 : decode (mm_Ar_stop).2.1 1 = .ok (.iconst 0, 1) := by decide +kernel
theorem dd_Ar_stop_2 : decode (mm_Ar_stop).2.1 2 = .ok (.putfield 27, 3) := by decide +kernel
theorem dd_Ar_stop_5 : decode (mm_Ar_stop).2.1 5 = .ok (.aload_n 0, 1) := by decide +kernel
theorem dd_Ar_stop_6 : decode (mm_Ar_stop).2.1 6 = .ok (.iload_n 2, 1) := by decide +kernel
theorem dd_Ar_stop_7 : decode (mm_Ar_stop).2.1 7 = .ok (.putfield 31, 3) := by decide +kernel
theorem dd_Ar_stop_10 : decode (mm_Ar_stop).2.1 10 = .ok (.iload_n 1, 1) := by decide +kernel
theorem dd_Ar_stop_11 : decode (mm_Ar_stop).2.1 11 = .ok (.ireturn, 1) := by decide +kernel
theorem dd_Ar_readRecordHead_0 : decode (mm_Ar_readRecordHead).2.1 0 = .ok (.aload_n 0, 1) := by decide +kernel
theorem dd_Ar_readRecordHead_1 : decode (mm_Ar_readRecordHead).2.1 1 = .ok (.aload_n 1, 1) := by decide +kernel
theorem dd_Ar_readRecordHead_2 : decode (mm_Ar_readRecordHead).2.1 2 = .ok (.invokevirtual 70, 3) := by decide +kernel
theorem dd_Ar_readRecordHead_5 : decode (mm_Ar_readRecordHead).2.1 5 = .ok (.istore_n 3, 1) := by decide +kernel
theorem dd_Ar_readRecordHead_6 : decode (mm_Ar_readRecordHead).2.1 6 = .ok (.iload_n 3, 1) := by decide +kernel
theorem dd_Ar_readRecordHead_7 : decode (mm_Ar_readRecordHead).2.1 7 = .ok (.ifCond .ge 5, 3) := by decide +kernel
theorem dd_Ar_readRecordHead_10 : decode (mm_Ar_readRecordHead).2.1 10 = .ok (.iload_n 3, 1) := by decide +kernel
theorem dd_Ar_readRecordHead_11 : decode (mm_Ar_readRecordHead).2.1 11 = .ok (.ireturn, 1) := by decide +kernel
theorem dd_Ar_readRecordHead_12 : decode (mm_Ar_readRecordHead).2.1 12 = .ok (.aload_n 1, 1) := by decide +kernel
theorem dd_Ar_readRecordHead_13 : decode (mm_Ar_readRecordHead).2.1 13 = .ok (.aload_n 0, 1) := by decide +kernel
theorem dd_Ar_readRecordHead_14 : decode (mm_Ar_readRecordHead).2.1 14 = .ok (.invokevirtual 54, 3) := by decide +kernel
theorem dd_Ar_readRecordHead_17 : decode (mm_Ar_readRecordHead).2.1 17 = .ok (.putfield 73, 3) := by decide +kernel
theorem dd_Ar_readRecordHead_20 : decode (mm_Ar_readRecordHead).2.1 20 = .ok (.aload_n 1, 1) := by decide +kernel
theorem dd_Ar_readRecordHead_21 : decode (mm_Ar_readRecordHead).2.1 21 = .ok (.getfield 73, 3) := by decide +kernel
theorem dd_Ar_readRecordHead_24 : decode (mm_Ar_readRecordHead).2.1 24 = .ok (.ifCond .ge 8, 3) := by decide +kernel
theorem dd_Ar_readRecordHead_27 : decode (mm_Ar_readRecordHead).2.1 27 = .ok (.aload_n 1, 1) := by decide +kernel
theorem dd_Ar_readRecordHead_28 : decode (mm_Ar_readRecordHead).2.1 28 = .ok (.getfield 73, 3) := by decide +kernel
theorem dd_Ar_readRecordHead_31 : decode (mm_Ar_readRecordHead).2.1 31 = .ok (.ireturn, 1) := by decide +kernel
theorem dd_Ar_readRecordHead_32 : decode (mm_Ar_readRecordHead).2.1 32 = .ok (.aload_n 0, 1) := by decide +kernel
theorem dd_Ar_readRecordHead_33 : decode (mm_Ar_readRecordHead).2.1 33 = .ok (.aload_n 1, 1) := by decide +kernel
theorem dd_Ar_readRecordHead_34 : decode (mm_Ar_readRecordHead).2.1 34 = .ok (.invokevirtual 76, 3) := by decide +kernel
theorem dd_Ar_readRecordHead_37 : decode (mm_Ar_readRecordHead).2.1 37 = .ok (.istore_n 3, 1) := by decide +kernel
theorem dd_Ar_readRecordHead_38 : decode (mm_Ar_readRecordHead).2.1 38 = .ok (.iload_n 3, 1) := by decide +kernel
theorem dd_Ar_readRecordHead_39 : decode (mm_Ar_readRecordHead).2.1 39 = .ok (.ifCond .ge 5, 3) := by decide +kernel
theorem dd_Ar_readRecordHead_42 : decode (mm_Ar_readRecordHead).2.1 42 = .ok (.iload_n 3, 1) := by decide +kernel
theorem dd_Ar_readRecordHead_43 : decode (mm_Ar_readRecordHead).2.1 43 = .ok (.ireturn, 1) := by decide +kernel
theorem dd_Ar_readRecordHead_44 : decode (mm_Ar_readRecordHead).2.1 44 = .ok (.aload_n 0, 1) := by decide +kernel
theorem dd_Ar_readRecordHead_45 : decode (mm_Ar_readRecordHead).2.1 45 = .ok (.getfield 14, 3) := by decide +kernel
theorem dd_Ar_readRecordHead_48 : decode (mm_Ar_readRecordHead).2.1 48 = .ok (.iload_n 2, 1) := by decide +kernel
theorem dd_Ar_readRecordHead_49 : decode (mm_Ar_readRecordHead).2.1 49 = .ok (.aload_n 0, 1) := by decide +kernel
theorem dd_Ar_readRecordHead_50 : decode (mm_Ar_readRecordHead).2.1 50 = .ok (.getfield 41, 3) := by decide +kernel
theorem dd_Ar_readRecordHead_53 : decode (mm_Ar_readRecordHead).2.1 53 = .ok (.invokevirtual 79, 3) := by decide +kernel
theorem dd_Ar_readRecordHead_56 : decode (mm_Ar_readRecordHead).2.1 56 = .ok (.istore 4, 2) := by decide +kernel
theorem dd_Ar_readRecordHead_58 : decode (mm_Ar_readRecordHead).2.1 58 = .ok (.aload_n 0, 1) := by decide +kernel
theorem dd_Ar_readRecordHead_59 : decode (mm_Ar_readRecordHead).2.1 59 = .ok (.iload 4, 2) := by decide +kernel
theorem dd_Ar_readRecordHead_61 : decode (mm_Ar_readRecordHead).2.1 61 = .ok (.iload 4, 2) := by decide +kernel
theorem dd_Ar_readRecordHead_63 : decode (mm_Ar_readRecordHead).2.1 63 = .ok (.invokevirtual 82, 3) := by decide +kernel
theorem dd_Ar_readRecordHead_66 : decode (mm_Ar_readRecordHead).2.1 66 = .ok (.ireturn, 1) := by decide +kernel
theorem dd_Ar_readMethodAndName_0 : decode (mm_Ar_readMethodAndName).2.1 0 = .ok (.aload_n 1, 1) := by decide +kernel
theorem dd_Ar_readMethodAndName_1 : decode (mm_Ar_readMethodAndName).2.1 1 = .ok (.aload_n 0, 1) := by decide +kernel
theorem dd_Ar_readMethodAndName_2 : decode (mm_Ar_readMethodAndName).2.1 2 = .ok (.iconst 0, 1) := by decide +kernel
theorem dd_Ar_readMethodAndName_3 : decode (mm_Ar_readMethodAndName).2.1 3 = .ok (.iconst 2, 1) := by decide +kernel
theorem dd_Ar_readMethodAndName_4 : decode (mm_Ar_readMethodAndName).2.1 4 = .ok (.invokevirtual 82, 3) := by decide +kernel
theorem dd_Ar_readMethodAndName_7 : decode (mm_Ar_readMethodAndName).2.1 7 = .ok (.putfield 112, 3) := by decide +kernel
theorem dd_Ar_readMethodAndName_10 : decode (mm_Ar_readMethodAndName).2.1 10 = .ok (.aload_n 1, 1) := by decide +kernel
theorem dd_Ar_readMethodAndName_11 : decode (mm_Ar_readMethodAndName).2.1 11 = .ok (.getfield 112, 3) := by decide +kernel
theorem dd_Ar_readMethodAndName_14 : decode (mm_Ar_readMethodAndName).2.1 14 = .ok (.ifCond .ge 8, 3) := by decide +kernel
theorem dd_Ar_readMethodAndName_17 : decode (mm_Ar_readMethodAndName).2.1 17 = .ok (.aload_n 1, 1) := by decide +kernel
theorem dd_Ar_readMethodAndName_18 : decode (mm_Ar_readMethodAndName).2.1 18 = .ok (.getfield 112, 3) := by decide +kernel
theorem dd_Ar_readMethodAndName_21 : decode (mm_Ar_readMethodAndName).2.1 21 = .ok (.ireturn, 1) := by decide +kernel
theorem dd_Ar_readMethodAndName_22 : decode (mm_Ar_readMethodAndName).2.1 22 = .ok (.aload_n 0, 1) := by decide +kernel
theorem dd_Ar_readMethodAndName_23 : decode (mm_Ar_readMethodAndName).2.1 23 = .ok (.iconst 1, 1) := by decide +kernel
theorem dd_Ar_readMethodAndName_24 : decode (mm_Ar_readMethodAndName).2.1 24 = .ok (.bipush 8, 2) := by decide +kernel
theorem dd_Ar_readMethodAndName_26 : decode (mm_Ar_readMethodAndName).2.1 26 = .ok (.invokevirtual 82, 3) := by decide +kernel
theorem dd_Ar_readMethodAndName_29 : decode (mm_Ar_readMethodAndName).2.1 29 = .ok (.istore_n 2, 1) := by decide +kernel
theorem dd_Ar_readMethodAndName_30 : decode (mm_Ar_readMethodAndName).2.1 30 = .ok (.aload_n 1, 1) := by decide +kernel
theorem dd_Ar_readMethodAndName_31 : decode (mm_Ar_readMethodAndName).2.1 31 = .ok (.getfield 34, 3) := by decide +kernel
theorem dd_Ar_readMethodAndName_34 : decode (mm_Ar_readMethodAndName).2.1 34 = .ok (.iconst 0, 1) := by decide +kernel
theorem dd_Ar_readMethodAndName_35 : decode (mm_Ar_readMethodAndName).2.1 35 = .ok (.invokevirtual 115, 3) := by decide +kernel
theorem dd_Ar_readMethodAndName_38 : decode (mm_Ar_readMethodAndName).2.1 38 = .ok (.iconst 0, 1) := by decide +kernel
theorem dd_Ar_readMethodAndName_39 : decode (mm_Ar_readMethodAndName).2.1 39 = .ok (.istore_n 3, 1) := by decide +kernel
theorem dd_Ar_readMethodAndName_40 : decode (mm_Ar_readMethodAndName).2.1 40 = .ok (.iload_n 3, 1) := by decide +kernel
theorem dd_Ar_readMethodAndName_41 : decode (mm_Ar_readMethodAndName).2.1 41 = .ok (.iload_n 2, 1) := by decide +kernel
theorem dd_Ar_readMethodAndName_42 : decode (mm_Ar_readMethodAndName).2.1 42 = .ok (.if_icmp .ge 54, 3) := by decide +kernel
theorem dd_Ar_readMethodAndName_45 : decode (mm_Ar_readMethodAndName).2.1 45 = .ok (.aload_n 0, 1) := by decide +kernel
theorem dd_Ar_readMethodAndName_46 : decode (mm_Ar_readMethodAndName).2.1 46 = .ok (.invokevirtual 54, 3) := by decide +kernel
theorem dd_Ar_readMethodAndName_49 : decode (mm_Ar_readMethodAndName).2.1 49 = .ok (.istore 4, 2) := by decide +kernel
theorem dd_Ar_readMethodAndName_51 : decode (mm_Ar_readMethodAndName).2.1 51 = .ok (.iload 4, 2) := by decide +kernel
theorem dd_Ar_readMethodAndName_53 : decode (mm_Ar_readMethodAndName).2.1 53 = .ok (.ifCond .ge 6, 3) := by decide +kernel
theorem dd_Ar_readMethodAndName_56 : decode (mm_Ar_readMethodAndName).2.1 56 = .ok (.iload 4, 2) := by decide +kernel
theorem dd_Ar_readMethodAndName_58 : decode (mm_Ar_readMethodAndName).2.1 58 = .ok (.ireturn, 1) := by decide +kernel
theorem dd_Ar_readMethodAndName_59 : decode (mm_Ar_readMethodAndName).2.1 59 = .ok (.iload 4, 2) := by decide +kernel
theorem dd_Ar_readMethodAndName_61 : decode (mm_Ar_readMethodAndName).2.1 61 = .ok (.invokestatic 118, 3) := by decide +kernel
theorem dd_Ar_readMethodAndName_64 : decode (mm_Ar_readMethodAndName).2.1 64 = .ok (.ifCond .ne 16, 3) := by decide +kernel
theorem dd_Ar_readMethodAndName_67 : decode (mm_Ar_readMethodAndName).2.1 67 = .ok (.aload_n 0, 1) := by decide +kernel
theorem dd_Ar_readMethodAndName_68 : decode (mm_Ar_readMethodAndName).2.1 68 = .ok (.bipush (-4), 2) := by decide +kernel
theorem dd_Ar_readMethodAndName_70 : decode (mm_Ar_readMethodAndName).2.1 70 = .ok (.aload_n 0, 1) := by decide +kernel
theorem dd_Ar_readMethodAndName_71 : decode (mm_Ar_readMethodAndName).2.1 71 = .ok (.getfield 41, 3) := by decide +kernel
theorem dd_Ar_readMethodAndName_74 : decode (mm_Ar_readMethodAndName).2.1 74 = .ok (.iconst 1, 1) := by decide +kernel
theorem dd_Ar_readMethodAndName_75 : decode (mm_Ar_readMethodAndName).2.1 75 = .ok (.isub, 1) := by decide +kernel
theorem dd_Ar_readMethodAndName_76 : decode (mm_Ar_readMethodAndName).2.1 76 = .ok (.invokevirtual 58, 3) := by decide +kernel
theorem dd_Ar_readMethodAndName_79 : decode (mm_Ar_readMethodAndName).2.1 79 = .ok (.ireturn, 1) := by decide +kernel
theorem dd_Ar_readMethodAndName_80 : decode (mm_Ar_readMethodAndName).2.1 80 = .ok (.aload_n 1, 1) := by decide +kernel
theorem dd_Ar_readMethodAndName_81 : decode (mm_Ar_readMethodAndName).2.1 81 = .ok (.getfield 34, 3) := by decide +kernel
theorem dd_Ar_readMethodAndName_84 : decode (mm_Ar_readMethodAndName).2.1 84 = .ok (.iload 4, 2) := by decide +kernel
theorem dd_Ar_readMethodAndName_86 : decode (mm_Ar_readMethodAndName).2.1 86 = .ok (.invokevirtual 122, 3) := by decide +kernel
theorem dd_Ar_readMethodAndName_89 : decode (mm_Ar_readMethodAndName).2.1 89 = .ok (.pop, 1) := by decide +kernel
theorem dd_Ar_readMethodAndName_90 : decode (mm_Ar_readMethodAndName).2.1 90 = .ok (.iinc 3 1, 3) := by decide +kernel
theorem dd_Ar_readMethodAndName_93 : decode (mm_Ar_readMethodAndName).2.1 93 = .ok (.goto (-53), 3) := by decide +kernel
theorem dd_Ar_readMethodAndName_96 : decode (mm_Ar_readMethodAndName).2.1 96 = .ok (.iload_n 2, 1) := by decide +kernel
theorem dd_Ar_readMethodAndName_97 : decode (mm_Ar_readMethodAndName).2.1 97 = .ok (.ireturn, 1) := by decide +kernel
theorem dd_Ar_readBetween_0 : decode (mm_Ar_readBetween).2.1 0 = .ok (.aload_n 0, 1) := by decide +kernel
theorem dd_Ar_readBetween_1 : decode (mm_Ar_readBetween).2.1 1 = .ok (.invokevirtual 54, 3) := by decide +kernel
theorem dd_Ar_readBetween_4 : decode (mm_Ar_readBetween).2.1 4 = .ok (.istore_n 3, 1) := by decide +kernel
theorem dd_Ar_readBetween_5 : decode (mm_Ar_readBetween).2.1 5 = .ok (.iload_n 3, 1) := by decide +kernel
theorem dd_Ar_readBetween_6 : decode (mm_Ar_readBetween).2.1 6 = .ok (.ifCond .lt 26, 3) := by decide +kernel
theorem dd_Ar_readBetween_9 : decode (mm_Ar_readBetween).2.1 9 = .ok (.iload_n 3, 1) := by decide +kernel
theorem dd_Ar_readBetween_10 : decode (mm_Ar_readBetween).2.1 10 = .ok (.iload_n 1, 1) := by decide +kernel
theorem dd_Ar_readBetween_11 : decode (mm_Ar_readBetween).2.1 11 = .ok (.if_icmp .lt 8, 3) := by decide +kernel
theorem dd_Ar_readBetween_14 : decode (mm_Ar_readBetween).2.1 14 = .ok (.iload_n 3, 1) := by decide +kernel
theorem dd_Ar_readBetween_15 : decode (mm_Ar_readBetween).2.1 15 = .ok (.iload_n 2, 1) := by decide +kernel
theorem dd_Ar_readBetween_16 : decode (mm_Ar_readBetween).2.1 16 = .ok (.if_icmp .le 16, 3) := by decide +kernel
theorem dd_Ar_readBetween_19 : decode (mm_Ar_readBetween).2.1 19 = .ok (.aload_n 0, 1) := by decide +kernel
theorem dd_Ar_readBetween_20 : decode (mm_Ar_readBetween).2.1 20 = .ok (.bipush (-4), 2) := by decide +kernel
theorem dd_Ar_readBetween_22 : decode (mm_Ar_readBetween).2.1 22 = .ok (.aload_n 0, 1) := by decide +kernel
theorem dd_Ar_readBetween_23 : decode (mm_Ar_readBetween).2.1 23 = .ok (.getfield 41, 3) := by decide +kernel
theorem dd_Ar_readBetween_26 : decode (mm_Ar_readBetween).2.1 26 = .ok (.iconst 1, 1) := by decide +kernel
theorem dd_Ar_readBetween_27 : decode (mm_Ar_readBetween).2.1 27 = .ok (.isub, 1) := by decide +kernel
theorem dd_Ar_readBetween_28 : decode (mm_Ar_readBetween).2.1 28 = .ok (.invokevirtual 58, 3) := by decide +kernel
theorem dd_Ar_readBetween_31 : decode (mm_Ar_readBetween).2.1 31 = .ok (.ireturn, 1) := by decide +kernel
theorem dd_Ar_readBetween_32 : decode (mm_Ar_readBetween).2.1 32 = .ok (.iload_n 3, 1) := by decide +kernel
theorem dd_Ar_readBetween_33 : decode (mm_Ar_readBetween).2.1 33 = .ok (.ireturn, 1) := by decide +kernel
theorem dd_Ar_readLengthAndCheck_0 : decode (mm_Ar_readLengthAndCheck).2.1 0 = .ok (.aload_n 1, 1) := by decide +kernel
theorem dd_Ar_readLengthAndCheck_1 : decode (mm_Ar_readLengthAndCheck).2.1 1 = .ok (.aload_n 0, 1) := by decide +kernel
theorem dd_Ar_readLengthAndCheck_2 : decode (mm_Ar_readLengthAndCheck).2.1 2 = .ok (.iconst 0, 1) := by decide +kernel
theorem dd_Ar_readLengthAndCheck_3 : decode (mm_Ar_readLengthAndCheck).2.1 3 = .ok (.bipush 60, 2) := by decide +kernel
theorem dd_Ar_readLengthAndCheck_5 : decode (mm_Ar_readLengthAndCheck).2.1 5 = .ok (.invokevirtual 82, 3) := by decide +kernel
theorem dd_Ar_readLengthAndCheck_8 : decode (mm_Ar_readLengthAndCheck).2.1 8 = .ok (.putfield 125, 3) := by decide +kernel
theorem dd_Ar_readLengthAndCheck_11 : decode (mm_Ar_readLengthAndCheck).2.1 11 = .ok (.aload_n 1, 1) := by decide +kernel
theorem dd_Ar_readLengthAndCheck_12 : decode (mm_Ar_readLengthAndCheck).2.1 12 = .ok (.getfield 125, 3) := by decide +kernel
theorem dd_Ar_readLengthAndCheck_15 : decode (mm_Ar_readLengthAndCheck).2.1 15 = .ok (.ifCond .ge 8, 3) := by decide +kernel
theorem dd_Ar_readLengthAndCheck_18 : decode (mm_Ar_readLengthAndCheck).2.1 18 = .ok (.aload_n 1, 1) := by decide +kernel
theorem dd_Ar_readLengthAndCheck_19 : decode (mm_Ar_readLengthAndCheck).2.1 19 = .ok (.getfield 125, 3) := by decide +kernel
theorem dd_Ar_readLengthAndCheck_22 : decode (mm_Ar_readLengthAndCheck).2.1 22 = .ok (.ireturn, 1) := by decide +kernel
theorem dd_Ar_readLengthAndCheck_23 : decode (mm_Ar_readLengthAndCheck).2.1 23 = .ok (.aload_n 1, 1) := by decide +kernel
theorem dd_Ar_readLengthAndCheck_24 : decode (mm_Ar_readLengthAndCheck).2.1 24 = .ok (.aload_n 0, 1) := by decide +kernel
theorem dd_Ar_readLengthAndCheck_25 : decode (mm_Ar_readLengthAndCheck).2.1 25 = .ok (.invokevirtual 109, 3) := by decide +kernel
theorem dd_Ar_readLengthAndCheck_28 : decode (mm_Ar_readLengthAndCheck).2.1 28 = .ok (.putfield 126, 3) := by decide +kernel
theorem dd_Ar_readLengthAndCheck_31 : decode (mm_Ar_readLengthAndCheck).2.1 31 = .ok (.aload_n 1, 1) := by decide +kernel
theorem dd_Ar_readLengthAndCheck_32 : decode (mm_Ar_readLengthAndCheck).2.1 32 = .ok (.getfield 126, 3) := by decide +kernel
theorem dd_Ar_readLengthAndCheck_35 : decode (mm_Ar_readLengthAndCheck).2.1 35 = .ok (.ireturn, 1) := by decide +kernel
theorem dd_Ar_readNumber_0 : decode (mm_Ar_readNumber).2.1 0 = .ok (.aload_n 0, 1) := by decide +kernel
theorem dd_Ar_readNumber_1 : decode (mm_Ar_readNumber).2.1 1 = .ok (.invokevirtual 54, 3) := by decide +kernel
theorem dd_Ar_readNumber_4 : decode (mm_Ar_readNumber).2.1 4 = .ok (.istore_n 1, 1) := by decide +kernel
theorem dd_Ar_readNumber_5 : decode (mm_Ar_readNumber).2.1 5 = .ok (.iload_n 1, 1) := by decide +kernel
theorem dd_Ar_readNumber_6 : decode (mm_Ar_readNumber).2.1 6 = .ok (.ifCond .ge 5, 3) := by decide +kernel
theorem dd_Ar_readNumber_9 : decode (mm_Ar_readNumber).2.1 9 = .ok (.iload_n 1, 1) := by decide +kernel
theorem dd_Ar_readNumber_10 : decode (mm_Ar_readNumber).2.1 10 = .ok (.ireturn, 1) := by decide +kernel
theorem dd_Ar_readNumber_11 : decode (mm_Ar_readNumber).2.1 11 = .ok (.aload_n 0, 1) := by decide +kernel
theorem dd_Ar_readNumber_12 : decode (mm_Ar_readNumber).2.1 12 = .ok (.invokevirtual 54, 3) := by decide +kernel
theorem dd_Ar_readNumber_15 : decode (mm_Ar_readNumber).2.1 15 = .ok (.istore_n 2, 1) := by decide +kernel
theorem dd_Ar_readNumber_16 : decode (mm_Ar_readNumber).2.1 16 = .ok (.iload_n 2, 1) := by decide +kernel
theorem dd_Ar_readNumber_17 : decode (mm_Ar_readNumber).2.1 17 = .ok (.ifCond .ge 7, 3) := by decide +kernel
theorem dd_Ar_readNumber_20 : decode (mm_Ar_readNumber).2.1 20 = .ok (.iload_n 2, 1) := by decide +kernel
theorem dd_Ar_readNumber_21 : decode (mm_Ar_readNumber).2.1 21 = .ok (.goto 10, 3) := by decide +kernel
theorem dd_Ar_readNumber_24 : decode (mm_Ar_readNumber).2.1 24 = .ok (.iload_n 1, 1) := by decide +kernel
theorem dd_Ar_readNumber_25 : decode (mm_Ar_readNumber).2.1 25 = .ok (.sipush 256, 3) := by decide +kernel
theorem dd_Ar_readNumber_28 : decode (mm_Ar_readNumber).2.1 28 = .ok (.imul, 1) := by decide +kernel
theorem dd_Ar_readNumber_29 : decode (mm_Ar_readNumber).2.1 29 = .ok (.iload_n 2, 1) := by decide +kernel
theorem dd_Ar_readNumber_30 : decode (mm_Ar_readNumber).2.1 30 = .ok (.iadd, 1) := by decide +kernel
theorem dd_Ar_readNumber_31 : decode (mm_Ar_readNumber).2.1 31 = .ok (.ireturn, 1) := by decide +kernel
theorem dd_Ar_passSqueezed_0 : decode (mm_Ar_passSqueezed).2.1 0 = .ok (.aload_n 1, 1) := by decide +kernel
theorem dd_Ar_passSqueezed_1 : decode (mm_Ar_passSqueezed).2.1 1 = .ok (.aload_n 0, 1) := by decide +kernel
theorem dd_Ar_passSqueezed_2 : decode (mm_Ar_passSqueezed).2.1 2 = .ok (.getfield 41, 3) := by decide +kernel
theorem dd_Ar_passSqueezed_5 : decode (mm_Ar_passSqueezed).2.1 5 = .ok (.putfield 85, 3) := by decide +kernel
theorem dd_Ar_passSqueezed_8 : decode (mm_Ar_passSqueezed).2.1 8 = .ok (.aload_n 0, 1) := by decide +kernel
theorem dd_Ar_passSqueezed_9 : decode (mm_Ar_passSqueezed).2.1 9 = .ok (.getfield 41, 3) := by decide +kernel
theorem dd_Ar_passSqueezed_12 : decode (mm_Ar_passSqueezed).2.1 12 = .ok (.aload_n 1, 1) := by decide +kernel
theorem dd_Ar_passSqueezed_13 : decode (mm_Ar_passSqueezed).2.1 13 = .ok (.getfield 73, 3) := by decide +kernel
theorem dd_Ar_passSqueezed_16 : decode (mm_Ar_passSqueezed).2.1 16 = .ok (.iadd, 1) := by decide +kernel
theorem dd_Ar_passSqueezed_17 : decode (mm_Ar_passSqueezed).2.1 17 = .ok (.istore_n 2, 1) := by decide +kernel
theorem dd_Ar_passSqueezed_18 : decode (mm_Ar_passSqueezed).2.1 18 = .ok (.iload_n 2, 1) := by decide +kernel
theorem dd_Ar_passSqueezed_19 : decode (mm_Ar_passSqueezed).2.1 19 = .ok (.iload_n 2, 1) := by decide +kernel
theorem dd_Ar_passSqueezed_20 : decode (mm_Ar_passSqueezed).2.1 20 = .ok (.invokestatic 88, 3) := by decide +kernel
theorem dd_Ar_passSqueezed_23 : decode (mm_Ar_passSqueezed).2.1 23 = .ok (.iadd, 1) := by decide +kernel
theorem dd_Ar_passSqueezed_24 : decode (mm_Ar_passSqueezed).2.1 24 = .ok (.istore_n 3, 1) := by decide +kernel
theorem dd_Ar_passSqueezed_25 : decode (mm_Ar_passSqueezed).2.1 25 = .ok (.iload_n 3, 1) := by decide +kernel
theorem dd_Ar_passSqueezed_26 : decode (mm_Ar_passSqueezed).2.1 26 = .ok (.aload_n 0, 1) := by decide +kernel
theorem dd_Ar_passSqueezed_27 : decode (mm_Ar_passSqueezed).2.1 27 = .ok (.getfield 44, 3) := by decide +kernel
theorem dd_Ar_passSqueezed_30 : decode (mm_Ar_passSqueezed).2.1 30 = .ok (.if_icmp .le 14, 3) := by decide +kernel
theorem dd_Ar_passSqueezed_33 : decode (mm_Ar_passSqueezed).2.1 33 = .ok (.aload_n 0, 1) := by decide +kernel
theorem dd_Ar_passSqueezed_34 : decode (mm_Ar_passSqueezed).2.1 34 = .ok (.bipush (-3), 2) := by decide +kernel
theorem dd_Ar_passSqueezed_36 : decode (mm_Ar_passSqueezed).2.1 36 = .ok (.aload_n 0, 1) := by decide +kernel
theorem dd_Ar_passSqueezed_37 : decode (mm_Ar_passSqueezed).2.1 37 = .ok (.getfield 44, 3) := by decide +kernel
theorem dd_Ar_passSqueezed_40 : decode (mm_Ar_passSqueezed).2.1 40 = .ok (.invokevirtual 58, 3) := by decide +kernel
theorem dd_Ar_passSqueezed_43 : decode (mm_Ar_passSqueezed).2.1 43 = .ok (.ireturn, 1) := by decide +kernel
theorem dd_Ar_passSqueezed_44 : decode (mm_Ar_passSqueezed).2.1 44 = .ok (.iload_n 2, 1) := by decide +kernel
theorem dd_Ar_passSqueezed_45 : decode (mm_Ar_passSqueezed).2.1 45 = .ok (.istore 4, 2) := by decide +kernel
theorem dd_Ar_passSqueezed_47 : decode (mm_Ar_passSqueezed).2.1 47 = .ok (.iload 4, 2) := by decide +kernel
theorem dd_Ar_passSqueezed_49 : decode (mm_Ar_passSqueezed).2.1 49 = .ok (.iload_n 3, 1) := by decide +kernel
theorem dd_Ar_passSqueezed_50 : decode (mm_Ar_passSqueezed).2.1 50 = .ok (.if_icmp .ge 30, 3) := by decide +kernel
theorem dd_Ar_passSqueezed_53 : decode (mm_Ar_passSqueezed).2.1 53 = .ok (.aload_n 0, 1) := by decide +kernel
theorem dd_Ar_passSqueezed_54 : decode (mm_Ar_passSqueezed).2.1 54 = .ok (.getfield 14, 3) := by decide +kernel
theorem dd_Ar_passSqueezed_57 : decode (mm_Ar_passSqueezed).2.1 57 = .ok (.iload 4, 2) := by decide +kernel
theorem dd_Ar_passSqueezed_59 : decode (mm_Ar_passSqueezed).2.1 59 = .ok (.invokevirtual 94, 3) := by decide +kernel
theorem dd_Ar_passSqueezed_62 : decode (mm_Ar_passSqueezed).2.1 62 = .ok (.ifCond .eq 12, 3) := by decide +kernel
theorem dd_Ar_passSqueezed_65 : decode (mm_Ar_passSqueezed).2.1 65 = .ok (.aload_n 0, 1) := by decide +kernel
theorem dd_Ar_passSqueezed_66 : decode (mm_Ar_passSqueezed).2.1 66 = .ok (.bipush (-4), 2) := by decide +kernel
theorem dd_Ar_passSqueezed_68 : decode (mm_Ar_passSqueezed).2.1 68 = .ok (.iload 4, 2) := by decide +kernel
theorem dd_Ar_passSqueezed_70 : decode (mm_Ar_passSqueezed).2.1 70 = .ok (.invokevirtual 58, 3) := by decide +kernel
theorem dd_Ar_passSqueezed_73 : decode (mm_Ar_passSqueezed).2.1 73 = .ok (.ireturn, 1) := by decide +kernel
theorem dd_Ar_passSqueezed_74 : decode (mm_Ar_passSqueezed).2.1 74 = .ok (.iinc 4 1, 3) := by decide +kernel
theorem dd_Ar_passSqueezed_77 : decode (mm_Ar_passSqueezed).2.1 77 = .ok (.goto (-30), 3) := by decide +kernel
theorem dd_Ar_passSqueezed_80 : decode (mm_Ar_passSqueezed).2.1 80 = .ok (.aload_n 0, 1) := by decide +kernel
theorem dd_Ar_passSqueezed_81 : decode (mm_Ar_passSqueezed).2.1 81 = .ok (.iload_n 3, 1) := by decide +kernel
theorem dd_Ar_passSqueezed_82 : decode (mm_Ar_passSqueezed).2.1 82 = .ok (.putfield 41, 3) := by decide +kernel
theorem dd_Ar_passSqueezed_85 : decode (mm_Ar_passSqueezed).2.1 85 = .ok (.iconst 0, 1) := by decide +kernel
theorem dd_Ar_passSqueezed_86 : decode (mm_Ar_passSqueezed).2.1 86 = .ok (.ireturn, 1) := by decide +kernel
theorem dd_Ar_openIndex_0 : decode (mm_Ar_openIndex).2.1 0 = .ok (.aload_n 0, 1) := by decide +kernel
theorem dd_Ar_openIndex_1 : decode (mm_Ar_openIndex).2.1 1 = .ok (.getfield 14, 3) := by decide +kernel
theorem dd_Ar_openIndex_4 : decode (mm_Ar_openIndex).2.1 4 = .ok (.getfield 47, 3) := by decide +kernel
theorem dd_Ar_openIndex_7 : decode (mm_Ar_openIndex).2.1 7 = .ok (.bipush 6, 2) := by decide +kernel
theorem dd_Ar_openIndex_9 : decode (mm_Ar_openIndex).2.1 9 = .ok (.isub, 1) := by decide +kernel
theorem dd_Ar_openIndex_10 : decode (mm_Ar_openIndex).2.1 10 = .ok (.istore_n 1, 1) := by decide +kernel
theorem dd_Ar_openIndex_11 : decode (mm_Ar_openIndex).2.1 11 = .ok (.aload_n 0, 1) := by decide +kernel
theorem dd_Ar_openIndex_12 : decode (mm_Ar_openIndex).2.1 12 = .ok (.iload_n 1, 1) := by decide +kernel
theorem dd_Ar_openIndex_13 : decode (mm_Ar_openIndex).2.1 13 = .ok (.invokevirtual 97, 3) := by decide +kernel
theorem dd_Ar_openIndex_16 : decode (mm_Ar_openIndex).2.1 16 = .ok (.istore_n 2, 1) := by decide +kernel
theorem dd_Ar_openIndex_17 : decode (mm_Ar_openIndex).2.1 17 = .ok (.iload_n 2, 1) := by decide +kernel
theorem dd_Ar_openIndex_18 : decode (mm_Ar_openIndex).2.1 18 = .ok (.ifCond .ge 5, 3) := by decide +kernel
theorem dd_Ar_openIndex_21 : decode (mm_Ar_openIndex).2.1 21 = .ok (.iload_n 2, 1) := by decide +kernel
theorem dd_Ar_openIndex_22 : decode (mm_Ar_openIndex).2.1 22 = .ok (.ireturn, 1) := by decide +kernel
theorem dd_Ar_openIndex_23 : decode (mm_Ar_openIndex).2.1 23 = .ok (.aload_n 0, 1) := by decide +kernel
theorem dd_Ar_openIndex_24 : decode (mm_Ar_openIndex).2.1 24 = .ok (.getfield 14, 3) := by decide +kernel
theorem dd_Ar_openIndex_27 : decode (mm_Ar_openIndex).2.1 27 = .ok (.iload_n 1, 1) := by decide +kernel
theorem dd_Ar_openIndex_28 : decode (mm_Ar_openIndex).2.1 28 = .ok (.iconst 1, 1) := by decide +kernel
theorem dd_Ar_openIndex_29 : decode (mm_Ar_openIndex).2.1 29 = .ok (.iadd, 1) := by decide +kernel
theorem dd_Ar_openIndex_30 : decode (mm_Ar_openIndex).2.1 30 = .ok (.invokevirtual 94, 3) := by decide +kernel
theorem dd_Ar_openIndex_33 : decode (mm_Ar_openIndex).2.1 33 = .ok (.istore_n 3, 1) := by decide +kernel
