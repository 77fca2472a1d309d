theorem dd_Ar_openIndex_34 : decode (mm_Ar_openIndex).2.1 34 = .ok (.aload_n 0, 1) := by decide +kernel
theorem dd_Ar_openIndex_35 : decode (mm_Ar_openIndex).2.1 35 = .ok (.getfield 14, 3) := by decide +kernel
theorem dd_Ar_openIndex_38 : decode (mm_Ar_openIndex).2.1 38 = .ok (.iload_n 1, 1) := by decide +kernel
theorem dd_Ar_openIndex_39 : decode (mm_Ar_openIndex).2.1 39 = .ok (.iconst 2, 1) := by decide +kernel
theorem dd_Ar_openIndex_40 : decode (mm_Ar_openIndex).2.1 40 = .ok (.iadd, 1) := by decide +kernel
theorem dd_Ar_openIndex_41 : decode (mm_Ar_openIndex).2.1 41 = .ok (.invokevirtual 100, 3) := by decide +kernel
theorem dd_Ar_openIndex_44 : decode (mm_Ar_openIndex).2.1 44 = .ok (.istore 4, 2) := by decide +kernel
theorem dd_Ar_openIndex_46 : decode (mm_Ar_openIndex).2.1 46 = .ok (.aload_n 0, 1) := by decide +kernel
theorem dd_Ar_openIndex_47 : decode (mm_Ar_openIndex).2.1 47 = .ok (.iload 4, 2) := by decide +kernel
theorem dd_Ar_openIndex_49 : decode (mm_Ar_openIndex).2.1 49 = .ok (.iload_n 1, 1) := by decide +kernel
theorem dd_Ar_openIndex_50 : decode (mm_Ar_openIndex).2.1 50 = .ok (.invokevirtual 50, 3) := by decide +kernel
theorem dd_Ar_openIndex_53 : decode (mm_Ar_openIndex).2.1 53 = .ok (.iconst 0, 1) := by decide +kernel
theorem dd_Ar_openIndex_54 : decode (mm_Ar_openIndex).2.1 54 = .ok (.istore 5, 2) := by decide +kernel
theorem dd_Ar_openIndex_56 : decode (mm_Ar_openIndex).2.1 56 = .ok (.iload 5, 2) := by decide +kernel
theorem dd_Ar_openIndex_58 : decode (mm_Ar_openIndex).2.1 58 = .ok (.iload_n 3, 1) := by decide +kernel
theorem dd_Ar_openIndex_59 : decode (mm_Ar_openIndex).2.1 59 = .ok (.if_icmp .ge 46, 3) := by decide +kernel
theorem dd_Ar_openIndex_62 : decode (mm_Ar_openIndex).2.1 62 = .ok (.iload 5, 2) := by decide +kernel
theorem dd_Ar_openIndex_64 : decode (mm_Ar_openIndex).2.1 64 = .ok (.bipush 6, 2) := by decide +kernel
theorem dd_Ar_openIndex_66 : decode (mm_Ar_openIndex).2.1 66 = .ok (.if_icmp .ge 39, 3) := by decide +kernel
theorem dd_Ar_openIndex_69 : decode (mm_Ar_openIndex).2.1 69 = .ok (.aload_n 0, 1) := by decide +kernel
theorem dd_Ar_openIndex_70 : decode (mm_Ar_openIndex).2.1 70 = .ok (.aload_n 0, 1) := by decide +kernel
theorem dd_Ar_openIndex_71 : decode (mm_Ar_openIndex).2.1 71 = .ok (.getfield 22, 3) := by decide +kernel
theorem dd_Ar_openIndex_74 : decode (mm_Ar_openIndex).2.1 74 = .ok (.iload 5, 2) := by decide +kernel
theorem dd_Ar_openIndex_76 : decode (mm_Ar_openIndex).2.1 76 = .ok (.aaload, 1) := by decide +kernel
theorem dd_Ar_openIndex_77 : decode (mm_Ar_openIndex).2.1 77 = .ok (.iload 4, 2) := by decide +kernel
theorem dd_Ar_openIndex_79 : decode (mm_Ar_openIndex).2.1 79 = .ok (.invokevirtual 103, 3) := by decide +kernel
theorem dd_Ar_openIndex_82 : decode (mm_Ar_openIndex).2.1 82 = .ok (.istore_n 2, 1) := by decide +kernel
theorem dd_Ar_openIndex_83 : decode (mm_Ar_openIndex).2.1 83 = .ok (.iload_n 2, 1) := by decide +kernel
theorem dd_Ar_openIndex_84 : decode (mm_Ar_openIndex).2.1 84 = .ok (.ifCond .ge 5, 3) := by decide +kernel
theorem dd_Ar_openIndex_87 : decode (mm_Ar_openIndex).2.1 87 = .ok (.iload_n 2, 1) := by decide +kernel
theorem dd_Ar_openIndex_88 : decode (mm_Ar_openIndex).2.1 88 = .ok (.ireturn, 1) := by decide +kernel
theorem dd_Ar_openIndex_89 : decode (mm_Ar_openIndex).2.1 89 = .ok (.aload_n 0, 1) := by decide +kernel
theorem dd_Ar_openIndex_90 : decode (mm_Ar_openIndex).2.1 90 = .ok (.dup, 1) := by decide +kernel
theorem dd_Ar_openIndex_91 : decode (mm_Ar_openIndex).2.1 91 = .ok (.getfield 27, 3) := by decide +kernel
theorem dd_Ar_openIndex_94 : decode (mm_Ar_openIndex).2.1 94 = .ok (.iconst 1, 1) := by decide +kernel
theorem dd_Ar_openIndex_95 : decode (mm_Ar_openIndex).2.1 95 = .ok (.iadd, 1) := by decide +kernel
theorem dd_Ar_openIndex_96 : decode (mm_Ar_openIndex).2.1 96 = .ok (.putfield 27, 3) := by decide +kernel
theorem dd_Ar_openIndex_99 : decode (mm_Ar_openIndex).2.1 99 = .ok (.iinc 5 1, 3) := by decide +kernel
theorem dd_Ar_openIndex_102 : decode (mm_Ar_openIndex).2.1 102 = .ok (.goto (-46), 3) := by decide +kernel
theorem dd_Ar_openIndex_105 : decode (mm_Ar_openIndex).2.1 105 = .ok (.aload_n 0, 1) := by decide +kernel
theorem dd_Ar_openIndex_106 : decode (mm_Ar_openIndex).2.1 106 = .ok (.getfield 41, 3) := by decide +kernel
theorem dd_Ar_openIndex_109 : decode (mm_Ar_openIndex).2.1 109 = .ok (.iload_n 1, 1) := by decide +kernel
theorem dd_Ar_openIndex_110 : decode (mm_Ar_openIndex).2.1 110 = .ok (.if_icmp .ge 16, 3) := by decide +kernel
theorem dd_Ar_openIndex_113 : decode (mm_Ar_openIndex).2.1 113 = .ok (.aload_n 0, 1) := by decide +kernel
theorem dd_Ar_openIndex_114 : decode (mm_Ar_openIndex).2.1 114 = .ok (.bipush (-4), 2) := by decide +kernel
theorem dd_Ar_openIndex_116 : decode (mm_Ar_openIndex).2.1 116 = .ok (.aload_n 0, 1) := by decide +kernel
theorem dd_Ar_openIndex_117 : decode (mm_Ar_openIndex).2.1 117 = .ok (.getfield 41, 3) := by decide +kernel
theorem dd_Ar_openIndex_120 : decode (mm_Ar_openIndex).2.1 120 = .ok (.invokevirtual 58, 3) := by decide +kernel
theorem dd_Ar_openIndex_123 : decode (mm_Ar_openIndex).2.1 123 = .ok (.goto 7, 3) := by decide +kernel
theorem dd_Ar_openIndex_126 : decode (mm_Ar_openIndex).2.1 126 = .ok (.aload_n 0, 1) := by decide +kernel
theorem dd_Ar_openIndex_127 : decode (mm_Ar_openIndex).2.1 127 = .ok (.getfield 27, 3) := by decide +kernel
theorem dd_Ar_openIndex_130 : decode (mm_Ar_openIndex).2.1 130 = .ok (.ireturn, 1) := by decide +kernel
theorem dd_Ar_testTail_0 : decode (mm_Ar_testTail).2.1 0 = .ok (.iload_n 1, 1) := by decide +kernel
theorem dd_Ar_testTail_1 : decode (mm_Ar_testTail).2.1 1 = .ok (.iconst 1, 1) := by decide +kernel
theorem dd_Ar_testTail_2 : decode (mm_Ar_testTail).2.1 2 = .ok (.if_icmp .ge 17, 3) := by decide +kernel
theorem dd_Ar_testTail_5 : decode (mm_Ar_testTail).2.1 5 = .ok (.aload_n 0, 1) := by decide +kernel
theorem dd_Ar_testTail_6 : decode (mm_Ar_testTail).2.1 6 = .ok (.bipush (-3), 2) := by decide +kernel
theorem dd_Ar_testTail_8 : decode (mm_Ar_testTail).2.1 8 = .ok (.aload_n 0, 1) := by decide +kernel
theorem dd_Ar_testTail_9 : decode (mm_Ar_testTail).2.1 9 = .ok (.getfield 14, 3) := by decide +kernel
theorem dd_Ar_testTail_12 : decode (mm_Ar_testTail).2.1 12 = .ok (.getfield 47, 3) := by decide +kernel
theorem dd_Ar_testTail_15 : decode (mm_Ar_testTail).2.1 15 = .ok (.invokevirtual 58, 3) := by decide +kernel
theorem dd_Ar_testTail_18 : decode (mm_Ar_testTail).2.1 18 = .ok (.ireturn, 1) := by decide +kernel
theorem dd_Ar_testTail_19 : decode (mm_Ar_testTail).2.1 19 = .ok (.aload_n 0, 1) := by decide +kernel
theorem dd_Ar_testTail_20 : decode (mm_Ar_testTail).2.1 20 = .ok (.getfield 14, 3) := by decide +kernel
theorem dd_Ar_testTail_23 : decode (mm_Ar_testTail).2.1 23 = .ok (.iload_n 1, 1) := by decide +kernel
theorem dd_Ar_testTail_24 : decode (mm_Ar_testTail).2.1 24 = .ok (.invokevirtual 94, 3) := by decide +kernel
theorem dd_Ar_testTail_27 : decode (mm_Ar_testTail).2.1 27 = .ok (.bipush 88, 2) := by decide +kernel
theorem dd_Ar_testTail_29 : decode (mm_Ar_testTail).2.1 29 = .ok (.if_icmp .eq 11, 3) := by decide +kernel
theorem dd_Ar_testTail_32 : decode (mm_Ar_testTail).2.1 32 = .ok (.aload_n 0, 1) := by decide +kernel
theorem dd_Ar_testTail_33 : decode (mm_Ar_testTail).2.1 33 = .ok (.bipush (-4), 2) := by decide +kernel
theorem dd_Ar_testTail_35 : decode (mm_Ar_testTail).2.1 35 = .ok (.iload_n 1, 1) := by decide +kernel
theorem dd_Ar_testTail_36 : decode (mm_Ar_testTail).2.1 36 = .ok (.invokevirtual 58, 3) := by decide +kernel
theorem dd_Ar_testTail_39 : decode (mm_Ar_testTail).2.1 39 = .ok (.ireturn, 1) := by decide +kernel
theorem dd_Ar_testTail_40 : decode (mm_Ar_testTail).2.1 40 = .ok (.aload_n 0, 1) := by decide +kernel
theorem dd_Ar_testTail_41 : decode (mm_Ar_testTail).2.1 41 = .ok (.getfield 14, 3) := by decide +kernel
theorem dd_Ar_testTail_44 : decode (mm_Ar_testTail).2.1 44 = .ok (.iload_n 1, 1) := by decide +kernel
theorem dd_Ar_testTail_45 : decode (mm_Ar_testTail).2.1 45 = .ok (.iconst 1, 1) := by decide +kernel
theorem dd_Ar_testTail_46 : decode (mm_Ar_testTail).2.1 46 = .ok (.iadd, 1) := by decide +kernel
theorem dd_Ar_testTail_47 : decode (mm_Ar_testTail).2.1 47 = .ok (.invokevirtual 94, 3) := by decide +kernel
theorem dd_Ar_testTail_50 : decode (mm_Ar_testTail).2.1 50 = .ok (.bipush 6, 2) := by decide +kernel
theorem dd_Ar_testTail_52 : decode (mm_Ar_testTail).2.1 52 = .ok (.if_icmp .le 13, 3) := by decide +kernel
theorem dd_Ar_testTail_55 : decode (mm_Ar_testTail).2.1 55 = .ok (.aload_n 0, 1) := by decide +kernel
theorem dd_Ar_testTail_56 : decode (mm_Ar_testTail).2.1 56 = .ok (.bipush (-4), 2) := by decide +kernel
theorem dd_Ar_testTail_58 : decode (mm_Ar_testTail).2.1 58 = .ok (.iload_n 1, 1) := by decide +kernel
theorem dd_Ar_testTail_59 : decode (mm_Ar_testTail).2.1 59 = .ok (.iconst 1, 1) := by decide +kernel
theorem dd_Ar_testTail_60 : decode (mm_Ar_testTail).2.1 60 = .ok (.iadd, 1) := by decide +kernel
theorem dd_Ar_testTail_61 : decode (mm_Ar_testTail).2.1 61 = .ok (.invokevirtual 58, 3) := by decide +kernel
theorem dd_Ar_testTail_64 : decode (mm_Ar_testTail).2.1 64 = .ok (.ireturn, 1) := by decide +kernel
theorem dd_Ar_testTail_65 : decode (mm_Ar_testTail).2.1 65 = .ok (.aload_n 0, 1) := by decide +kernel
theorem dd_Ar_testTail_66 : decode (mm_Ar_testTail).2.1 66 = .ok (.getfield 14, 3) := by decide +kernel
theorem dd_Ar_testTail_69 : decode (mm_Ar_testTail).2.1 69 = .ok (.iload_n 1, 1) := by decide +kernel
theorem dd_Ar_testTail_70 : decode (mm_Ar_testTail).2.1 70 = .ok (.iconst 2, 1) := by decide +kernel
theorem dd_Ar_testTail_71 : decode (mm_Ar_testTail).2.1 71 = .ok (.iadd, 1) := by decide +kernel
theorem dd_Ar_testTail_72 : decode (mm_Ar_testTail).2.1 72 = .ok (.invokevirtual 100, 3) := by decide +kernel
theorem dd_Ar_testTail_75 : decode (mm_Ar_testTail).2.1 75 = .ok (.istore_n 2, 1) := by decide +kernel
theorem dd_Ar_testTail_76 : decode (mm_Ar_testTail).2.1 76 = .ok (.iload_n 2, 1) := by decide +kernel
theorem dd_Ar_testTail_77 : decode (mm_Ar_testTail).2.1 77 = .ok (.iconst 1, 1) := by decide +kernel
theorem dd_Ar_testTail_78 : decode (mm_Ar_testTail).2.1 78 = .ok (.if_icmp .lt 8, 3) := by decide +kernel
theorem dd_Ar_testTail_81 : decode (mm_Ar_testTail).2.1 81 = .ok (.iload_n 2, 1) := by decide +kernel
theorem dd_Ar_testTail_82 : decode (mm_Ar_testTail).2.1 82 = .ok (.iload_n 1, 1) := by decide +kernel
theorem dd_Ar_testTail_83 : decode (mm_Ar_testTail).2.1 83 = .ok (.if_icmp .le 13, 3) := by decide +kernel
theorem dd_Ar_testTail_86 : decode (mm_Ar_testTail).2.1 86 = .ok (.aload_n 0, 1) := by decide +kernel
theorem dd_Ar_testTail_87 : decode (mm_Ar_testTail).2.1 87 = .ok (.bipush (-4), 2) := by decide +kernel
theorem dd_Ar_testTail_89 : decode (mm_Ar_testTail).2.1 89 = .ok (.iload_n 1, 1) := by decide +kernel
theorem dd_Ar_testTail_90 : decode (mm_Ar_testTail).2.1 90 = .ok (.iconst 2, 1) := by decide +kernel
theorem dd_Ar_testTail_91 : decode (mm_Ar_testTail).2.1 91 = .ok (.iadd, 1) := by decide +kernel
theorem dd_Ar_testTail_92 : decode (mm_Ar_testTail).2.1 92 = .ok (.invokevirtual 58, 3) := by decide +kernel
theorem dd_Ar_testTail_95 : decode (mm_Ar_testTail).2.1 95 = .ok (.ireturn, 1) := by decide +kernel
theorem dd_Ar_testTail_96 : decode (mm_Ar_testTail).2.1 96 = .ok (.aload_n 0, 1) := by decide +kernel
theorem dd_Ar_testTail_97 : decode (mm_Ar_testTail).2.1 97 = .ok (.getfield 14, 3) := by decide +kernel
theorem dd_Ar_testTail_100 : decode (mm_Ar_testTail).2.1 100 = .ok (.iload_n 2, 1) := by decide +kernel
theorem dd_Ar_testTail_101 : decode (mm_Ar_testTail).2.1 101 = .ok (.iload_n 1, 1) := by decide +kernel
theorem dd_Ar_testTail_102 : decode (mm_Ar_testTail).2.1 102 = .ok (.invokevirtual 106, 3) := by decide +kernel
theorem dd_Ar_testTail_105 : decode (mm_Ar_testTail).2.1 105 = .ok (.aload_n 0, 1) := by decide +kernel
theorem dd_Ar_testTail_106 : decode (mm_Ar_testTail).2.1 106 = .ok (.getfield 14, 3) := by decide +kernel
theorem dd_Ar_testTail_109 : decode (mm_Ar_testTail).2.1 109 = .ok (.iload_n 1, 1) := by decide +kernel
theorem dd_Ar_testTail_110 : decode (mm_Ar_testTail).2.1 110 = .ok (.iconst 4, 1) := by decide +kernel
theorem dd_Ar_testTail_111 : decode (mm_Ar_testTail).2.1 111 = .ok (.iadd, 1) := by decide +kernel
theorem dd_Ar_testTail_112 : decode (mm_Ar_testTail).2.1 112 = .ok (.invokevirtual 100, 3) := by decide +kernel
theorem dd_Ar_testTail_115 : decode (mm_Ar_testTail).2.1 115 = .ok (.if_icmp .eq 13, 3) := by decide +kernel
theorem dd_Ar_testTail_118 : decode (mm_Ar_testTail).2.1 118 = .ok (.aload_n 0, 1) := by decide +kernel
theorem dd_Ar_testTail_119 : decode (mm_Ar_testTail).2.1 119 = .ok (.bipush (-4), 2) := by decide +kernel
theorem dd_Ar_testTail_121 : decode (mm_Ar_testTail).2.1 121 = .ok (.iload_n 1, 1) := by decide +kernel
theorem dd_Ar_testTail_122 : decode (mm_Ar_testTail).2.1 122 = .ok (.iconst 4, 1) := by decide +kernel
theorem dd_Ar_testTail_123 : decode (mm_Ar_testTail).2.1 123 = .ok (.iadd, 1) := by decide +kernel
theorem dd_Ar_testTail_124 : decode (mm_Ar_testTail).2.1 124 = .ok (.invokevirtual 58, 3) := by decide +kernel
theorem dd_Ar_testTail_127 : decode (mm_Ar_testTail).2.1 127 = .ok (.ireturn, 1) := by decide +kernel
theorem dd_Ar_testTail_128 : decode (mm_Ar_testTail).2.1 128 = .ok (.iconst 0, 1) := by decide +kernel
theorem dd_Ar_testTail_129 : decode (mm_Ar_testTail).2.1 129 = .ok (.ireturn, 1) := by decide +kernel
theorem dd_Row_numberAt_0 : decode (mm_Row_numberAt).2.1 0 = .ok (.aload_n 0, 1) := by decide +kernel
theorem dd_Row_numberAt_1 : decode (mm_Row_numberAt).2.1 1 = .ok (.iload_n 1, 1) := by decide +kernel
theorem dd_Row_numberAt_2 : decode (mm_Row_numberAt).2.1 2 = .ok (.invokevirtual 19, 3) := by decide +kernel
theorem dd_Row_numberAt_5 : decode (mm_Row_numberAt).2.1 5 = .ok (.sipush 256, 3) := by decide +kernel
theorem dd_Row_numberAt_8 : decode (mm_Row_numberAt).2.1 8 = .ok (.imul, 1) := by decide +kernel
theorem dd_Row_numberAt_9 : decode (mm_Row_numberAt).2.1 9 = .ok (.aload_n 0, 1) := by decide +kernel
theorem dd_Row_numberAt_10 : decode (mm_Row_numberAt).2.1 10 = .ok (.iload_n 1, 1) := by decide +kernel
theorem dd_Row_numberAt_11 : decode (mm_Row_numberAt).2.1 11 = .ok (.iconst 1, 1) := by decide +kernel
theorem dd_Row_numberAt_12 : decode (mm_Row_numberAt).2.1 12 = .ok (.iadd, 1) := by decide +kernel
theorem dd_Row_numberAt_13 : decode (mm_Row_numberAt).2.1 13 = .ok (.invokevirtual 19, 3) := by decide +kernel
theorem dd_Row_numberAt_16 : decode (mm_Row_numberAt).2.1 16 = .ok (.iadd, 1) := by decide +kernel
theorem dd_Row_numberAt_17 : decode (mm_Row_numberAt).2.1 17 = .ok (.ireturn, 1) := by decide +kernel
theorem dd_Ar_readEntry_0 : decode (mm_Ar_readEntry).2.1 0 = .ok (.aload_n 0, 1) := by decide +kernel
theorem dd_Ar_readEntry_1 : decode (mm_Ar_readEntry).2.1 1 = .ok (.aload_n 1, 1) := by decide +kernel
theorem dd_Ar_readEntry_2 : decode (mm_Ar_readEntry).2.1 2 = .ok (.invokevirtual 70, 3) := by decide +kernel
theorem dd_Ar_readEntry_5 : decode (mm_Ar_readEntry).2.1 5 = .ok (.istore_n 3, 1) := by decide +kernel
theorem dd_Ar_readEntry_6 : decode (mm_Ar_readEntry).2.1 6 = .ok (.iload_n 3, 1) := by decide +kernel
theorem dd_Ar_readEntry_7 : decode (mm_Ar_readEntry).2.1 7 = .ok (.ifCond .ge 5, 3) := by decide +kernel
theorem dd_Ar_readEntry_10 : decode (mm_Ar_readEntry).2.1 10 = .ok (.iload_n 3, 1) := by decide +kernel
theorem dd_Ar_readEntry_11 : decode (mm_Ar_readEntry).2.1 11 = .ok (.ireturn, 1) := by decide +kernel
theorem dd_Ar_readEntry_12 : decode (mm_Ar_readEntry).2.1 12 = .ok (.aload_n 0, 1) := by decide +kernel
theorem dd_Ar_readEntry_13 : decode (mm_Ar_readEntry).2.1 13 = .ok (.getfield 41, 3) := by decide +kernel
theorem dd_Ar_readEntry_16 : decode (mm_Ar_readEntry).2.1 16 = .ok (.istore 4, 2) := by decide +kernel
theorem dd_Ar_readEntry_18 : decode (mm_Ar_readEntry).2.1 18 = .ok (.aload_n 1, 1) := by decide +kernel
theorem dd_Ar_readEntry_19 : decode (mm_Ar_readEntry).2.1 19 = .ok (.aload_n 0, 1) := by decide +kernel
theorem dd_Ar_readEntry_20 : decode (mm_Ar_readEntry).2.1 20 = .ok (.invokevirtual 109, 3) := by decide +kernel
theorem dd_Ar_readEntry_23 : decode (mm_Ar_readEntry).2.1 23 = .ok (.putfield 85, 3) := by decide +kernel
theorem dd_Ar_readEntry_26 : decode (mm_Ar_readEntry).2.1 26 = .ok (.aload_n 1, 1) := by decide +kernel
theorem dd_Ar_readEntry_27 : decode (mm_Ar_readEntry).2.1 27 = .ok (.getfield 85, 3) := by decide +kernel
theorem dd_Ar_readEntry_30 : decode (mm_Ar_readEntry).2.1 30 = .ok (.ifCond .ge 8, 3) := by decide +kernel
theorem dd_Ar_readEntry_33 : decode (mm_Ar_readEntry).2.1 33 = .ok (.aload_n 1, 1) := by decide +kernel
theorem dd_Ar_readEntry_34 : decode (mm_Ar_readEntry).2.1 34 = .ok (.getfield 85, 3) := by decide +kernel
theorem dd_Ar_readEntry_37 : decode (mm_Ar_readEntry).2.1 37 = .ok (.ireturn, 1) := by decide +kernel
theorem dd_Ar_readEntry_38 : decode (mm_Ar_readEntry).2.1 38 = .ok (.aload_n 1, 1) := by decide +kernel
theorem dd_Ar_readEntry_39 : decode (mm_Ar_readEntry).2.1 39 = .ok (.aload_n 0, 1) := by decide +kernel
theorem dd_Ar_readEntry_40 : decode (mm_Ar_readEntry).2.1 40 = .ok (.invokevirtual 54, 3) := by decide +kernel
theorem dd_Ar_readEntry_43 : decode (mm_Ar_readEntry).2.1 43 = .ok (.putfield 73, 3) := by decide +kernel
theorem dd_Ar_readEntry_46 : decode (mm_Ar_readEntry).2.1 46 = .ok (.aload_n 1, 1) := by decide +kernel
theorem dd_Ar_readEntry_47 : decode (mm_Ar_readEntry).2.1 47 = .ok (.getfield 73, 3) := by decide +kernel
theorem dd_Ar_readEntry_50 : decode (mm_Ar_readEntry).2.1 50 = .ok (.ifCond .ge 8, 3) := by decide +kernel
theorem dd_Ar_readEntry_53 : decode (mm_Ar_readEntry).2.1 53 = .ok (.aload_n 1, 1) := by decide +kernel
theorem dd_Ar_readEntry_54 : decode (mm_Ar_readEntry).2.1 54 = .ok (.getfield 73, 3) := by decide +kernel
theorem dd_Ar_readEntry_57 : decode (mm_Ar_readEntry).2.1 57 = .ok (.ireturn, 1) := by decide +kernel
theorem dd_Ar_readEntry_58 : decode (mm_Ar_readEntry).2.1 58 = .ok (.aload_n 1, 1) := by decide +kernel
theorem dd_Ar_readEntry_59 : decode (mm_Ar_readEntry).2.1 59 = .ok (.getfield 85, 3) := by decide +kernel
theorem dd_Ar_readEntry_62 : decode (mm_Ar_readEntry).2.1 62 = .ok (.iconst 1, 1) := by decide +kernel
theorem dd_Ar_readEntry_63 : decode (mm_Ar_readEntry).2.1 63 = .ok (.if_icmp .lt 16, 3) := by decide +kernel
theorem dd_Ar_readEntry_66 : decode (mm_Ar_readEntry).2.1 66 = .ok (.aload_n 1, 1) := by decide +kernel
theorem dd_Ar_readEntry_67 : decode (mm_Ar_readEntry).2.1 67 = .ok (.getfield 85, 3) := by decide +kernel
theorem dd_Ar_readEntry_70 : decode (mm_Ar_readEntry).2.1 70 = .ok (.aload_n 1, 1) := by decide +kernel
theorem dd_Ar_readEntry_71 : decode (mm_Ar_readEntry).2.1 71 = .ok (.getfield 73, 3) := by decide +kernel
theorem dd_Ar_readEntry_74 : decode (mm_Ar_readEntry).2.1 74 = .ok (.iadd, 1) := by decide +kernel
theorem dd_Ar_readEntry_75 : decode (mm_Ar_readEntry).2.1 75 = .ok (.iload_n 2, 1) := by decide +kernel
theorem dd_Ar_readEntry_76 : decode (mm_Ar_readEntry).2.1 76 = .ok (.if_icmp .le 12, 3) := by decide +kernel
theorem dd_Ar_readEntry_79 : decode (mm_Ar_readEntry).2.1 79 = .ok (.aload_n 0, 1) := by decide +kernel
theorem dd_Ar_readEntry_80 : decode (mm_Ar_readEntry).2.1 80 = .ok (.bipush (-4), 2) := by decide +kernel
theorem dd_Ar_readEntry_82 : decode (mm_Ar_readEntry).2.1 82 = .ok (.iload 4, 2) := by decide +kernel
theorem dd_Ar_readEntry_84 : decode (mm_Ar_readEntry).2.1 84 = .ok (.invokevirtual 58, 3) := by decide +kernel
theorem dd_Ar_readEntry_87 : decode (mm_Ar_readEntry).2.1 87 = .ok (.ireturn, 1) := by decide +kernel
theorem dd_Ar_readEntry_88 : decode (mm_Ar_readEntry).2.1 88 = .ok (.aload_n 0, 1) := by decide +kernel
theorem dd_Ar_readEntry_89 : decode (mm_Ar_readEntry).2.1 89 = .ok (.aload_n 1, 1) := by decide +kernel
theorem dd_Ar_readEntry_90 : decode (mm_Ar_readEntry).2.1 90 = .ok (.invokevirtual 76, 3) := by decide +kernel
theorem dd_Ar_readEntry_93 : decode (mm_Ar_readEntry).2.1 93 = .ok (.ireturn, 1) := by decide +kernel
theorem dd_AB_place_0 : decode (mm_AB_place).2.1 0 = .ok (.aload_n 0, 1) := by decide +kernel
theorem dd_AB_place_1 : decode (mm_AB_place).2.1 1 = .ok (.getfield 31, 3) := by decide +kernel
theorem dd_AB_place_4 : decode (mm_AB_place).2.1 4 = .ok (.getfield 112, 3) := by decide +kernel
theorem dd_AB_place_7 : decode (mm_AB_place).2.1 7 = .ok (.ireturn, 1) := by decide +kernel
theorem dd_AB_take_0 : decode (mm_AB_take).2.1 0 = .ok (.aload_n 0, 1) := by decide +kernel
theorem dd_AB_take_1 : decode (mm_AB_take).2.1 1 = .ok (.getfield 31, 3) := by decide +kernel
theorem dd_AB_take_4 : decode (mm_AB_take).2.1 4 = .ok (.iload_n 1, 1) := by decide +kernel
theorem dd_AB_take_5 : decode (mm_AB_take).2.1 5 = .ok (.invokevirtual 115, 3) := by decide +kernel
theorem dd_AB_take_8 : decode (mm_AB_take).2.1 8 = .ok (.ifCond .ne 5, 3) := by decide +kernel
theorem dd_AB_take_11 : decode (mm_AB_take).2.1 11 = .ok (.iconst (-1), 1) := by decide +kernel
theorem dd_AB_take_12 : decode (mm_AB_take).2.1 12 = .ok (.ireturn, 1) := by decide +kernel
theorem dd_AB_take_13 : decode (mm_AB_take).2.1 13 = .ok (.aload_n 0, 1) := by decide +kernel
theorem dd_AB_take_14 : decode (mm_AB_take).2.1 14 = .ok (.getfield 31, 3) := by decide +kernel
theorem dd_AB_take_17 : decode (mm_AB_take).2.1 17 = .ok (.getfield 118, 3) := by decide +kernel
theorem dd_AB_take_20 : decode (mm_AB_take).2.1 20 = .ok (.iload_n 1, 1) := by decide +kernel
theorem dd_AB_take_21 : decode (mm_AB_take).2.1 21 = .ok (.aaload, 1) := by decide +kernel
theorem dd_AB_take_22 : decode (mm_AB_take).2.1 22 = .ok (.astore_n 2, 1) := by decide +kernel
theorem dd_AB_take_23 : decode (mm_AB_take).2.1 23 = .ok (.aload_n 2, 1) := by decide +kernel
theorem dd_AB_take_24 : decode (mm_AB_take).2.1 24 = .ok (.invokevirtual 121, 3) := by decide +kernel
theorem dd_AB_take_27 : decode (mm_AB_take).2.1 27 = .ok (.ifCond .ne 6, 3) := by decide +kernel
theorem dd_AB_take_30 : decode (mm_AB_take).2.1 30 = .ok (.bipush (-6), 2) := by decide +kernel
theorem dd_AB_take_32 : decode (mm_AB_take).2.1 32 = .ok (.ireturn, 1) := by decide +kernel
theorem dd_AB_take_33 : decode (mm_AB_take).2.1 33 = .ok (.aload_n 0, 1) := by decide +kernel
theorem dd_AB_take_34 : decode (mm_AB_take).2.1 34 = .ok (.getfield 31, 3) := by decide +kernel
theorem dd_AB_take_37 : decode (mm_AB_take).2.1 37 = .ok (.iload_n 1, 1) := by decide +kernel
theorem dd_AB_take_38 : decode (mm_AB_take).2.1 38 = .ok (.invokevirtual 127, 3) := by decide +kernel
theorem dd_AB_take_41 : decode (mm_AB_take).2.1 41 = .ok (.ifCond .eq 6, 3) := by decide +kernel
theorem dd_AB_take_44 : decode (mm_AB_take).2.1 44 = .ok (.bipush (-8), 2) := by decide +kernel
theorem dd_AB_take_46 : decode (mm_AB_take).2.1 46 = .ok (.ireturn, 1) := by decide +kernel
theorem dd_AB_take_47 : decode (mm_AB_take).2.1 47 = .ok (.aload_n 0, 1) := by decide +kernel
theorem dd_AB_take_48 : decode (mm_AB_take).2.1 48 = .ok (.getfield 31, 3) := by decide +kernel
theorem dd_AB_take_51 : decode (mm_AB_take).2.1 51 = .ok (.getfield 84, 3) := by decide +kernel
theorem dd_AB_take_54 : decode (mm_AB_take).2.1 54 = .ok (.aload_n 2, 1) := by decide +kernel
theorem dd_AB_take_55 : decode (mm_AB_take).2.1 55 = .ok (.aload_n 0, 1) := by decide +kernel
theorem dd_AB_take_56 : decode (mm_AB_take).2.1 56 = .ok (.getfield 35, 3) := by decide +kernel
theorem dd_AB_take_59 : decode (mm_AB_take).2.1 59 = .ok (.invokestatic 130, 3) := by decide +kernel
theorem dd_AB_take_62 : decode (mm_AB_take).2.1 62 = .ok (.ifCond .ne 6, 3) := by decide +kernel
theorem dd_AB_take_65 : decode (mm_AB_take).2.1 65 = .ok (.bipush (-5), 2) := by decide +kernel
theorem dd_AB_take_67 : decode (mm_AB_take).2.1 67 = .ok (.ireturn, 1) := by decide +kernel
theorem dd_AB_take_68 : decode (mm_AB_take).2.1 68 = .ok (.aload_n 0, 1) := by decide +kernel
theorem dd_AB_take_69 : decode (mm_AB_take).2.1 69 = .ok (.getfield 35, 3) := by decide +kernel
theorem dd_AB_take_72 : decode (mm_AB_take).2.1 72 = .ok (.iconst 0, 1) := by decide +kernel
theorem dd_AB_take_73 : decode (mm_AB_take).2.1 73 = .ok (.aload_n 0, 1) := by decide +kernel
theorem dd_AB_take_74 : decode (mm_AB_take).2.1 74 = .ok (.getfield 35, 3) := by decide +kernel
theorem dd_AB_take_77 : decode (mm_AB_take).2.1 77 = .ok (.getfield 48, 3) := by decide +kernel
theorem dd_AB_take_80 : decode (mm_AB_take).2.1 80 = .ok (.invokevirtual 136, 3) := by decide +kernel
theorem dd_AB_take_83 : decode (mm_AB_take).2.1 83 = .ok (.aload_n 2, 1) := by decide +kernel
theorem dd_AB_take_84 : decode (mm_AB_take).2.1 84 = .ok (.getfield 139, 3) := by decide +kernel
theorem dd_AB_take_87 : decode (mm_AB_take).2.1 87 = .ok (.if_icmp .eq 6, 3) := by decide +kernel
theorem dd_AB_take_90 : decode (mm_AB_take).2.1 90 = .ok (.bipush (-7), 2) := by decide +kernel
theorem dd_AB_take_92 : decode (mm_AB_take).2.1 92 = .ok (.ireturn, 1) := by decide +kernel
theorem dd_AB_take_93 : decode (mm_AB_take).2.1 93 = .ok (.aload_n 0, 1) := by decide +kernel
theorem dd_AB_take_94 : decode (mm_AB_take).2.1 94 = .ok (.getfield 38, 3) := by decide +kernel
theorem dd_AB_take_97 : decode (mm_AB_take).2.1 97 = .ok (.aload_n 0, 1) := by decide +kernel
theorem dd_AB_take_98 : decode (mm_AB_take).2.1 98 = .ok (.getfield 35, 3) := by decide +kernel
theorem dd_AB_take_101 : decode (mm_AB_take).2.1 101 = .ok (.invokevirtual 87, 3) := by decide +kernel
theorem dd_AB_take_104 : decode (mm_AB_take).2.1 104 = .ok (.aload_n 0, 1) := by decide +kernel
theorem dd_AB_take_105 : decode (mm_AB_take).2.1 105 = .ok (.getfield 38, 3) := by decide +kernel
theorem dd_AB_take_108 : decode (mm_AB_take).2.1 108 = .ok (.getfield 48, 3) := by decide +kernel
theorem dd_AB_take_111 : decode (mm_AB_take).2.1 111 = .ok (.ireturn, 1) := by decide +kernel
theorem dd_Ar_has_0 : decode (mm_Ar_has).2.1 0 = .ok (.iload_n 1, 1) := by decide +kernel
theorem dd_Ar_has_1 : decode (mm_Ar_has).2.1 1 = .ok (.ifCond .lt 15, 3) := by decide +kernel
theorem dd_Ar_has_4 : decode (mm_Ar_has).2.1 4 = .ok (.iload_n 1, 1) := by decide +kernel
theorem dd_Ar_has_5 : decode (mm_Ar_has).2.1 5 = .ok (.aload_n 0, 1) := by decide +kernel
theorem dd_Ar_has_6 : decode (mm_Ar_has).2.1 6 = .ok (.getfield 27, 3) := by decide +kernel
theorem dd_Ar_has_9 : decode (mm_Ar_has).2.1 9 = .ok (.if_icmp .ge 7, 3) := by decide +kernel
theorem dd_Ar_has_12 : decode (mm_Ar_has).2.1 12 = .ok (.iconst 1, 1) := by decide +kernel
theorem dd_Ar_has_13 : decode (mm_Ar_has).2.1 13 = .ok (.goto 4, 3) := by decide +kernel
theorem dd_Ar_has_16 : decode (mm_Ar_has).2.1 16 = .ok (.iconst 0, 1) := by decide +kernel
theorem dd_Ar_has_17 : decode (mm_Ar_has).2.1 17 = .ok (.ireturn, 1) := by decide +kernel
theorem dd_OF_hasSafeName_0 : decode (mm_OF_hasSafeName).2.1 0 = .ok (.iconst 0, 1) := by decide +kernel
theorem dd_OF_hasSafeName_1 : decode (mm_OF_hasSafeName).2.1 1 = .ok (.istore_n 1, 1) := by decide +kernel
theorem dd_OF_hasSafeName_2 : decode (mm_OF_hasSafeName).2.1 2 = .ok (.iconst 0, 1) := by decide +kernel
theorem dd_OF_hasSafeName_3 : decode (mm_OF_hasSafeName).2.1 3 = .ok (.istore_n 2, 1) := by decide +kernel
theorem dd_OF_hasSafeName_4 : decode (mm_OF_hasSafeName).2.1 4 = .ok (.iload_n 2, 1) := by decide +kernel
theorem dd_OF_hasSafeName_5 : decode (mm_OF_hasSafeName).2.1 5 = .ok (.aload_n 0, 1) := by decide +kernel
theorem dd_OF_hasSafeName_6 : decode (mm_OF_hasSafeName).2.1 6 = .ok (.getfield 14, 3) := by decide +kernel
theorem dd_OF_hasSafeName_9 : decode (mm_OF_hasSafeName).2.1 9 = .ok (.getfield 24, 3) := by decide +kernel
theorem dd_OF_hasSafeName_12 : decode (mm_OF_hasSafeName).2.1 12 = .ok (.if_icmp .gt 48, 3) := by decide +kernel
theorem dd_OF_hasSafeName_15 : decode (mm_OF_hasSafeName).2.1 15 = .ok (.iload_n 2, 1) := by decide +kernel
theorem dd_OF_hasSafeName_16 : decode (mm_OF_hasSafeName).2.1 16 = .ok (.aload_n 0, 1) := by decide +kernel
theorem dd_OF_hasSafeName_17 : decode (mm_OF_hasSafeName).2.1 17 = .ok (.getfield 14, 3) := by decide +kernel
theorem dd_OF_hasSafeName_20 : decode (mm_OF_hasSafeName).2.1 20 = .ok (.getfield 24, 3) := by decide +kernel
theorem dd_OF_hasSafeName_23 : decode (mm_OF_hasSafeName).2.1 23 = .ok (.if_icmp .eq 16, 3) := by decide +kernel
theorem dd_OF_hasSafeName_26 : decode (mm_OF_hasSafeName).2.1 26 = .ok (.aload_n 0, 1) := by decide +kernel
theorem dd_OF_hasSafeName_27 : decode (mm_OF_hasSafeName).2.1 27 = .ok (.getfield 14, 3) := by decide +kernel
theorem dd_OF_hasSafeName_30 : decode (mm_OF_hasSafeName).2.1 30 = .ok (.iload_n 2, 1) := by decide +kernel
theorem dd_OF_hasSafeName_31 : decode (mm_OF_hasSafeName).2.1 31 = .ok (.invokevirtual 37, 3) := by decide +kernel
theorem dd_OF_hasSafeName_34 : decode (mm_OF_hasSafeName).2.1 34 = .ok (.bipush 47, 2) := by decide +kernel
theorem dd_OF_hasSafeName_36 : decode (mm_OF_hasSafeName).2.1 36 = .ok (.if_icmp .ne 18, 3) := by decide +kernel
theorem dd_OF_hasSafeName_39 : decode (mm_OF_hasSafeName).2.1 39 = .ok (.aload_n 0, 1) := by decide +kernel
theorem dd_OF_hasSafeName_40 : decode (mm_OF_hasSafeName).2.1 40 = .ok (.iload_n 1, 1) := by decide +kernel
theorem dd_OF_hasSafeName_41 : decode (mm_OF_hasSafeName).2.1 41 = .ok (.iload_n 2, 1) := by decide +kernel
theorem dd_OF_hasSafeName_42 : decode (mm_OF_hasSafeName).2.1 42 = .ok (.invokevirtual 41, 3) := by decide +kernel
theorem dd_OF_hasSafeName_45 : decode (mm_OF_hasSafeName).2.1 45 = .ok (.ifCond .ne 5, 3) := by decide +kernel
theorem dd_OF_hasSafeName_48 : decode (mm_OF_hasSafeName).2.1 48 = .ok (.iconst 0, 1) := by decide +kernel
theorem dd_OF_hasSafeName_49 : decode (mm_OF_hasSafeName).2.1 49 = .ok (.ireturn, 1) := by decide +kernel
theorem dd_OF_hasSafeName_50 : decode (mm_OF_hasSafeName).2.1 50 = .ok (.iload_n 2, 1) := by decide +kernel
theorem dd_OF_hasSafeName_51 : decode (mm_OF_hasSafeName).2.1 51 = .ok (.iconst 1, 1) := by decide +kernel
theorem dd_OF_hasSafeName_52 : decode (mm_OF_hasSafeName).2.1 52 = .ok (.iadd, 1) := by decide +kernel
theorem dd_OF_hasSafeName_53 : decode (mm_OF_hasSafeName).2.1 53 = .ok (.istore_n 1, 1) := by decide +kernel
theorem dd_OF_hasSafeName_54 : decode (mm_OF_hasSafeName).2.1 54 = .ok (.iinc 2 1, 3) := by decide +kernel
theorem dd_OF_hasSafeName_57 : decode (mm_OF_hasSafeName).2.1 57 = .ok (.goto (-53), 3) := by decide +kernel
theorem dd_OF_hasSafeName_60 : decode (mm_OF_hasSafeName).2.1 60 = .ok (.iconst 1, 1) := by decide +kernel
theorem dd_OF_hasSafeName_61 : decode (mm_OF_hasSafeName).2.1 61 = .ok (.ireturn, 1) := by decide +kernel
theorem dd_OF_isSafePart_0 : decode (mm_OF_isSafePart).2.1 0 = .ok (.iload_n 2, 1) := by decide +kernel
theorem dd_OF_isSafePart_1 : decode (mm_OF_isSafePart).2.1 1 = .ok (.iload_n 1, 1) := by decide +kernel
theorem dd_OF_isSafePart_2 : decode (mm_OF_isSafePart).2.1 2 = .ok (.isub, 1) := by decide +kernel
theorem dd_OF_isSafePart_3 : decode (mm_OF_isSafePart).2.1 3 = .ok (.iconst 2, 1) := by decide +kernel
theorem dd_OF_isSafePart_4 : decode (mm_OF_isSafePart).2.1 4 = .ok (.if_icmp .ne 35, 3) := by decide +kernel
theorem dd_OF_isSafePart_7 : decode (mm_OF_isSafePart).2.1 7 = .ok (.aload_n 0, 1) := by decide +kernel
theorem dd_OF_isSafePart_8 : decode (mm_OF_isSafePart).2.1 8 = .ok (.getfield 14, 3) := by decide +kernel
theorem dd_OF_isSafePart_11 : decode (mm_OF_isSafePart).2.1 11 = .ok (.iload_n 1, 1) := by decide +kernel
theorem dd_OF_isSafePart_12 : decode (mm_OF_isSafePart).2.1 12 = .ok (.invokevirtual 37, 3) := by decide +kernel
theorem dd_OF_isSafePart_15 : decode (mm_OF_isSafePart).2.1 15 = .ok (.bipush 46, 2) := by decide +kernel
theorem dd_OF_isSafePart_17 : decode (mm_OF_isSafePart).2.1 17 = .ok (.if_icmp .ne 22, 3) := by decide +kernel
theorem dd_OF_isSafePart_20 : decode (mm_OF_isSafePart).2.1 20 = .ok (.aload_n 0, 1) := by decide +kernel
theorem dd_OF_isSafePart_21 : decode (mm_OF_isSafePart).2.1 21 = .ok (.getfield 14, 3) := by decide +kernel
theorem dd_OF_isSafePart_24 : decode (mm_OF_isSafePart).2.1 24 = .ok (.iload_n 1, 1) := by decide +kernel
theorem dd_OF_isSafePart_25 : decode (mm_OF_isSafePart).2.1 25 = .ok (.iconst 1, 1) := by decide +kernel
theorem dd_OF_isSafePart_26 : decode (mm_OF_isSafePart).2.1 26 = .ok (.iadd, 1) := by decide +kernel
theorem dd_OF_isSafePart_27 : decode (mm_OF_isSafePart).2.1 27 = .ok (.invokevirtual 37, 3) := by decide +kernel
theorem dd_OF_isSafePart_30 : decode (mm_OF_isSafePart).2.1 30 = .ok (.bipush 46, 2) := by decide +kernel
theorem dd_OF_isSafePart_32 : decode (mm_OF_isSafePart).2.1 32 = .ok (.if_icmp .ne 7, 3) := by decide +kernel
theorem dd_OF_isSafePart_35 : decode (mm_OF_isSafePart).2.1 35 = .ok (.iconst 1, 1) := by decide +kernel
theorem dd_OF_isSafePart_36 : decode (mm_OF_isSafePart).2.1 36 = .ok (.goto 4, 3) := by decide +kernel
theorem dd_OF_isSafePart_39 : decode (mm_OF_isSafePart).2.1 39 = .ok (.iconst 0, 1) := by decide +kernel
theorem dd_OF_isSafePart_40 : decode (mm_OF_isSafePart).2.1 40 = .ok (.istore_n 3, 1) := by decide +kernel
theorem dd_OF_isSafePart_41 : decode (mm_OF_isSafePart).2.1 41 = .ok (.iload_n 2, 1) := by decide +kernel
theorem dd_OF_isSafePart_42 : decode (mm_OF_isSafePart).2.1 42 = .ok (.iload_n 1, 1) := by decide +kernel
theorem dd_OF_isSafePart_43 : decode (mm_OF_isSafePart).2.1 43 = .ok (.if_icmp .le 11, 3) := by decide +kernel
theorem dd_OF_isSafePart_46 : decode (mm_OF_isSafePart).2.1 46 = .ok (.iload_n 3, 1) := by decide +kernel
theorem dd_OF_isSafePart_47 : decode (mm_OF_isSafePart).2.1 47 = .ok (.ifCond .ne 7, 3) := by decide +kernel
theorem dd_OF_isSafePart_50 : decode (mm_OF_isSafePart).2.1 50 = .ok (.iconst 1, 1) := by decide +kernel
theorem dd_OF_isSafePart_51 : decode (mm_OF_isSafePart).2.1 51 = .ok (.goto 4, 3) := by decide +kernel
theorem dd_OF_isSafePart_54 : decode (mm_OF_isSafePart).2.1 54 = .ok (.iconst 0, 1) := by decide +kernel
theorem dd_OF_isSafePart_55 : decode (mm_OF_isSafePart).2.1 55 = .ok (.ireturn, 1) := by decide +kernel
theorem dd_Ar_hasNameBefore_0 : decode (mm_Ar_hasNameBefore).2.1 0 = .ok (.iconst 0, 1) := by decide +kernel
theorem dd_Ar_hasNameBefore_1 : decode (mm_Ar_hasNameBefore).2.1 1 = .ok (.istore_n 2, 1) := by decide +kernel
theorem dd_Ar_hasNameBefore_2 : decode (mm_Ar_hasNameBefore).2.1 2 = .ok (.iload_n 2, 1) := by decide +kernel
theorem dd_Ar_hasNameBefore_3 : decode (mm_Ar_hasNameBefore).2.1 3 = .ok (.iload_n 1, 1) := by decide +kernel
theorem dd_Ar_hasNameBefore_4 : decode (mm_Ar_hasNameBefore).2.1 4 = .ok (.if_icmp .ge 35, 3) := by decide +kernel
theorem dd_Ar_hasNameBefore_7 : decode (mm_Ar_hasNameBefore).2.1 7 = .ok (.aload_n 0, 1) := by decide +kernel
theorem dd_Ar_hasNameBefore_8 : decode (mm_Ar_hasNameBefore).2.1 8 = .ok (.getfield 22, 3) := by decide +kernel
theorem dd_Ar_hasNameBefore_11 : decode (mm_Ar_hasNameBefore).2.1 11 = .ok (.iload_n 2, 1) := by decide +kernel
theorem dd_Ar_hasNameBefore_12 : decode (mm_Ar_hasNameBefore).2.1 12 = .ok (.aaload, 1) := by decide +kernel
theorem dd_Ar_hasNameBefore_13 : decode (mm_Ar_hasNameBefore).2.1 13 = .ok (.getfield 34, 3) := by decide +kernel
theorem dd_Ar_hasNameBefore_16 : decode (mm_Ar_hasNameBefore).2.1 16 = .ok (.aload_n 0, 1) := by decide +kernel
theorem dd_Ar_hasNameBefore_17 : decode (mm_Ar_hasNameBefore).2.1 17 = .ok (.getfield 22, 3) := by decide +kernel
theorem dd_Ar_hasNameBefore_20 : decode (mm_Ar_hasNameBefore).2.1 20 = .ok (.iload_n 1, 1) := by decide +kernel
theorem dd_Ar_hasNameBefore_21 : decode (mm_Ar_hasNameBefore).2.1 21 = .ok (.aaload, 1) := by decide +kernel
theorem dd_Ar_hasNameBefore_22 : decode (mm_Ar_hasNameBefore).2.1 22 = .ok (.getfield 34, 3) := by decide +kernel
theorem dd_Ar_hasNameBefore_25 : decode (mm_Ar_hasNameBefore).2.1 25 = .ok (.invokevirtual 37, 3) := by decide +kernel
theorem dd_Ar_hasNameBefore_28 : decode (mm_Ar_hasNameBefore).2.1 28 = .ok (.ifCond .eq 5, 3) := by decide +kernel
theorem dd_Ar_hasNameBefore_31 : decode (mm_Ar_hasNameBefore).2.1 31 = .ok (.iconst 1, 1) := by decide +kernel
theorem dd_Ar_hasNameBefore_32 : decode (mm_Ar_hasNameBefore).2.1 32 = .ok (.ireturn, 1) := by decide +kernel
theorem dd_Ar_hasNameBefore_33 : decode (mm_Ar_hasNameBefore).2.1 33 = .ok (.iinc 2 1, 3) := by decide +kernel
theorem dd_Ar_hasNameBefore_36 : decode (mm_Ar_hasNameBefore).2.1 36 = .ok (.goto (-34), 3) := by decide +kernel
theorem dd_Ar_hasNameBefore_39 : decode (mm_Ar_hasNameBefore).2.1 39 = .ok (.iconst 0, 1) := by decide +kernel
theorem dd_Ar_hasNameBefore_40 : decode (mm_Ar_hasNameBefore).2.1 40 = .ok (.ireturn, 1) := by decide +kernel
theorem dd_Row_isSameAs_0 : decode (mm_Row_isSameAs).2.1 0 = .ok (.aload_n 0, 1) := by decide +kernel
theorem dd_Row_isSameAs_1 : decode (mm_Row_isSameAs).2.1 1 = .ok (.getfield 15, 3) := by decide +kernel
theorem dd_Row_isSameAs_4 : decode (mm_Row_isSameAs).2.1 4 = .ok (.aload_n 1, 1) := by decide +kernel
theorem dd_Row_isSameAs_5 : decode (mm_Row_isSameAs).2.1 5 = .ok (.getfield 15, 3) := by decide +kernel
theorem dd_Row_isSameAs_8 : decode (mm_Row_isSameAs).2.1 8 = .ok (.if_icmp .eq 5, 3) := by decide +kernel
theorem dd_Row_isSameAs_11 : decode (mm_Row_isSameAs).2.1 11 = .ok (.iconst 0, 1) := by decide +kernel
theorem dd_Row_isSameAs_12 : decode (mm_Row_isSameAs).2.1 12 = .ok (.ireturn, 1) := by decide +kernel
theorem dd_Row_isSameAs_13 : decode (mm_Row_isSameAs).2.1 13 = .ok (.iconst 0, 1) := by decide +kernel
theorem dd_Row_isSameAs_14 : decode (mm_Row_isSameAs).2.1 14 = .ok (.istore_n 2, 1) := by decide +kernel
theorem dd_Row_isSameAs_15 : decode (mm_Row_isSameAs).2.1 15 = .ok (.iload_n 2, 1) := by decide +kernel
theorem dd_Row_isSameAs_16 : decode (mm_Row_isSameAs).2.1 16 = .ok (.aload_n 0, 1) := by decide +kernel
theorem dd_Row_isSameAs_17 : decode (mm_Row_isSameAs).2.1 17 = .ok (.getfield 15, 3) := by decide +kernel
theorem dd_Row_isSameAs_20 : decode (mm_Row_isSameAs).2.1 20 = .ok (.if_icmp .ge 24, 3) := by decide +kernel
theorem dd_Row_isSameAs_23 : decode (mm_Row_isSameAs).2.1 23 = .ok (.aload_n 0, 1) := by decide +kernel
theorem dd_Row_isSameAs_24 : decode (mm_Row_isSameAs).2.1 24 = .ok (.iload_n 2, 1) := by decide +kernel
theorem dd_Row_isSameAs_25 : decode (mm_Row_isSameAs).2.1 25 = .ok (.invokevirtual 19, 3) := by decide +kernel
theorem dd_Row_isSameAs_28 : decode (mm_Row_isSameAs).2.1 28 = .ok (.aload_n 1, 1) := by decide +kernel
theorem dd_Row_isSameAs_29 : decode (mm_Row_isSameAs).2.1 29 = .ok (.iload_n 2, 1) := by decide +kernel
theorem dd_Row_isSameAs_30 : decode (mm_Row_isSameAs).2.1 30 = .ok (.invokevirtual 19, 3) := by decide +kernel
theorem dd_Row_isSameAs_33 : decode (mm_Row_isSameAs).2.1 33 = .ok (.if_icmp .eq 5, 3) := by decide +kernel
theorem dd_Row_isSameAs_36 : decode (mm_Row_isSameAs).2.1 36 = .ok (.iconst 0, 1) := by decide +kernel
theorem dd_Row_isSameAs_37 : decode (mm_Row_isSameAs).2.1 37 = .ok (.ireturn, 1) := by decide +kernel
theorem dd_Row_isSameAs_38 : decode (mm_Row_isSameAs).2.1 38 = .ok (.iinc 2 1, 3) := by decide +kernel
theorem dd_Row_isSameAs_41 : decode (mm_Row_isSameAs).2.1 41 = .ok (.goto (-26), 3) := by decide +kernel
theorem dd_Row_isSameAs_44 : decode (mm_Row_isSameAs).2.1 44 = .ok (.iconst 1, 1) := by decide +kernel
theorem dd_Row_isSameAs_45 : decode (mm_Row_isSameAs).2.1 45 = .ok (.ireturn, 1) := by decide +kernel
theorem dd_Un_unsqueeze_0 : decode (mm_Un_unsqueeze).2.1 0 = .ok (.aload_n 1, 1) := by decide +kernel
theorem dd_Un_unsqueeze_1 : decode (mm_Un_unsqueeze).2.1 1 = .ok (.getfield 9, 3) := by decide +kernel
theorem dd_Un_unsqueeze_4 : decode (mm_Un_unsqueeze).2.1 4 = .ok (.istore_n 3, 1) := by decide +kernel
theorem dd_Un_unsqueeze_5 : decode (mm_Un_unsqueeze).2.1 5 = .ok (.iload_n 3, 1) := by decide +kernel
theorem dd_Un_unsqueeze_6 : decode (mm_Un_unsqueeze).2.1 6 = .ok (.aload_n 1, 1) := by decide +kernel
theorem dd_Un_unsqueeze_7 : decode (mm_Un_unsqueeze).2.1 7 = .ok (.getfield 15, 3) := by decide +kernel
theorem dd_Un_unsqueeze_10 : decode (mm_Un_unsqueeze).2.1 10 = .ok (.iadd, 1) := by decide +kernel
theorem dd_Un_unsqueeze_11 : decode (mm_Un_unsqueeze).2.1 11 = .ok (.istore 4, 2) := by decide +kernel
theorem dd_Un_unsqueeze_13 : decode (mm_Un_unsqueeze).2.1 13 = .ok (.aload_n 2, 1) := by decide +kernel
theorem dd_Un_unsqueeze_14 : decode (mm_Un_unsqueeze).2.1 14 = .ok (.iconst 0, 1) := by decide +kernel
theorem dd_Un_unsqueeze_15 : decode (mm_Un_unsqueeze).2.1 15 = .ok (.invokevirtual 18, 3) := by decide +kernel
theorem dd_Un_unsqueeze_18 : decode (mm_Un_unsqueeze).2.1 18 = .ok (.aload_n 1, 1) := by decide +kernel
theorem dd_Un_unsqueeze_19 : decode (mm_Un_unsqueeze).2.1 19 = .ok (.getfield 24, 3) := by decide +kernel
theorem dd_Un_unsqueeze_22 : decode (mm_Un_unsqueeze).2.1 22 = .ok (.iconst 1, 1) := by decide +kernel
theorem dd_Un_unsqueeze_23 : decode (mm_Un_unsqueeze).2.1 23 = .ok (.if_icmp .ne 16, 3) := by decide +kernel
theorem dd_Un_unsqueeze_26 : decode (mm_Un_unsqueeze).2.1 26 = .ok (.aload_n 0, 1) := by decide +kernel
theorem dd_Un_unsqueeze_27 : decode (mm_Un_unsqueeze).2.1 27 = .ok (.iload_n 3, 1) := by decide +kernel
theorem dd_Un_unsqueeze_28 : decode (mm_Un_unsqueeze).2.1 28 = .ok (.iload 4, 2) := by decide +kernel
theorem dd_Un_unsqueeze_30 : decode (mm_Un_unsqueeze).2.1 30 = .ok (.aload_n 2, 1) := by decide +kernel
theorem dd_Un_unsqueeze_31 : decode (mm_Un_unsqueeze).2.1 31 = .ok (.invokestatic 27, 3) := by decide +kernel
theorem dd_Un_unsqueeze_34 : decode (mm_Un_unsqueeze).2.1 34 = .ok (.istore 5, 2) := by decide +kernel
theorem dd_Un_unsqueeze_36 : decode (mm_Un_unsqueeze).2.1 36 = .ok (.goto 34, 3) := by decide +kernel
theorem dd_Un_unsqueeze_39 : decode (mm_Un_unsqueeze).2.1 39 = .ok (.aload_n 1, 1) := by decide +kernel
theorem dd_Un_unsqueeze_40 : decode (mm_Un_unsqueeze).2.1 40 = .ok (.getfield 24, 3) := by decide +kernel
theorem dd_Un_unsqueeze_43 : decode (mm_Un_unsqueeze).2.1 43 = .ok (.iconst 2, 1) := by decide +kernel
theorem dd_Un_unsqueeze_44 : decode (mm_Un_unsqueeze).2.1 44 = .ok (.if_icmp .ne 16, 3) := by decide +kernel
theorem dd_Un_unsqueeze_47 : decode (mm_Un_unsqueeze).2.1 47 = .ok (.aload_n 0, 1) := by decide +kernel
theorem dd_Un_unsqueeze_48 : decode (mm_Un_unsqueeze).2.1 48 = .ok (.iload_n 3, 1) := by decide +kernel
theorem dd_Un_unsqueeze_49 : decode (mm_Un_unsqueeze).2.1 49 = .ok (.iload 4, 2) := by decide +kernel
theorem dd_Un_unsqueeze_51 : decode (mm_Un_unsqueeze).2.1 51 = .ok (.aload_n 2, 1) := by decide +kernel
theorem dd_Un_unsqueeze_52 : decode (mm_Un_unsqueeze).2.1 52 = .ok (.invokestatic 33, 3) := by decide +kernel
theorem dd_Un_unsqueeze_55 : decode (mm_Un_unsqueeze).2.1 55 = .ok (.istore 5, 2) := by decide +kernel
theorem dd_Un_unsqueeze_57 : decode (mm_Un_unsqueeze).2.1 57 = .ok (.goto 13, 3) := by decide +kernel
theorem dd_Un_unsqueeze_60 : decode (mm_Un_unsqueeze).2.1 60 = .ok (.aload_n 2, 1) := by decide +kernel
theorem dd_Un_unsqueeze_61 : decode (mm_Un_unsqueeze).2.1 61 = .ok (.aload_n 0, 1) := by decide +kernel
theorem dd_Un_unsqueeze_62 : decode (mm_Un_unsqueeze).2.1 62 = .ok (.iload_n 3, 1) := by decide +kernel
theorem dd_Un_unsqueeze_63 : decode (mm_Un_unsqueeze).2.1 63 = .ok (.iload 4, 2) := by decide +kernel
theorem dd_Un_unsqueeze_65 : decode (mm_Un_unsqueeze).2.1 65 = .ok (.invokevirtual 36, 3) := by decide +kernel
theorem dd_Un_unsqueeze_68 : decode (mm_Un_unsqueeze).2.1 68 = .ok (.istore 5, 2) := by decide +kernel
theorem dd_Un_unsqueeze_70 : decode (mm_Un_unsqueeze).2.1 70 = .ok (.iload 5, 2) := by decide +kernel
theorem dd_Un_unsqueeze_72 : decode (mm_Un_unsqueeze).2.1 72 = .ok (.ifCond .eq 18, 3) := by decide +kernel
theorem dd_Un_unsqueeze_75 : decode (mm_Un_unsqueeze).2.1 75 = .ok (.aload_n 2, 1) := by decide +kernel
theorem dd_Un_unsqueeze_76 : decode (mm_Un_unsqueeze).2.1 76 = .ok (.getfield 40, 3) := by decide +kernel
theorem dd_Un_unsqueeze_79 : decode (mm_Un_unsqueeze).2.1 79 = .ok (.aload_n 1, 1) := by decide +kernel
theorem dd_Un_unsqueeze_80 : decode (mm_Un_unsqueeze).2.1 80 = .ok (.getfield 43, 3) := by decide +kernel
theorem dd_Un_unsqueeze_83 : decode (mm_Un_unsqueeze).2.1 83 = .ok (.if_icmp .ne 7, 3) := by decide +kernel
theorem dd_Un_unsqueeze_86 : decode (mm_Un_unsqueeze).2.1 86 = .ok (.iconst 1, 1) := by decide +kernel
theorem dd_Un_unsqueeze_87 : decode (mm_Un_unsqueeze).2.1 87 = .ok (.goto 4, 3) := by decide +kernel
theorem dd_Un_unsqueeze_90 : decode (mm_Un_unsqueeze).2.1 90 = .ok (.iconst 0, 1) := by decide +kernel
theorem dd_Un_unsqueeze_91 : decode (mm_Un_unsqueeze).2.1 91 = .ok (.ireturn, 1) := by decide +kernel
theorem dd_Un_unsqueezeRuns_0 : decode (mm_Un_unsqueezeRuns).2.1 0 = .ok (.iload_n 1, 1) := by decide +kernel
theorem dd_Un_unsqueezeRuns_1 : decode (mm_Un_unsqueezeRuns).2.1 1 = .ok (.istore 4, 2) := by decide +kernel
theorem dd_Un_unsqueezeRuns_3 : decode (mm_Un_unsqueezeRuns).2.1 3 = .ok (.iload 4, 2) := by decide +kernel
theorem dd_Un_unsqueezeRuns_5 : decode (mm_Un_unsqueezeRuns).2.1 5 = .ok (.iload_n 2, 1) := by decide +kernel
theorem dd_Un_unsqueezeRuns_6 : decode (mm_Un_unsqueezeRuns).2.1 6 = .ok (.if_icmp .ge 108, 3) := by decide +kernel
theorem dd_Un_unsqueezeRuns_9 : decode (mm_Un_unsqueezeRuns).2.1 9 = .ok (.aload_n 0, 1) := by decide +kernel
theorem dd_Un_unsqueezeRuns_10 : decode (mm_Un_unsqueezeRuns).2.1 10 = .ok (.iload 4, 2) := by decide +kernel
theorem dd_Un_unsqueezeRuns_12 : decode (mm_Un_unsqueezeRuns).2.1 12 = .ok (.invokevirtual 44, 3) := by decide +kernel
theorem dd_Un_unsqueezeRuns_15 : decode (mm_Un_unsqueezeRuns).2.1 15 = .ok (.istore 5, 2) := by decide +kernel
theorem dd_Un_unsqueezeRuns_17 : decode (mm_Un_unsqueezeRuns).2.1 17 = .ok (.iload 5, 2) := by decide +kernel
theorem dd_Un_unsqueezeRuns_19 : decode (mm_Un_unsqueezeRuns).2.1 19 = .ok (.sipush 246, 3) := by decide +kernel
theorem dd_Un_unsqueezeRuns_22 : decode (mm_Un_unsqueezeRuns).2.1 22 = .ok (.if_icmp .lt 7, 3) := by decide +kernel
theorem dd_Un_unsqueezeRuns_25 : decode (mm_Un_unsqueezeRuns).2.1 25 = .ok (.iconst 1, 1) := by decide +kernel
theorem dd_Un_unsqueezeRuns_26 : decode (mm_Un_unsqueezeRuns).2.1 26 = .ok (.goto 4, 3) := by decide +kernel
theorem dd_Un_unsqueezeRuns_29 : decode (mm_Un_unsqueezeRuns).2.1 29 = .ok (.iconst 0, 1) := by decide +kernel
theorem dd_Un_unsqueezeRuns_30 : decode (mm_Un_unsqueezeRuns).2.1 30 = .ok (.istore 6, 2) := by decide +kernel
theorem dd_Un_unsqueezeRuns_32 : decode (mm_Un_unsqueezeRuns).2.1 32 = .ok (.iload 6, 2) := by decide +kernel
theorem dd_Un_unsqueezeRuns_34 : decode (mm_Un_unsqueezeRuns).2.1 34 = .ok (.ifCond .eq 21, 3) := by decide +kernel
theorem dd_Un_unsqueezeRuns_37 : decode (mm_Un_unsqueezeRuns).2.1 37 = .ok (.iload 5, 2) := by decide +kernel
theorem dd_Un_unsqueezeRuns_39 : decode (mm_Un_unsqueezeRuns).2.1 39 = .ok (.sipush 246, 3) := by decide +kernel
theorem dd_Un_unsqueezeRuns_42 : decode (mm_Un_unsqueezeRuns).2.1 42 = .ok (.if_icmp .eq 11, 3) := by decide +kernel
theorem dd_Un_unsqueezeRuns_45 : decode (mm_Un_unsqueezeRuns).2.1 45 = .ok (.iload 4, 2) := by decide +kernel
theorem dd_Un_unsqueezeRuns_47 : decode (mm_Un_unsqueezeRuns).2.1 47 = .ok (.iconst 1, 1) := by decide +kernel
theorem dd_Un_unsqueezeRuns_48 : decode (mm_Un_unsqueezeRuns).2.1 48 = .ok (.iadd, 1) := by decide +kernel
theorem dd_Un_unsqueezeRuns_49 : decode (mm_Un_unsqueezeRuns).2.1 49 = .ok (.iload_n 2, 1) := by decide +kernel
theorem dd_Un_unsqueezeRuns_50 : decode (mm_Un_unsqueezeRuns).2.1 50 = .ok (.if_icmp .lt 5, 3) := by decide +kernel
theorem dd_Un_unsqueezeRuns_53 : decode (mm_Un_unsqueezeRuns).2.1 53 = .ok (.iconst 0, 1) := by decide +kernel
theorem dd_Un_unsqueezeRuns_54 : decode (mm_Un_unsqueezeRuns).2.1 54 = .ok (.ireturn, 1) := by decide +kernel
theorem dd_Un_unsqueezeRuns_55 : decode (mm_Un_unsqueezeRuns).2.1 55 = .ok (.iload 6, 2) := by decide +kernel
theorem dd_Un_unsqueezeRuns_57 : decode (mm_Un_unsqueezeRuns).2.1 57 = .ok (.ifCond .eq 24, 3) := by decide +kernel
theorem dd_Un_unsqueezeRuns_60 : decode (mm_Un_unsqueezeRuns).2.1 60 = .ok (.aload_n 3, 1) := by decide +kernel
theorem dd_Un_unsqueezeRuns_61 : decode (mm_Un_unsqueezeRuns).2.1 61 = .ok (.aload_n 0, 1) := by decide +kernel
theorem dd_Un_unsqueezeRuns_62 : decode (mm_Un_unsqueezeRuns).2.1 62 = .ok (.iload 4, 2) := by decide +kernel
theorem dd_Un_unsqueezeRuns_64 : decode (mm_Un_unsqueezeRuns).2.1 64 = .ok (.iconst 1, 1) := by decide +kernel
theorem dd_Un_unsqueezeRuns_65 : decode (mm_Un_unsqueezeRuns).2.1 65 = .ok (.iadd, 1) := by decide +kernel
theorem dd_Un_unsqueezeRuns_66 : decode (mm_Un_unsqueezeRuns).2.1 66 = .ok (.invokevirtual 44, 3) := by decide +kernel
theorem dd_Un_unsqueezeRuns_69 : decode (mm_Un_unsqueezeRuns).2.1 69 = .ok (.iload 5, 2) := by decide +kernel
theorem dd_Un_unsqueezeRuns_71 : decode (mm_Un_unsqueezeRuns).2.1 71 = .ok (.sipush 246, 3) := by decide +kernel
theorem dd_Un_unsqueezeRuns_74 : decode (mm_Un_unsqueezeRuns).2.1 74 = .ok (.isub, 1) := by decide +kernel
theorem dd_Un_unsqueezeRuns_75 : decode (mm_Un_unsqueezeRuns).2.1 75 = .ok (.invokevirtual 48, 3) := by decide +kernel
theorem dd_Un_unsqueezeRuns_78 : decode (mm_Un_unsqueezeRuns).2.1 78 = .ok (.goto 9, 3) := by decide +kernel
theorem dd_Un_unsqueezeRuns_81 : decode (mm_Un_unsqueezeRuns).2.1 81 = .ok (.aload_n 3, 1) := by decide +kernel
theorem dd_Un_unsqueezeRuns_82 : decode (mm_Un_unsqueezeRuns).2.1 82 = .ok (.iload 5, 2) := by decide +kernel
theorem dd_Un_unsqueezeRuns_84 : decode (mm_Un_unsqueezeRuns).2.1 84 = .ok (.invokevirtual 52, 3) := by decide +kernel
theorem dd_Un_unsqueezeRuns_87 : decode (mm_Un_unsqueezeRuns).2.1 87 = .ok (.istore 7, 2) := by decide +kernel
theorem dd_Un_unsqueezeRuns_89 : decode (mm_Un_unsqueezeRuns).2.1 89 = .ok (.iload 7, 2) := by decide +kernel
theorem dd_Un_unsqueezeRuns_91 : decode (mm_Un_unsqueezeRuns).2.1 91 = .ok (.ifCond .ne 5, 3) := by decide +kernel
theorem dd_Un_unsqueezeRuns_94 : decode (mm_Un_unsqueezeRuns).2.1 94 = .ok (.iconst 0, 1) := by decide +kernel
theorem dd_Un_unsqueezeRuns_95 : decode (mm_Un_unsqueezeRuns).2.1 95 = .ok (.ireturn, 1) := by decide +kernel
theorem dd_Un_unsqueezeRuns_96 : decode (mm_Un_unsqueezeRuns).2.1 96 = .ok (.iload 4, 2) := by decide +kernel
theorem dd_Un_unsqueezeRuns_98 : decode (mm_Un_unsqueezeRuns).2.1 98 = .ok (.iload 6, 2) := by decide +kernel
theorem dd_Un_unsqueezeRuns_100 : decode (mm_Un_unsqueezeRuns).2.1 100 = .ok (.ifCond .eq 7, 3) := by decide +kernel
theorem dd_Un_unsqueezeRuns_103 : decode (mm_Un_unsqueezeRuns).2.1 103 = .ok (.iconst 2, 1) := by decide +kernel
theorem dd_Un_unsqueezeRuns_104 : decode (mm_Un_unsqueezeRuns).2.1 104 = .ok (.goto 4, 3) := by decide +kernel
theorem dd_Un_unsqueezeRuns_107 : decode (mm_Un_unsqueezeRuns).2.1 107 = .ok (.iconst 1, 1) := by decide +kernel
theorem dd_Un_unsqueezeRuns_108 : decode (mm_Un_unsqueezeRuns).2.1 108 = .ok (.iadd, 1) := by decide +kernel
theorem dd_Un_unsqueezeRuns_109 : decode (mm_Un_unsqueezeRuns).2.1 109 = .ok (.istore 4, 2) := by decide +kernel
theorem dd_Un_unsqueezeRuns_111 : decode (mm_Un_unsqueezeRuns).2.1 111 = .ok (.goto (-108), 3) := by decide +kernel
theorem dd_Un_unsqueezeRuns_114 : decode (mm_Un_unsqueezeRuns).2.1 114 = .ok (.iconst 1, 1) := by decide +kernel
theorem dd_Un_unsqueezeRuns_115 : decode (mm_Un_unsqueezeRuns).2.1 115 = .ok (.ireturn, 1) := by decide +kernel
theorem dd_Un_unsqueezeCopies_0 : decode (mm_Un_unsqueezeCopies).2.1 0 = .ok (.iload_n 1, 1) := by decide +kernel
theorem dd_Un_unsqueezeCopies_1 : decode (mm_Un_unsqueezeCopies).2.1 1 = .ok (.istore 4, 2) := by decide +kernel
theorem dd_Un_unsqueezeCopies_3 : decode (mm_Un_unsqueezeCopies).2.1 3 = .ok (.iload 4, 2) := by decide +kernel
theorem dd_Un_unsqueezeCopies_5 : decode (mm_Un_unsqueezeCopies).2.1 5 = .ok (.iload_n 2, 1) := by decide +kernel
theorem dd_Un_unsqueezeCopies_6 : decode (mm_Un_unsqueezeCopies).2.1 6 = .ok (.if_icmp .ge 131, 3) := by decide +kernel
theorem dd_Un_unsqueezeCopies_9 : decode (mm_Un_unsqueezeCopies).2.1 9 = .ok (.aload_n 0, 1) := by decide +kernel
theorem dd_Un_unsqueezeCopies_10 : decode (mm_Un_unsqueezeCopies).2.1 10 = .ok (.iload 4, 2) := by decide +kernel
theorem dd_Un_unsqueezeCopies_12 : decode (mm_Un_unsqueezeCopies).2.1 12 = .ok (.invokevirtual 44, 3) := by decide +kernel
theorem dd_Un_unsqueezeCopies_15 : decode (mm_Un_unsqueezeCopies).2.1 15 = .ok (.istore 5, 2) := by decide +kernel
theorem dd_Un_unsqueezeCopies_17 : decode (mm_Un_unsqueezeCopies).2.1 17 = .ok (.iload 5, 2) := by decide +kernel
theorem dd_Un_unsqueezeCopies_19 : decode (mm_Un_unsqueezeCopies).2.1 19 = .ok (.ifCond .lt 10, 3) := by decide +kernel
theorem dd_Un_unsqueezeCopies_22 : decode (mm_Un_unsqueezeCopies).2.1 22 = .ok (.iload 5, 2) := by decide +kernel
theorem dd_Un_unsqueezeCopies_24 : decode (mm_Un_unsqueezeCopies).2.1 24 = .ok (.bipush 64, 2) := by decide +kernel
theorem dd_Un_unsqueezeCopies_26 : decode (mm_Un_unsqueezeCopies).2.1 26 = .ok (.if_icmp .lt 5, 3) := by decide +kernel
theorem dd_Un_unsqueezeCopies_29 : decode (mm_Un_unsqueezeCopies).2.1 29 = .ok (.iconst 0, 1) := by decide +kernel
theorem dd_Un_unsqueezeCopies_30 : decode (mm_Un_unsqueezeCopies).2.1 30 = .ok (.ireturn, 1) := by decide +kernel
theorem dd_Un_unsqueezeCopies_31 : decode (mm_Un_unsqueezeCopies).2.1 31 = .ok (.iload 5, 2) := by decide +kernel
theorem dd_Un_unsqueezeCopies_33 : decode (mm_Un_unsqueezeCopies).2.1 33 = .ok (.bipush 32, 2) := by decide +kernel
theorem dd_Un_unsqueezeCopies_35 : decode (mm_Un_unsqueezeCopies).2.1 35 = .ok (.if_icmp .lt 7, 3) := by decide +kernel
theorem dd_Un_unsqueezeCopies_38 : decode (mm_Un_unsqueezeCopies).2.1 38 = .ok (.iconst 1, 1) := by decide +kernel
theorem dd_Un_unsqueezeCopies_39 : decode (mm_Un_unsqueezeCopies).2.1 39 = .ok (.goto 4, 3) := by decide +kernel
theorem dd_Un_unsqueezeCopies_42 : decode (mm_Un_unsqueezeCopies).2.1 42 = .ok (.iconst 0, 1) := by decide +kernel
theorem dd_Un_unsqueezeCopies_43 : decode (mm_Un_unsqueezeCopies).2.1 43 = .ok (.istore 6, 2) := by decide +kernel
theorem dd_Un_unsqueezeCopies_45 : decode (mm_Un_unsqueezeCopies).2.1 45 = .ok (.iload 6, 2) := by decide +kernel
theorem dd_Un_unsqueezeCopies_47 : decode (mm_Un_unsqueezeCopies).2.1 47 = .ok (.ifCond .eq 7, 3) := by decide +kernel
theorem dd_Un_unsqueezeCopies_50 : decode (mm_Un_unsqueezeCopies).2.1 50 = .ok (.iconst 1, 1) := by decide +kernel
theorem dd_Un_unsqueezeCopies_51 : decode (mm_Un_unsqueezeCopies).2.1 51 = .ok (.goto 7, 3) := by decide +kernel
theorem dd_Un_unsqueezeCopies_54 : decode (mm_Un_unsqueezeCopies).2.1 54 = .ok (.iload 5, 2) := by decide +kernel
theorem dd_Un_unsqueezeCopies_56 : decode (mm_Un_unsqueezeCopies).2.1 56 = .ok (.iconst 1, 1) := by decide +kernel
theorem dd_Un_unsqueezeCopies_57 : decode (mm_Un_unsqueezeCopies).2.1 57 = .ok (.iadd, 1) := by decide +kernel
theorem dd_Un_unsqueezeCopies_58 : decode (mm_Un_unsqueezeCopies).2.1 58 = .ok (.istore 7, 2) := by decide +kernel
theorem dd_Un_unsqueezeCopies_60 : decode (mm_Un_unsqueezeCopies).2.1 60 = .ok (.iload 4, 2) := by decide +kernel
theorem dd_Un_unsqueezeCopies_62 : decode (mm_Un_unsqueezeCopies).2.1 62 = .ok (.iload 7, 2) := by decide +kernel
theorem dd_Un_unsqueezeCopies_64 : decode (mm_Un_unsqueezeCopies).2.1 64 = .ok (.iadd, 1) := by decide +kernel
theorem dd_Un_unsqueezeCopies_65 : decode (mm_Un_unsqueezeCopies).2.1 65 = .ok (.iload_n 2, 1) := by decide +kernel
theorem dd_Un_unsqueezeCopies_66 : decode (mm_Un_unsqueezeCopies).2.1 66 = .ok (.if_icmp .lt 5, 3) := by decide +kernel
theorem dd_Un_unsqueezeCopies_69 : decode (mm_Un_unsqueezeCopies).2.1 69 = .ok (.iconst 0, 1) := by decide +kernel
theorem dd_Un_unsqueezeCopies_70 : decode (mm_Un_unsqueezeCopies).2.1 70 = .ok (.ireturn, 1) := by decide +kernel
theorem dd_Un_unsqueezeCopies_71 : decode (mm_Un_unsqueezeCopies).2.1 71 = .ok (.iload 6, 2) := by decide +kernel
theorem dd_Un_unsqueezeCopies_73 : decode (mm_Un_unsqueezeCopies).2.1 73 = .ok (.ifCond .eq 27, 3) := by decide +kernel
theorem dd_Un_unsqueezeCopies_76 : decode (mm_Un_unsqueezeCopies).2.1 76 = .ok (.aload_n 3, 1) := by decide +kernel
theorem dd_Un_unsqueezeCopies_77 : decode (mm_Un_unsqueezeCopies).2.1 77 = .ok (.iload 5, 2) := by decide +kernel
theorem dd_Un_unsqueezeCopies_79 : decode (mm_Un_unsqueezeCopies).2.1 79 = .ok (.bipush 32, 2) := by decide +kernel
theorem dd_Un_unsqueezeCopies_81 : decode (mm_Un_unsqueezeCopies).2.1 81 = .ok (.isub, 1) := by decide +kernel
theorem dd_Un_unsqueezeCopies_82 : decode (mm_Un_unsqueezeCopies).2.1 82 = .ok (.iconst 3, 1) := by decide +kernel
theorem dd_Un_unsqueezeCopies_83 : decode (mm_Un_unsqueezeCopies).2.1 83 = .ok (.iadd, 1) := by decide +kernel
theorem dd_Un_unsqueezeCopies_84 : decode (mm_Un_unsqueezeCopies).2.1 84 = .ok (.aload_n 0, 1) := by decide +kernel
theorem dd_Un_unsqueezeCopies_85 : decode (mm_Un_unsqueezeCopies).2.1 85 = .ok (.iload 4, 2) := by decide +kernel
theorem dd_Un_unsqueezeCopies_87 : decode (mm_Un_unsqueezeCopies).2.1 87 = .ok (.iconst 1, 1) := by decide +kernel
theorem dd_Un_unsqueezeCopies_88 : decode (mm_Un_unsqueezeCopies).2.1 88 = .ok (.iadd, 1) := by decide +kernel
theorem dd_Un_unsqueezeCopies_89 : decode (mm_Un_unsqueezeCopies).2.1 89 = .ok (.invokevirtual 44, 3) := by decide +kernel
theorem dd_Un_unsqueezeCopies_92 : decode (mm_Un_unsqueezeCopies).2.1 92 = .ok (.iconst 1, 1) := by decide +kernel
theorem dd_Un_unsqueezeCopies_93 : decode (mm_Un_unsqueezeCopies).2.1 93 = .ok (.iadd, 1) := by decide +kernel
theorem dd_Un_unsqueezeCopies_94 : decode (mm_Un_unsqueezeCopies).2.1 94 = .ok (.invokestatic 56, 3) := by decide +kernel
theorem dd_Un_unsqueezeCopies_97 : decode (mm_Un_unsqueezeCopies).2.1 97 = .ok (.goto 19, 3) := by decide +kernel
theorem dd_Un_unsqueezeCopies_100 : decode (mm_Un_unsqueezeCopies).2.1 100 = .ok (.aload_n 3, 1) := by decide +kernel
theorem dd_Un_unsqueezeCopies_101 : decode (mm_Un_unsqueezeCopies).2.1 101 = .ok (.aload_n 0, 1) := by decide +kernel
theorem dd_Un_unsqueezeCopies_102 : decode (mm_Un_unsqueezeCopies).2.1 102 = .ok (.iload 4, 2) := by decide +kernel
theorem dd_Un_unsqueezeCopies_104 : decode (mm_Un_unsqueezeCopies).2.1 104 = .ok (.iconst 1, 1) := by decide +kernel
theorem dd_Un_unsqueezeCopies_105 : decode (mm_Un_unsqueezeCopies).2.1 105 = .ok (.iadd, 1) := by decide +kernel
theorem dd_Un_unsqueezeCopies_106 : decode (mm_Un_unsqueezeCopies).2.1 106 = .ok (.iload 4, 2) := by decide +kernel
theorem dd_Un_unsqueezeCopies_108 : decode (mm_Un_unsqueezeCopies).2.1 108 = .ok (.iconst 1, 1) := by decide +kernel
theorem dd_Un_unsqueezeCopies_109 : decode (mm_Un_unsqueezeCopies).2.1 109 = .ok (.iadd, 1) := by decide +kernel
theorem dd_Un_unsqueezeCopies_110 : decode (mm_Un_unsqueezeCopies).2.1 110 = .ok (.iload 7, 2) := by decide +kernel
theorem dd_Un_unsqueezeCopies_112 : decode (mm_Un_unsqueezeCopies).2.1 112 = .ok (.iadd, 1) := by decide +kernel
theorem dd_Un_unsqueezeCopies_113 : decode (mm_Un_unsqueezeCopies).2.1 113 = .ok (.invokevirtual 36, 3) := by decide +kernel
theorem dd_Un_unsqueezeCopies_116 : decode (mm_Un_unsqueezeCopies).2.1 116 = .ok (.istore 8, 2) := by decide +kernel
theorem dd_Un_unsqueezeCopies_118 : decode (mm_Un_unsqueezeCopies).2.1 118 = .ok (.iload 8, 2) := by decide +kernel
theorem dd_Un_unsqueezeCopies_120 : decode (mm_Un_unsqueezeCopies).2.1 120 = .ok (.ifCond .ne 5, 3) := by decide +kernel
theorem dd_Un_unsqueezeCopies_123 : decode (mm_Un_unsqueezeCopies).2.1 123 = .ok (.iconst 0, 1) := by decide +kernel
theorem dd_Un_unsqueezeCopies_124 : decode (mm_Un_unsqueezeCopies).2.1 124 = .ok (.ireturn, 1) := by decide +kernel
theorem dd_Un_unsqueezeCopies_125 : decode (mm_Un_unsqueezeCopies).2.1 125 = .ok (.iload 4, 2) := by decide +kernel
theorem dd_Un_unsqueezeCopies_127 : decode (mm_Un_unsqueezeCopies).2.1 127 = .ok (.iconst 1, 1) := by decide +kernel
theorem dd_Un_unsqueezeCopies_128 : decode (mm_Un_unsqueezeCopies).2.1 128 = .ok (.iload 7, 2) := by decide +kernel
theorem dd_Un_unsqueezeCopies_130 : decode (mm_Un_unsqueezeCopies).2.1 130 = .ok (.iadd, 1) := by decide +kernel
theorem dd_Un_unsqueezeCopies_131 : decode (mm_Un_unsqueezeCopies).2.1 131 = .ok (.iadd, 1) := by decide +kernel
theorem dd_Un_unsqueezeCopies_132 : decode (mm_Un_unsqueezeCopies).2.1 132 = .ok (.istore 4, 2) := by decide +kernel
theorem dd_Un_unsqueezeCopies_134 : decode (mm_Un_unsqueezeCopies).2.1 134 = .ok (.goto (-131), 3) := by decide +kernel
theorem dd_Un_unsqueezeCopies_137 : decode (mm_Un_unsqueezeCopies).2.1 137 = .ok (.iconst 1, 1) := by decide +kernel
theorem dd_Un_unsqueezeCopies_138 : decode (mm_Un_unsqueezeCopies).2.1 138 = .ok (.ireturn, 1) := by decide +kernel
theorem dd_Un_copyBack_0 : decode (mm_Un_copyBack).2.1 0 = .ok (.iload_n 2, 1) := by decide +kernel
theorem dd_Un_copyBack_1 : decode (mm_Un_copyBack).2.1 1 = .ok (.bipush 32, 2) := by decide +kernel
theorem dd_Un_copyBack_3 : decode (mm_Un_copyBack).2.1 3 = .ok (.if_icmp .gt 11, 3) := by decide +kernel
theorem dd_Un_copyBack_6 : decode (mm_Un_copyBack).2.1 6 = .ok (.iload_n 2, 1) := by decide +kernel
theorem dd_Un_copyBack_7 : decode (mm_Un_copyBack).2.1 7 = .ok (.aload_n 0, 1) := by decide +kernel
theorem dd_Un_copyBack_8 : decode (mm_Un_copyBack).2.1 8 = .ok (.getfield 40, 3) := by decide +kernel
theorem dd_Un_copyBack_11 : decode (mm_Un_copyBack).2.1 11 = .ok (.if_icmp .le 5, 3) := by decide +kernel
theorem dd_Un_copyBack_14 : decode (mm_Un_copyBack).2.1 14 = .ok (.iconst 0, 1) := by decide +kernel
theorem dd_Un_copyBack_15 : decode (mm_Un_copyBack).2.1 15 = .ok (.ireturn, 1) := by decide +kernel
theorem dd_Un_copyBack_16 : decode (mm_Un_copyBack).2.1 16 = .ok (.iconst 0, 1) := by decide +kernel
theorem dd_Un_copyBack_17 : decode (mm_Un_copyBack).2.1 17 = .ok (.istore_n 3, 1) := by decide +kernel
theorem dd_Un_copyBack_18 : decode (mm_Un_copyBack).2.1 18 = .ok (.iload_n 3, 1) := by decide +kernel
theorem dd_Un_copyBack_19 : decode (mm_Un_copyBack).2.1 19 = .ok (.iload_n 1, 1) := by decide +kernel
theorem dd_Un_copyBack_20 : decode (mm_Un_copyBack).2.1 20 = .ok (.if_icmp .ge 28, 3) := by decide +kernel
theorem dd_Un_copyBack_23 : decode (mm_Un_copyBack).2.1 23 = .ok (.aload_n 0, 1) := by decide +kernel
theorem dd_Un_copyBack_24 : decode (mm_Un_copyBack).2.1 24 = .ok (.aload_n 0, 1) := by decide +kernel
theorem dd_Un_copyBack_25 : decode (mm_Un_copyBack).2.1 25 = .ok (.aload_n 0, 1) := by decide +kernel
theorem dd_Un_copyBack_26 : decode (mm_Un_copyBack).2.1 26 = .ok (.getfield 40, 3) := by decide +kernel
theorem dd_Un_copyBack_29 : decode (mm_Un_copyBack).2.1 29 = .ok (.iload_n 2, 1) := by decide +kernel
theorem dd_Un_copyBack_30 : decode (mm_Un_copyBack).2.1 30 = .ok (.isub, 1) := by decide +kernel
theorem dd_Un_copyBack_31 : decode (mm_Un_copyBack).2.1 31 = .ok (.invokevirtual 44, 3) := by decide +kernel
theorem dd_Un_copyBack_34 : decode (mm_Un_copyBack).2.1 34 = .ok (.invokevirtual 52, 3) := by decide +kernel
theorem dd_Un_copyBack_37 : decode (mm_Un_copyBack).2.1 37 = .ok (.ifCond .ne 5, 3) := by decide +kernel
theorem dd_Un_copyBack_40 : decode (mm_Un_copyBack).2.1 40 = .ok (.iconst 0, 1) := by decide +kernel
theorem dd_Un_copyBack_41 : decode (mm_Un_copyBack).2.1 41 = .ok (.ireturn, 1) := by decide +kernel
theorem dd_Un_copyBack_42 : decode (mm_Un_copyBack).2.1 42 = .ok (.iinc 3 1, 3) := by decide +kernel
theorem dd_Un_copyBack_45 : decode (mm_Un_copyBack).2.1 45 = .ok (.goto (-27), 3) := by decide +kernel
theorem dd_Un_copyBack_48 : decode (mm_Un_copyBack).2.1 48 = .ok (.iconst 1, 1) := by decide +kernel
theorem dd_Un_copyBack_49 : decode (mm_Un_copyBack).2.1 49 = .ok (.ireturn, 1) := by decide +kernel
theorem dd_AB_taken_0 : decode (mm_AB_taken).2.1 0 = .ok (.aload_n 0, 1) := by decide +kernel
theorem dd_AB_taken_1 : decode (mm_AB_taken).2.1 1 = .ok (.getfield 38, 3) := by decide +kernel
theorem dd_AB_taken_4 : decode (mm_AB_taken).2.1 4 = .ok (.iload_n 1, 1) := by decide +kernel
theorem dd_AB_taken_5 : decode (mm_AB_taken).2.1 5 = .ok (.invokevirtual 97, 3) := by decide +kernel
theorem dd_AB_taken_8 : decode (mm_AB_taken).2.1 8 = .ok (.ireturn, 1) := by decide +kernel
theorem dd_AB_file_0 : decode (mm_AB_file).2.1 0 = .ok (.aload_n 0, 1) := by decide +kernel
theorem dd_AB_file_1 : decode (mm_AB_file).2.1 1 = .ok (.getfield 31, 3) := by decide +kernel
theorem dd_AB_file_4 : decode (mm_AB_file).2.1 4 = .ok (.iload_n 1, 1) := by decide +kernel
theorem dd_AB_file_5 : decode (mm_AB_file).2.1 5 = .ok (.invokevirtual 115, 3) := by decide +kernel
theorem dd_AB_file_8 : decode (mm_AB_file).2.1 8 = .ok (.ifCond .eq 19, 3) := by decide +kernel
theorem dd_AB_file_11 : decode (mm_AB_file).2.1 11 = .ok (.aload_n 0, 1) := by decide +kernel
theorem dd_AB_file_12 : decode (mm_AB_file).2.1 12 = .ok (.getfield 31, 3) := by decide +kernel
theorem dd_AB_file_15 : decode (mm_AB_file).2.1 15 = .ok (.getfield 118, 3) := by decide +kernel
theorem dd_AB_file_18 : decode (mm_AB_file).2.1 18 = .ok (.iload_n 1, 1) := by decide +kernel
theorem dd_AB_file_19 : decode (mm_AB_file).2.1 19 = .ok (.aaload, 1) := by decide +kernel
theorem dd_AB_file_20 : decode (mm_AB_file).2.1 20 = .ok (.iload_n 2, 1) := by decide +kernel
theorem dd_AB_file_21 : decode (mm_AB_file).2.1 21 = .ok (.invokevirtual 141, 3) := by decide +kernel
theorem dd_AB_file_24 : decode (mm_AB_file).2.1 24 = .ok (.goto 4, 3) := by decide +kernel
theorem dd_AB_file_27 : decode (mm_AB_file).2.1 27 = .ok (.iconst (-1), 1) := by decide +kernel
theorem dd_AB_file_28 : decode (mm_AB_file).2.1 28 = .ok (.ireturn, 1) := by decide +kernel
theorem dd_OF_tell_0 : decode (mm_OF_tell).2.1 0 = .ok (.iload_n 1, 1) := by decide +kernel
theorem dd_OF_tell_1 : decode (mm_OF_tell).2.1 1 = .ok (.tableswitch 72 0 5 #[39, 44, 52, 57, 62, 67], 39) := by decide +kernel
theorem dd_OF_tell_40 : decode (mm_OF_tell).2.1 40 = .ok (.aload_n 0, 1) := by decide +kernel
theorem dd_OF_tell_41 : decode (mm_OF_tell).2.1 41 = .ok (.getfield 20, 3) := by decide +kernel
theorem dd_OF_tell_44 : decode (mm_OF_tell).2.1 44 = .ok (.ireturn, 1) := by decide +kernel
theorem dd_OF_tell_45 : decode (mm_OF_tell).2.1 45 = .ok (.aload_n 0, 1) := by decide +kernel
theorem dd_OF_tell_46 : decode (mm_OF_tell).2.1 46 = .ok (.getfield 14, 3) := by decide +kernel
theorem dd_OF_tell_49 : decode (mm_OF_tell).2.1 49 = .ok (.getfield 24, 3) := by decide +kernel
theorem dd_OF_tell_52 : decode (mm_OF_tell).2.1 52 = .ok (.ireturn, 1) := by decide +kernel
theorem dd_OF_tell_53 : decode (mm_OF_tell).2.1 53 = .ok (.aload_n 0, 1) := by decide +kernel
theorem dd_OF_tell_54 : decode (mm_OF_tell).2.1 54 = .ok (.getfield 27, 3) := by decide +kernel
theorem dd_OF_tell_57 : decode (mm_OF_tell).2.1 57 = .ok (.ireturn, 1) := by decide +kernel
theorem dd_OF_tell_58 : decode (mm_OF_tell).2.1 58 = .ok (.aload_n 0, 1) := by decide +kernel
theorem dd_OF_tell_59 : decode (mm_OF_tell).2.1 59 = .ok (.getfield 30, 3) := by decide +kernel
theorem dd_OF_tell_62 : decode (mm_OF_tell).2.1 62 = .ok (.ireturn, 1) := by decide +kernel
theorem dd_OF_tell_63 : decode (mm_OF_tell).2.1 63 = .ok (.aload_n 0, 1) := by decide +kernel
theorem dd_OF_tell_64 : decode (mm_OF_tell).2.1 64 = .ok (.getfield 33, 3) := by decide +kernel
theorem dd_OF_tell_67 : decode (mm_OF_tell).2.1 67 = .ok (.ireturn, 1) := by decide +kernel
theorem dd_OF_tell_68 : decode (mm_OF_tell).2.1 68 = .ok (.aload_n 0, 1) := by decide +kernel
theorem dd_OF_tell_69 : decode (mm_OF_tell).2.1 69 = .ok (.getfield 34, 3) := by decide +kernel
theorem dd_OF_tell_72 : decode (mm_OF_tell).2.1 72 = .ok (.ireturn, 1) := by decide +kernel
theorem dd_OF_tell_73 : decode (mm_OF_tell).2.1 73 = .ok (.iload_n 1, 1) := by decide +kernel
theorem dd_OF_tell_74 : decode (mm_OF_tell).2.1 74 = .ok (.bipush 16, 2) := by decide +kernel
theorem dd_OF_tell_76 : decode (mm_OF_tell).2.1 76 = .ok (.if_icmp .ge 7, 3) := by decide +kernel
theorem dd_OF_tell_79 : decode (mm_OF_tell).2.1 79 = .ok (.iconst (-1), 1) := by decide +kernel
theorem dd_OF_tell_80 : decode (mm_OF_tell).2.1 80 = .ok (.goto 14, 3) := by decide +kernel
theorem dd_OF_tell_83 : decode (mm_OF_tell).2.1 83 = .ok (.aload_n 0, 1) := by decide +kernel
theorem dd_OF_tell_84 : decode (mm_OF_tell).2.1 84 = .ok (.getfield 14, 3) := by decide +kernel
theorem dd_OF_tell_87 : decode (mm_OF_tell).2.1 87 = .ok (.iload_n 1, 1) := by decide +kernel
theorem dd_OF_tell_88 : decode (mm_OF_tell).2.1 88 = .ok (.bipush 16, 2) := by decide +kernel
theorem dd_OF_tell_90 : decode (mm_OF_tell).2.1 90 = .ok (.isub, 1) := by decide +kernel
theorem dd_OF_tell_91 : decode (mm_OF_tell).2.1 91 = .ok (.invokevirtual 37, 3) := by decide +kernel
theorem dd_OF_tell_94 : decode (mm_OF_tell).2.1 94 = .ok (.ireturn, 1) := by decide +kernel
theorem dd_AB_count_0 : decode (mm_AB_count).2.1 0 = .ok (.iload_n 1, 1) := by decide +kernel
theorem dd_AB_count_1 : decode (mm_AB_count).2.1 1 = .ok (.tableswitch 90 0 5 #[39, 47, 58, 66, 74, 82], 39) := by decide +kernel
theorem dd_AB_count_40 : decode (mm_AB_count).2.1 40 = .ok (.aload_n 0, 1) := by decide +kernel
theorem dd_AB_count_41 : decode (mm_AB_count).2.1 41 = .ok (.getfield 24, 3) := by decide +kernel
theorem dd_AB_count_44 : decode (mm_AB_count).2.1 44 = .ok (.getfield 59, 3) := by decide +kernel
theorem dd_AB_count_47 : decode (mm_AB_count).2.1 47 = .ok (.ireturn, 1) := by decide +kernel
theorem dd_AB_count_48 : decode (mm_AB_count).2.1 48 = .ok (.aload_n 0, 1) := by decide +kernel
theorem dd_AB_count_49 : decode (mm_AB_count).2.1 49 = .ok (.getfield 31, 3) := by decide +kernel
theorem dd_AB_count_52 : decode (mm_AB_count).2.1 52 = .ok (.getfield 84, 3) := by decide +kernel
theorem dd_AB_count_55 : decode (mm_AB_count).2.1 55 = .ok (.getfield 48, 3) := by decide +kernel
theorem dd_AB_count_58 : decode (mm_AB_count).2.1 58 = .ok (.ireturn, 1) := by decide +kernel
theorem dd_AB_count_59 : decode (mm_AB_count).2.1 59 = .ok (.aload_n 0, 1) := by decide +kernel
theorem dd_AB_count_60 : decode (mm_AB_count).2.1 60 = .ok (.getfield 31, 3) := by decide +kernel
theorem dd_AB_count_63 : decode (mm_AB_count).2.1 63 = .ok (.getfield 144, 3) := by decide +kernel
theorem dd_AB_count_66 : decode (mm_AB_count).2.1 66 = .ok (.ireturn, 1) := by decide +kernel
theorem dd_AB_count_67 : decode (mm_AB_count).2.1 67 = .ok (.aload_n 0, 1) := by decide +kernel
theorem dd_AB_count_68 : decode (mm_AB_count).2.1 68 = .ok (.getfield 14, 3) := by decide +kernel
theorem dd_AB_count_71 : decode (mm_AB_count).2.1 71 = .ok (.getfield 48, 3) := by decide +kernel
theorem dd_AB_count_74 : decode (mm_AB_count).2.1 74 = .ok (.ireturn, 1) := by decide +kernel
theorem dd_AB_count_75 : decode (mm_AB_count).2.1 75 = .ok (.aload_n 0, 1) := by decide +kernel
theorem dd_AB_count_76 : decode (mm_AB_count).2.1 76 = .ok (.getfield 18, 3) := by decide +kernel
theorem dd_AB_count_79 : decode (mm_AB_count).2.1 79 = .ok (.getfield 48, 3) := by decide +kernel
theorem dd_AB_count_82 : decode (mm_AB_count).2.1 82 = .ok (.ireturn, 1) := by decide +kernel
theorem dd_AB_count_83 : decode (mm_AB_count).2.1 83 = .ok (.aload_n 0, 1) := by decide +kernel
theorem dd_AB_count_84 : decode (mm_AB_count).2.1 84 = .ok (.getfield 38, 3) := by decide +kernel
theorem dd_AB_count_87 : decode (mm_AB_count).2.1 87 = .ok (.getfield 48, 3) := by decide +kernel
theorem dd_AB_count_90 : decode (mm_AB_count).2.1 90 = .ok (.ireturn, 1) := by decide +kernel
theorem dd_AB_count_91 : decode (mm_AB_count).2.1 91 = .ok (.iconst (-1), 1) := by decide +kernel
theorem dd_AB_count_92 : decode (mm_AB_count).2.1 92 = .ok (.ireturn, 1) := by decide +kernel
theorem dd_Md_init_0 : decode (mm_Md_init).2.1 0 = .ok (.aload_n 0, 1) := by decide +kernel
theorem dd_Md_init_1 : decode (mm_Md_init).2.1 1 = .ok (.invokespecial 1, 3) := by decide +kernel
theorem dd_Md_init_4 : decode (mm_Md_init).2.1 4 = .ok (.aload_n 0, 1) := by decide +kernel
theorem dd_Md_init_5 : decode (mm_Md_init).2.1 5 = .ok (.bipush 8, 2) := by decide +kernel
theorem dd_Md_init_7 : decode (mm_Md_init).2.1 7 = .ok (.newarray .int, 2) := by decide +kernel
theorem dd_Md_init_9 : decode (mm_Md_init).2.1 9 = .ok (.putfield 7, 3) := by decide +kernel
theorem dd_Md_init_12 : decode (mm_Md_init).2.1 12 = .ok (.aload_n 0, 1) := by decide +kernel
theorem dd_Md_init_13 : decode (mm_Md_init).2.1 13 = .ok (.bipush 60, 2) := by decide +kernel
theorem dd_Md_init_15 : decode (mm_Md_init).2.1 15 = .ok (.newarray .int, 2) := by decide +kernel
theorem dd_Md_init_17 : decode (mm_Md_init).2.1 17 = .ok (.putfield 13, 3) := by decide +kernel
theorem dd_Md_init_20 : decode (mm_Md_init).2.1 20 = .ok (.aload_n 0, 1) := by decide +kernel
theorem dd_Md_init_21 : decode (mm_Md_init).2.1 21 = .ok (.bipush 6, 2) := by decide +kernel
theorem dd_Md_init_23 : decode (mm_Md_init).2.1 23 = .ok (.newarray .int, 2) := by decide +kernel
theorem dd_Md_init_25 : decode (mm_Md_init).2.1 25 = .ok (.putfield 16, 3) := by decide +kernel
theorem dd_Md_init_28 : decode (mm_Md_init).2.1 28 = .ok (.aload_n 0, 1) := by decide +kernel
theorem dd_Md_init_29 : decode (mm_Md_init).2.1 29 = .ok (.bipush 6, 2) := by decide +kernel
theorem dd_Md_init_31 : decode (mm_Md_init).2.1 31 = .ok (.newarray .int, 2) := by decide +kernel
theorem dd_Md_init_33 : decode (mm_Md_init).2.1 33 = .ok (.putfield 19, 3) := by decide +kernel
theorem dd_Md_init_36 : decode (mm_Md_init).2.1 36 = .ok (.aload_n 0, 1) := by decide +kernel
theorem dd_Md_init_37 : decode (mm_Md_init).2.1 37 = .ok (.bipush 48, 2) := by decide +kernel
theorem dd_Md_init_39 : decode (mm_Md_init).2.1 39 = .ok (.newarray .int, 2) := by decide +kernel
