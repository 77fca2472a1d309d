theorem dd_Md_checked_1 : decode (mm_Md_checked).2.1 1 = .ok (.istore_n 2, 1) := by decide +kernel
theorem dd_Md_checked_2 : decode (mm_Md_checked).2.1 2 = .ok (.bipush 7, 2) := by decide +kernel
theorem dd_Md_checked_4 : decode (mm_Md_checked).2.1 4 = .ok (.istore_n 3, 1) := by decide +kernel
theorem dd_Md_checked_5 : decode (mm_Md_checked).2.1 5 = .ok (.iload_n 3, 1) := by decide +kernel
theorem dd_Md_checked_6 : decode (mm_Md_checked).2.1 6 = .ok (.ifCond .lt 40, 3) := by decide +kernel
theorem dd_Md_checked_9 : decode (mm_Md_checked).2.1 9 = .ok (.iload_n 1, 1) := by decide +kernel
theorem dd_Md_checked_10 : decode (mm_Md_checked).2.1 10 = .ok (.iload_n 3, 1) := by decide +kernel
theorem dd_Md_checked_11 : decode (mm_Md_checked).2.1 11 = .ok (.ishr, 1) := by decide +kernel
theorem dd_Md_checked_12 : decode (mm_Md_checked).2.1 12 = .ok (.iload_n 2, 1) := by decide +kernel
theorem dd_Md_checked_13 : decode (mm_Md_checked).2.1 13 = .ok (.bipush 15, 2) := by decide +kernel
theorem dd_Md_checked_15 : decode (mm_Md_checked).2.1 15 = .ok (.ishr, 1) := by decide +kernel
theorem dd_Md_checked_16 : decode (mm_Md_checked).2.1 16 = .ok (.ixor, 1) := by decide +kernel
theorem dd_Md_checked_17 : decode (mm_Md_checked).2.1 17 = .ok (.iconst 1, 1) := by decide +kernel
theorem dd_Md_checked_18 : decode (mm_Md_checked).2.1 18 = .ok (.iand, 1) := by decide +kernel
theorem dd_Md_checked_19 : decode (mm_Md_checked).2.1 19 = .ok (.istore 4, 2) := by decide +kernel
theorem dd_Md_checked_21 : decode (mm_Md_checked).2.1 21 = .ok (.iload_n 2, 1) := by decide +kernel
theorem dd_Md_checked_22 : decode (mm_Md_checked).2.1 22 = .ok (.iconst 2, 1) := by decide +kernel
theorem dd_Md_checked_23 : decode (mm_Md_checked).2.1 23 = .ok (.imul, 1) := by decide +kernel
theorem dd_Md_checked_24 : decode (mm_Md_checked).2.1 24 = .ok (.ldc 92, 2) := by decide +kernel
theorem dd_Md_checked_26 : decode (mm_Md_checked).2.1 26 = .ok (.iand, 1) := by decide +kernel
theorem dd_Md_checked_27 : decode (mm_Md_checked).2.1 27 = .ok (.istore_n 2, 1) := by decide +kernel
theorem dd_Md_checked_28 : decode (mm_Md_checked).2.1 28 = .ok (.iload 4, 2) := by decide +kernel
theorem dd_Md_checked_30 : decode (mm_Md_checked).2.1 30 = .ok (.iconst 1, 1) := by decide +kernel
theorem dd_Md_checked_31 : decode (mm_Md_checked).2.1 31 = .ok (.if_icmp .ne 9, 3) := by decide +kernel
theorem dd_Md_checked_34 : decode (mm_Md_checked).2.1 34 = .ok (.iload_n 2, 1) := by decide +kernel
theorem dd_Md_checked_35 : decode (mm_Md_checked).2.1 35 = .ok (.sipush 4129, 3) := by decide +kernel
theorem dd_Md_checked_38 : decode (mm_Md_checked).2.1 38 = .ok (.ixor, 1) := by decide +kernel
theorem dd_Md_checked_39 : decode (mm_Md_checked).2.1 39 = .ok (.istore_n 2, 1) := by decide +kernel
theorem dd_Md_checked_40 : decode (mm_Md_checked).2.1 40 = .ok (.iinc 3 (-1), 3) := by decide +kernel
theorem dd_Md_checked_43 : decode (mm_Md_checked).2.1 43 = .ok (.goto (-38), 3) := by decide +kernel
theorem dd_Md_checked_46 : decode (mm_Md_checked).2.1 46 = .ok (.iload_n 2, 1) := by decide +kernel
theorem dd_Md_checked_47 : decode (mm_Md_checked).2.1 47 = .ok (.ireturn, 1) := by decide +kernel
theorem dd_Md_sayTwo_0 : decode (mm_Md_sayTwo).2.1 0 = .ok (.aload_n 0, 1) := by decide +kernel
theorem dd_Md_sayTwo_1 : decode (mm_Md_sayTwo).2.1 1 = .ok (.iload_n 1, 1) := by decide +kernel
theorem dd_Md_sayTwo_2 : decode (mm_Md_sayTwo).2.1 2 = .ok (.bipush 8, 2) := by decide +kernel
theorem dd_Md_sayTwo_4 : decode (mm_Md_sayTwo).2.1 4 = .ok (.ishr, 1) := by decide +kernel
theorem dd_Md_sayTwo_5 : decode (mm_Md_sayTwo).2.1 5 = .ok (.invokevirtual 99, 3) := by decide +kernel
theorem dd_Md_sayTwo_8 : decode (mm_Md_sayTwo).2.1 8 = .ok (.aload_n 0, 1) := by decide +kernel
theorem dd_Md_sayTwo_9 : decode (mm_Md_sayTwo).2.1 9 = .ok (.iload_n 1, 1) := by decide +kernel
theorem dd_Md_sayTwo_10 : decode (mm_Md_sayTwo).2.1 10 = .ok (.sipush 255, 3) := by decide +kernel
theorem dd_Md_sayTwo_13 : decode (mm_Md_sayTwo).2.1 13 = .ok (.iand, 1) := by decide +kernel
theorem dd_Md_sayTwo_14 : decode (mm_Md_sayTwo).2.1 14 = .ok (.invokevirtual 99, 3) := by decide +kernel
theorem dd_Md_sayTwo_17 : decode (mm_Md_sayTwo).2.1 17 = .ok (.return_, 1) := by decide +kernel
theorem dd_Md_sayRow_0 : decode (mm_Md_sayRow).2.1 0 = .ok (.iconst 0, 1) := by decide +kernel
theorem dd_Md_sayRow_1 : decode (mm_Md_sayRow).2.1 1 = .ok (.istore_n 1, 1) := by decide +kernel
theorem dd_Md_sayRow_2 : decode (mm_Md_sayRow).2.1 2 = .ok (.iload_n 1, 1) := by decide +kernel
theorem dd_Md_sayRow_3 : decode (mm_Md_sayRow).2.1 3 = .ok (.aload_n 0, 1) := by decide +kernel
theorem dd_Md_sayRow_4 : decode (mm_Md_sayRow).2.1 4 = .ok (.getfield 67, 3) := by decide +kernel
theorem dd_Md_sayRow_7 : decode (mm_Md_sayRow).2.1 7 = .ok (.if_icmp .ge 19, 3) := by decide +kernel
theorem dd_Md_sayRow_10 : decode (mm_Md_sayRow).2.1 10 = .ok (.aload_n 0, 1) := by decide +kernel
theorem dd_Md_sayRow_11 : decode (mm_Md_sayRow).2.1 11 = .ok (.aload_n 0, 1) := by decide +kernel
theorem dd_Md_sayRow_12 : decode (mm_Md_sayRow).2.1 12 = .ok (.getfield 47, 3) := by decide +kernel
theorem dd_Md_sayRow_15 : decode (mm_Md_sayRow).2.1 15 = .ok (.iload_n 1, 1) := by decide +kernel
theorem dd_Md_sayRow_16 : decode (mm_Md_sayRow).2.1 16 = .ok (.iaload, 1) := by decide +kernel
theorem dd_Md_sayRow_17 : decode (mm_Md_sayRow).2.1 17 = .ok (.invokevirtual 99, 3) := by decide +kernel
theorem dd_Md_sayRow_20 : decode (mm_Md_sayRow).2.1 20 = .ok (.iinc 1 1, 3) := by decide +kernel
theorem dd_Md_sayRow_23 : decode (mm_Md_sayRow).2.1 23 = .ok (.goto (-21), 3) := by decide +kernel
theorem dd_Md_sayRow_26 : decode (mm_Md_sayRow).2.1 26 = .ok (.return_, 1) := by decide +kernel
theorem dd_Md_index_0 : decode (mm_Md_index).2.1 0 = .ok (.aload_n 0, 1) := by decide +kernel
theorem dd_Md_index_1 : decode (mm_Md_index).2.1 1 = .ok (.bipush 73, 2) := by decide +kernel
theorem dd_Md_index_3 : decode (mm_Md_index).2.1 3 = .ok (.invokevirtual 99, 3) := by decide +kernel
theorem dd_Md_index_6 : decode (mm_Md_index).2.1 6 = .ok (.iconst 0, 1) := by decide +kernel
theorem dd_Md_index_7 : decode (mm_Md_index).2.1 7 = .ok (.istore_n 1, 1) := by decide +kernel
theorem dd_Md_index_8 : decode (mm_Md_index).2.1 8 = .ok (.iload_n 1, 1) := by decide +kernel
theorem dd_Md_index_9 : decode (mm_Md_index).2.1 9 = .ok (.aload_n 0, 1) := by decide +kernel
theorem dd_Md_index_10 : decode (mm_Md_index).2.1 10 = .ok (.getfield 64, 3) := by decide +kernel
theorem dd_Md_index_13 : decode (mm_Md_index).2.1 13 = .ok (.if_icmp .ge 18, 3) := by decide +kernel
theorem dd_Md_index_16 : decode (mm_Md_index).2.1 16 = .ok (.aload_n 0, 1) := by decide +kernel
theorem dd_Md_index_17 : decode (mm_Md_index).2.1 17 = .ok (.iload_n 1, 1) := by decide +kernel
theorem dd_Md_index_18 : decode (mm_Md_index).2.1 18 = .ok (.invokevirtual 102, 3) := by decide +kernel
theorem dd_Md_index_21 : decode (mm_Md_index).2.1 21 = .ok (.aload_n 0, 1) := by decide +kernel
theorem dd_Md_index_22 : decode (mm_Md_index).2.1 22 = .ok (.invokevirtual 115, 3) := by decide +kernel
theorem dd_Md_index_25 : decode (mm_Md_index).2.1 25 = .ok (.iinc 1 1, 3) := by decide +kernel
theorem dd_Md_index_28 : decode (mm_Md_index).2.1 28 = .ok (.goto (-20), 3) := by decide +kernel
theorem dd_Md_index_31 : decode (mm_Md_index).2.1 31 = .ok (.aload_n 0, 1) := by decide +kernel
theorem dd_Md_index_32 : decode (mm_Md_index).2.1 32 = .ok (.getfield 96, 3) := by decide +kernel
theorem dd_Md_index_35 : decode (mm_Md_index).2.1 35 = .ok (.istore_n 1, 1) := by decide +kernel
theorem dd_Md_index_36 : decode (mm_Md_index).2.1 36 = .ok (.iconst 1, 1) := by decide +kernel
theorem dd_Md_index_37 : decode (mm_Md_index).2.1 37 = .ok (.istore_n 2, 1) := by decide +kernel
theorem dd_Md_index_38 : decode (mm_Md_index).2.1 38 = .ok (.iconst 0, 1) := by decide +kernel
theorem dd_Md_index_39 : decode (mm_Md_index).2.1 39 = .ok (.istore_n 3, 1) := by decide +kernel
theorem dd_Md_index_40 : decode (mm_Md_index).2.1 40 = .ok (.iload_n 3, 1) := by decide +kernel
theorem dd_Md_index_41 : decode (mm_Md_index).2.1 41 = .ok (.aload_n 0, 1) := by decide +kernel
theorem dd_Md_index_42 : decode (mm_Md_index).2.1 42 = .ok (.getfield 64, 3) := by decide +kernel
theorem dd_Md_index_45 : decode (mm_Md_index).2.1 45 = .ok (.if_icmp .ge 58, 3) := by decide +kernel
theorem dd_Md_index_48 : decode (mm_Md_index).2.1 48 = .ok (.aload_n 0, 1) := by decide +kernel
theorem dd_Md_index_49 : decode (mm_Md_index).2.1 49 = .ok (.iload_n 3, 1) := by decide +kernel
theorem dd_Md_index_50 : decode (mm_Md_index).2.1 50 = .ok (.invokevirtual 102, 3) := by decide +kernel
theorem dd_Md_index_53 : decode (mm_Md_index).2.1 53 = .ok (.aload_n 0, 1) := by decide +kernel
theorem dd_Md_index_54 : decode (mm_Md_index).2.1 54 = .ok (.iload_n 3, 1) := by decide +kernel
theorem dd_Md_index_55 : decode (mm_Md_index).2.1 55 = .ok (.invokevirtual 105, 3) := by decide +kernel
theorem dd_Md_index_58 : decode (mm_Md_index).2.1 58 = .ok (.aload_n 0, 1) := by decide +kernel
theorem dd_Md_index_59 : decode (mm_Md_index).2.1 59 = .ok (.iload_n 2, 1) := by decide +kernel
theorem dd_Md_index_60 : decode (mm_Md_index).2.1 60 = .ok (.invokevirtual 112, 3) := by decide +kernel
theorem dd_Md_index_63 : decode (mm_Md_index).2.1 63 = .ok (.aload_n 0, 1) := by decide +kernel
theorem dd_Md_index_64 : decode (mm_Md_index).2.1 64 = .ok (.aload_n 0, 1) := by decide +kernel
theorem dd_Md_index_65 : decode (mm_Md_index).2.1 65 = .ok (.getfield 67, 3) := by decide +kernel
theorem dd_Md_index_68 : decode (mm_Md_index).2.1 68 = .ok (.invokevirtual 99, 3) := by decide +kernel
theorem dd_Md_index_71 : decode (mm_Md_index).2.1 71 = .ok (.aload_n 0, 1) := by decide +kernel
theorem dd_Md_index_72 : decode (mm_Md_index).2.1 72 = .ok (.aload_n 0, 1) := by decide +kernel
theorem dd_Md_index_73 : decode (mm_Md_index).2.1 73 = .ok (.getfield 25, 3) := by decide +kernel
theorem dd_Md_index_76 : decode (mm_Md_index).2.1 76 = .ok (.iload_n 3, 1) := by decide +kernel
theorem dd_Md_index_77 : decode (mm_Md_index).2.1 77 = .ok (.iaload, 1) := by decide +kernel
theorem dd_Md_index_78 : decode (mm_Md_index).2.1 78 = .ok (.invokevirtual 99, 3) := by decide +kernel
theorem dd_Md_index_81 : decode (mm_Md_index).2.1 81 = .ok (.aload_n 0, 1) := by decide +kernel
theorem dd_Md_index_82 : decode (mm_Md_index).2.1 82 = .ok (.aload_n 0, 1) := by decide +kernel
theorem dd_Md_index_83 : decode (mm_Md_index).2.1 83 = .ok (.iload_n 3, 1) := by decide +kernel
theorem dd_Md_index_84 : decode (mm_Md_index).2.1 84 = .ok (.invokevirtual 108, 3) := by decide +kernel
theorem dd_Md_index_87 : decode (mm_Md_index).2.1 87 = .ok (.invokevirtual 112, 3) := by decide +kernel
theorem dd_Md_index_90 : decode (mm_Md_index).2.1 90 = .ok (.iload_n 2, 1) := by decide +kernel
theorem dd_Md_index_91 : decode (mm_Md_index).2.1 91 = .ok (.aload_n 0, 1) := by decide +kernel
theorem dd_Md_index_92 : decode (mm_Md_index).2.1 92 = .ok (.getfield 67, 3) := by decide +kernel
theorem dd_Md_index_95 : decode (mm_Md_index).2.1 95 = .ok (.iadd, 1) := by decide +kernel
theorem dd_Md_index_96 : decode (mm_Md_index).2.1 96 = .ok (.istore_n 2, 1) := by decide +kernel
theorem dd_Md_index_97 : decode (mm_Md_index).2.1 97 = .ok (.iinc 3 1, 3) := by decide +kernel
theorem dd_Md_index_100 : decode (mm_Md_index).2.1 100 = .ok (.goto (-60), 3) := by decide +kernel
theorem dd_Md_index_103 : decode (mm_Md_index).2.1 103 = .ok (.ldc 92, 2) := by decide +kernel
theorem dd_Md_index_105 : decode (mm_Md_index).2.1 105 = .ok (.istore_n 3, 1) := by decide +kernel
theorem dd_Md_index_106 : decode (mm_Md_index).2.1 106 = .ok (.iload_n 1, 1) := by decide +kernel
theorem dd_Md_index_107 : decode (mm_Md_index).2.1 107 = .ok (.istore 4, 2) := by decide +kernel
theorem dd_Md_index_109 : decode (mm_Md_index).2.1 109 = .ok (.iload 4, 2) := by decide +kernel
theorem dd_Md_index_111 : decode (mm_Md_index).2.1 111 = .ok (.aload_n 0, 1) := by decide +kernel
theorem dd_Md_index_112 : decode (mm_Md_index).2.1 112 = .ok (.getfield 96, 3) := by decide +kernel
theorem dd_Md_index_115 : decode (mm_Md_index).2.1 115 = .ok (.if_icmp .ge 21, 3) := by decide +kernel
theorem dd_Md_index_118 : decode (mm_Md_index).2.1 118 = .ok (.iload_n 3, 1) := by decide +kernel
theorem dd_Md_index_119 : decode (mm_Md_index).2.1 119 = .ok (.aload_n 0, 1) := by decide +kernel
theorem dd_Md_index_120 : decode (mm_Md_index).2.1 120 = .ok (.getfield 34, 3) := by decide +kernel
theorem dd_Md_index_123 : decode (mm_Md_index).2.1 123 = .ok (.iload 4, 2) := by decide +kernel
theorem dd_Md_index_125 : decode (mm_Md_index).2.1 125 = .ok (.iaload, 1) := by decide +kernel
theorem dd_Md_index_126 : decode (mm_Md_index).2.1 126 = .ok (.invokestatic 93, 3) := by decide +kernel
theorem dd_Md_index_129 : decode (mm_Md_index).2.1 129 = .ok (.istore_n 3, 1) := by decide +kernel
theorem dd_Md_index_130 : decode (mm_Md_index).2.1 130 = .ok (.iinc 4 1, 3) := by decide +kernel
theorem dd_Md_index_133 : decode (mm_Md_index).2.1 133 = .ok (.goto (-24), 3) := by decide +kernel
theorem dd_Md_index_136 : decode (mm_Md_index).2.1 136 = .ok (.aload_n 0, 1) := by decide +kernel
theorem dd_Md_index_137 : decode (mm_Md_index).2.1 137 = .ok (.bipush 88, 2) := by decide +kernel
theorem dd_Md_index_139 : decode (mm_Md_index).2.1 139 = .ok (.invokevirtual 99, 3) := by decide +kernel
theorem dd_Md_index_142 : decode (mm_Md_index).2.1 142 = .ok (.aload_n 0, 1) := by decide +kernel
theorem dd_Md_index_143 : decode (mm_Md_index).2.1 143 = .ok (.aload_n 0, 1) := by decide +kernel
theorem dd_Md_index_144 : decode (mm_Md_index).2.1 144 = .ok (.getfield 64, 3) := by decide +kernel
theorem dd_Md_index_147 : decode (mm_Md_index).2.1 147 = .ok (.invokevirtual 99, 3) := by decide +kernel
theorem dd_Md_index_150 : decode (mm_Md_index).2.1 150 = .ok (.aload_n 0, 1) := by decide +kernel
theorem dd_Md_index_151 : decode (mm_Md_index).2.1 151 = .ok (.iload_n 1, 1) := by decide +kernel
theorem dd_Md_index_152 : decode (mm_Md_index).2.1 152 = .ok (.invokevirtual 112, 3) := by decide +kernel
theorem dd_Md_index_155 : decode (mm_Md_index).2.1 155 = .ok (.aload_n 0, 1) := by decide +kernel
theorem dd_Md_index_156 : decode (mm_Md_index).2.1 156 = .ok (.iload_n 3, 1) := by decide +kernel
theorem dd_Md_index_157 : decode (mm_Md_index).2.1 157 = .ok (.invokevirtual 112, 3) := by decide +kernel
theorem dd_Md_index_160 : decode (mm_Md_index).2.1 160 = .ok (.return_, 1) := by decide +kernel
theorem dd_Md_put_0 : decode (mm_Md_put).2.1 0 = .ok (.iload_n 1, 1) := by decide +kernel
theorem dd_Md_put_1 : decode (mm_Md_put).2.1 1 = .ok (.iconst 0, 1) := by decide +kernel
theorem dd_Md_put_2 : decode (mm_Md_put).2.1 2 = .ok (.aload_n 0, 1) := by decide +kernel
theorem dd_Md_put_3 : decode (mm_Md_put).2.1 3 = .ok (.getfield 124, 3) := by decide +kernel
theorem dd_Md_put_6 : decode (mm_Md_put).2.1 6 = .ok (.invokestatic 50, 3) := by decide +kernel
theorem dd_Md_put_9 : decode (mm_Md_put).2.1 9 = .ok (.ifCond .eq 14, 3) := by decide +kernel
theorem dd_Md_put_12 : decode (mm_Md_put).2.1 12 = .ok (.iload_n 2, 1) := by decide +kernel
theorem dd_Md_put_13 : decode (mm_Md_put).2.1 13 = .ok (.iconst 0, 1) := by decide +kernel
theorem dd_Md_put_14 : decode (mm_Md_put).2.1 14 = .ok (.sipush 255, 3) := by decide +kernel
theorem dd_Md_put_17 : decode (mm_Md_put).2.1 17 = .ok (.invokestatic 50, 3) := by decide +kernel
theorem dd_Md_put_20 : decode (mm_Md_put).2.1 20 = .ok (.ifCond .ne 5, 3) := by decide +kernel
theorem dd_Md_put_23 : decode (mm_Md_put).2.1 23 = .ok (.iconst (-1), 1) := by decide +kernel
theorem dd_Md_put_24 : decode (mm_Md_put).2.1 24 = .ok (.ireturn, 1) := by decide +kernel
theorem dd_Md_put_25 : decode (mm_Md_put).2.1 25 = .ok (.iload_n 1, 1) := by decide +kernel
theorem dd_Md_put_26 : decode (mm_Md_put).2.1 26 = .ok (.sipush 600, 3) := by decide +kernel
theorem dd_Md_put_29 : decode (mm_Md_put).2.1 29 = .ok (.if_icmp .ne 6, 3) := by decide +kernel
theorem dd_Md_put_32 : decode (mm_Md_put).2.1 32 = .ok (.bipush (-2), 2) := by decide +kernel
theorem dd_Md_put_34 : decode (mm_Md_put).2.1 34 = .ok (.ireturn, 1) := by decide +kernel
theorem dd_Md_put_35 : decode (mm_Md_put).2.1 35 = .ok (.aload_n 0, 1) := by decide +kernel
theorem dd_Md_put_36 : decode (mm_Md_put).2.1 36 = .ok (.getfield 31, 3) := by decide +kernel
theorem dd_Md_put_39 : decode (mm_Md_put).2.1 39 = .ok (.iload_n 1, 1) := by decide +kernel
theorem dd_Md_put_40 : decode (mm_Md_put).2.1 40 = .ok (.iload_n 2, 1) := by decide +kernel
theorem dd_Md_put_41 : decode (mm_Md_put).2.1 41 = .ok (.iastore, 1) := by decide +kernel
theorem dd_Md_put_42 : decode (mm_Md_put).2.1 42 = .ok (.iload_n 1, 1) := by decide +kernel
theorem dd_Md_put_43 : decode (mm_Md_put).2.1 43 = .ok (.aload_n 0, 1) := by decide +kernel
theorem dd_Md_put_44 : decode (mm_Md_put).2.1 44 = .ok (.getfield 124, 3) := by decide +kernel
theorem dd_Md_put_47 : decode (mm_Md_put).2.1 47 = .ok (.if_icmp .ne 13, 3) := by decide +kernel
theorem dd_Md_put_50 : decode (mm_Md_put).2.1 50 = .ok (.aload_n 0, 1) := by decide +kernel
theorem dd_Md_put_51 : decode (mm_Md_put).2.1 51 = .ok (.dup, 1) := by decide +kernel
theorem dd_Md_put_52 : decode (mm_Md_put).2.1 52 = .ok (.getfield 124, 3) := by decide +kernel
theorem dd_Md_put_55 : decode (mm_Md_put).2.1 55 = .ok (.iconst 1, 1) := by decide +kernel
theorem dd_Md_put_56 : decode (mm_Md_put).2.1 56 = .ok (.iadd, 1) := by decide +kernel
theorem dd_Md_put_57 : decode (mm_Md_put).2.1 57 = .ok (.putfield 124, 3) := by decide +kernel
theorem dd_Md_put_60 : decode (mm_Md_put).2.1 60 = .ok (.aload_n 0, 1) := by decide +kernel
theorem dd_Md_put_61 : decode (mm_Md_put).2.1 61 = .ok (.iconst 0, 1) := by decide +kernel
theorem dd_Md_put_62 : decode (mm_Md_put).2.1 62 = .ok (.putfield 127, 3) := by decide +kernel
theorem dd_Md_put_65 : decode (mm_Md_put).2.1 65 = .ok (.aload_n 0, 1) := by decide +kernel
theorem dd_Md_put_66 : decode (mm_Md_put).2.1 66 = .ok (.getfield 124, 3) := by decide +kernel
theorem dd_Md_put_69 : decode (mm_Md_put).2.1 69 = .ok (.ireturn, 1) := by decide +kernel
theorem dd_Md_cut_0 : decode (mm_Md_cut).2.1 0 = .ok (.iload_n 1, 1) := by decide +kernel
theorem dd_Md_cut_1 : decode (mm_Md_cut).2.1 1 = .ok (.iconst 0, 1) := by decide +kernel
theorem dd_Md_cut_2 : decode (mm_Md_cut).2.1 2 = .ok (.aload_n 0, 1) := by decide +kernel
theorem dd_Md_cut_3 : decode (mm_Md_cut).2.1 3 = .ok (.getfield 124, 3) := by decide +kernel
theorem dd_Md_cut_6 : decode (mm_Md_cut).2.1 6 = .ok (.invokestatic 50, 3) := by decide +kernel
theorem dd_Md_cut_9 : decode (mm_Md_cut).2.1 9 = .ok (.ifCond .ne 5, 3) := by decide +kernel
theorem dd_Md_cut_12 : decode (mm_Md_cut).2.1 12 = .ok (.iconst (-1), 1) := by decide +kernel
theorem dd_Md_cut_13 : decode (mm_Md_cut).2.1 13 = .ok (.ireturn, 1) := by decide +kernel
theorem dd_Md_cut_14 : decode (mm_Md_cut).2.1 14 = .ok (.aload_n 0, 1) := by decide +kernel
theorem dd_Md_cut_15 : decode (mm_Md_cut).2.1 15 = .ok (.iload_n 1, 1) := by decide +kernel
theorem dd_Md_cut_16 : decode (mm_Md_cut).2.1 16 = .ok (.putfield 124, 3) := by decide +kernel
theorem dd_Md_cut_19 : decode (mm_Md_cut).2.1 19 = .ok (.aload_n 0, 1) := by decide +kernel
theorem dd_Md_cut_20 : decode (mm_Md_cut).2.1 20 = .ok (.iconst 0, 1) := by decide +kernel
theorem dd_Md_cut_21 : decode (mm_Md_cut).2.1 21 = .ok (.putfield 127, 3) := by decide +kernel
theorem dd_Md_cut_24 : decode (mm_Md_cut).2.1 24 = .ok (.iload_n 1, 1) := by decide +kernel
theorem dd_Md_cut_25 : decode (mm_Md_cut).2.1 25 = .ok (.ireturn, 1) := by decide +kernel
theorem dd_Md_image_0 : decode (mm_Md_image).2.1 0 = .ok (.iload_n 1, 1) := by decide +kernel
theorem dd_Md_image_1 : decode (mm_Md_image).2.1 1 = .ok (.iconst 0, 1) := by decide +kernel
theorem dd_Md_image_2 : decode (mm_Md_image).2.1 2 = .ok (.aload_n 0, 1) := by decide +kernel
theorem dd_Md_image_3 : decode (mm_Md_image).2.1 3 = .ok (.getfield 124, 3) := by decide +kernel
theorem dd_Md_image_6 : decode (mm_Md_image).2.1 6 = .ok (.iconst 1, 1) := by decide +kernel
theorem dd_Md_image_7 : decode (mm_Md_image).2.1 7 = .ok (.isub, 1) := by decide +kernel
theorem dd_Md_image_8 : decode (mm_Md_image).2.1 8 = .ok (.invokestatic 50, 3) := by decide +kernel
theorem dd_Md_image_11 : decode (mm_Md_image).2.1 11 = .ok (.ifCond .eq 12, 3) := by decide +kernel
theorem dd_Md_image_14 : decode (mm_Md_image).2.1 14 = .ok (.aload_n 0, 1) := by decide +kernel
theorem dd_Md_image_15 : decode (mm_Md_image).2.1 15 = .ok (.getfield 31, 3) := by decide +kernel
theorem dd_Md_image_18 : decode (mm_Md_image).2.1 18 = .ok (.iload_n 1, 1) := by decide +kernel
theorem dd_Md_image_19 : decode (mm_Md_image).2.1 19 = .ok (.iaload, 1) := by decide +kernel
theorem dd_Md_image_20 : decode (mm_Md_image).2.1 20 = .ok (.goto 4, 3) := by decide +kernel
theorem dd_Md_image_23 : decode (mm_Md_image).2.1 23 = .ok (.iconst (-1), 1) := by decide +kernel
theorem dd_Md_image_24 : decode (mm_Md_image).2.1 24 = .ok (.ireturn, 1) := by decide +kernel
theorem dd_Md_open_0 : decode (mm_Md_open).2.1 0 = .ok (.aload_n 0, 1) := by decide +kernel
theorem dd_Md_open_1 : decode (mm_Md_open).2.1 1 = .ok (.iconst 0, 1) := by decide +kernel
theorem dd_Md_open_2 : decode (mm_Md_open).2.1 2 = .ok (.putfield 127, 3) := by decide +kernel
theorem dd_Md_open_5 : decode (mm_Md_open).2.1 5 = .ok (.aload_n 0, 1) := by decide +kernel
theorem dd_Md_open_6 : decode (mm_Md_open).2.1 6 = .ok (.iconst (-1), 1) := by decide +kernel
theorem dd_Md_open_7 : decode (mm_Md_open).2.1 7 = .ok (.putfield 40, 3) := by decide +kernel
theorem dd_Md_open_10 : decode (mm_Md_open).2.1 10 = .ok (.aload_n 0, 1) := by decide +kernel
theorem dd_Md_open_11 : decode (mm_Md_open).2.1 11 = .ok (.getfield 124, 3) := by decide +kernel
theorem dd_Md_open_14 : decode (mm_Md_open).2.1 14 = .ok (.ifCond .ne 7, 3) := by decide +kernel
theorem dd_Md_open_17 : decode (mm_Md_open).2.1 17 = .ok (.iconst 0, 1) := by decide +kernel
theorem dd_Md_open_18 : decode (mm_Md_open).2.1 18 = .ok (.goto 9, 3) := by decide +kernel
theorem dd_Md_open_21 : decode (mm_Md_open).2.1 21 = .ok (.aload_n 0, 1) := by decide +kernel
theorem dd_Md_open_22 : decode (mm_Md_open).2.1 22 = .ok (.getfield 31, 3) := by decide +kernel
theorem dd_Md_open_25 : decode (mm_Md_open).2.1 25 = .ok (.iconst 0, 1) := by decide +kernel
theorem dd_Md_open_26 : decode (mm_Md_open).2.1 26 = .ok (.iaload, 1) := by decide +kernel
theorem dd_Md_open_27 : decode (mm_Md_open).2.1 27 = .ok (.istore_n 1, 1) := by decide +kernel
theorem dd_Md_open_28 : decode (mm_Md_open).2.1 28 = .ok (.iload_n 1, 1) := by decide +kernel
theorem dd_Md_open_29 : decode (mm_Md_open).2.1 29 = .ok (.bipush 73, 2) := by decide +kernel
theorem dd_Md_open_31 : decode (mm_Md_open).2.1 31 = .ok (.if_icmp .ne 10, 3) := by decide +kernel
theorem dd_Md_open_34 : decode (mm_Md_open).2.1 34 = .ok (.aload_n 0, 1) := by decide +kernel
theorem dd_Md_open_35 : decode (mm_Md_open).2.1 35 = .ok (.invokevirtual 146, 3) := by decide +kernel
theorem dd_Md_open_38 : decode (mm_Md_open).2.1 38 = .ok (.goto 29, 3) := by decide +kernel
theorem dd_Md_open_41 : decode (mm_Md_open).2.1 41 = .ok (.iload_n 1, 1) := by decide +kernel
theorem dd_Md_open_42 : decode (mm_Md_open).2.1 42 = .ok (.bipush 67, 2) := by decide +kernel
theorem dd_Md_open_44 : decode (mm_Md_open).2.1 44 = .ok (.if_icmp .eq 9, 3) := by decide +kernel
theorem dd_Md_open_47 : decode (mm_Md_open).2.1 47 = .ok (.iload_n 1, 1) := by decide +kernel
theorem dd_Md_open_48 : decode (mm_Md_open).2.1 48 = .ok (.bipush 69, 2) := by decide +kernel
theorem dd_Md_open_50 : decode (mm_Md_open).2.1 50 = .ok (.if_icmp .ne 10, 3) := by decide +kernel
theorem dd_Md_open_53 : decode (mm_Md_open).2.1 53 = .ok (.aload_n 0, 1) := by decide +kernel
theorem dd_Md_open_54 : decode (mm_Md_open).2.1 54 = .ok (.invokevirtual 150, 3) := by decide +kernel
theorem dd_Md_open_57 : decode (mm_Md_open).2.1 57 = .ok (.goto 10, 3) := by decide +kernel
theorem dd_Md_open_60 : decode (mm_Md_open).2.1 60 = .ok (.aload_n 0, 1) := by decide +kernel
theorem dd_Md_open_61 : decode (mm_Md_open).2.1 61 = .ok (.bipush (-4), 2) := by decide +kernel
theorem dd_Md_open_63 : decode (mm_Md_open).2.1 63 = .ok (.iconst 0, 1) := by decide +kernel
theorem dd_Md_open_64 : decode (mm_Md_open).2.1 64 = .ok (.invokevirtual 130, 3) := by decide +kernel
theorem dd_Md_open_67 : decode (mm_Md_open).2.1 67 = .ok (.istore_n 2, 1) := by decide +kernel
theorem dd_Md_open_68 : decode (mm_Md_open).2.1 68 = .ok (.iload_n 2, 1) := by decide +kernel
theorem dd_Md_open_69 : decode (mm_Md_open).2.1 69 = .ok (.ifCond .eq 8, 3) := by decide +kernel
theorem dd_Md_open_72 : decode (mm_Md_open).2.1 72 = .ok (.aload_n 0, 1) := by decide +kernel
theorem dd_Md_open_73 : decode (mm_Md_open).2.1 73 = .ok (.iconst 0, 1) := by decide +kernel
theorem dd_Md_open_74 : decode (mm_Md_open).2.1 74 = .ok (.putfield 127, 3) := by decide +kernel
theorem dd_Md_open_77 : decode (mm_Md_open).2.1 77 = .ok (.iload_n 2, 1) := by decide +kernel
theorem dd_Md_open_78 : decode (mm_Md_open).2.1 78 = .ok (.ifCond .eq 7, 3) := by decide +kernel
theorem dd_Md_open_81 : decode (mm_Md_open).2.1 81 = .ok (.iload_n 2, 1) := by decide +kernel
theorem dd_Md_open_82 : decode (mm_Md_open).2.1 82 = .ok (.goto 7, 3) := by decide +kernel
theorem dd_Md_open_85 : decode (mm_Md_open).2.1 85 = .ok (.aload_n 0, 1) := by decide +kernel
theorem dd_Md_open_86 : decode (mm_Md_open).2.1 86 = .ok (.getfield 127, 3) := by decide +kernel
theorem dd_Md_open_89 : decode (mm_Md_open).2.1 89 = .ok (.ireturn, 1) := by decide +kernel
theorem dd_Md_openIndex_0 : decode (mm_Md_openIndex).2.1 0 = .ok (.aload_n 0, 1) := by decide +kernel
theorem dd_Md_openIndex_1 : decode (mm_Md_openIndex).2.1 1 = .ok (.getfield 124, 3) := by decide +kernel
theorem dd_Md_openIndex_4 : decode (mm_Md_openIndex).2.1 4 = .ok (.bipush 7, 2) := by decide +kernel
theorem dd_Md_openIndex_6 : decode (mm_Md_openIndex).2.1 6 = .ok (.if_icmp .ge 14, 3) := by decide +kernel
theorem dd_Md_openIndex_9 : decode (mm_Md_openIndex).2.1 9 = .ok (.aload_n 0, 1) := by decide +kernel
theorem dd_Md_openIndex_10 : decode (mm_Md_openIndex).2.1 10 = .ok (.bipush (-3), 2) := by decide +kernel
theorem dd_Md_openIndex_12 : decode (mm_Md_openIndex).2.1 12 = .ok (.aload_n 0, 1) := by decide +kernel
theorem dd_Md_openIndex_13 : decode (mm_Md_openIndex).2.1 13 = .ok (.getfield 124, 3) := by decide +kernel
theorem dd_Md_openIndex_16 : decode (mm_Md_openIndex).2.1 16 = .ok (.invokevirtual 130, 3) := by decide +kernel
theorem dd_Md_openIndex_19 : decode (mm_Md_openIndex).2.1 19 = .ok (.ireturn, 1) := by decide +kernel
theorem dd_Md_openIndex_20 : decode (mm_Md_openIndex).2.1 20 = .ok (.aload_n 0, 1) := by decide +kernel
theorem dd_Md_openIndex_21 : decode (mm_Md_openIndex).2.1 21 = .ok (.getfield 124, 3) := by decide +kernel
theorem dd_Md_openIndex_24 : decode (mm_Md_openIndex).2.1 24 = .ok (.bipush 6, 2) := by decide +kernel
theorem dd_Md_openIndex_26 : decode (mm_Md_openIndex).2.1 26 = .ok (.isub, 1) := by decide +kernel
theorem dd_Md_openIndex_27 : decode (mm_Md_openIndex).2.1 27 = .ok (.istore_n 1, 1) := by decide +kernel
theorem dd_Md_openIndex_28 : decode (mm_Md_openIndex).2.1 28 = .ok (.aload_n 0, 1) := by decide +kernel
theorem dd_Md_openIndex_29 : decode (mm_Md_openIndex).2.1 29 = .ok (.getfield 31, 3) := by decide +kernel
theorem dd_Md_openIndex_32 : decode (mm_Md_openIndex).2.1 32 = .ok (.iload_n 1, 1) := by decide +kernel
theorem dd_Md_openIndex_33 : decode (mm_Md_openIndex).2.1 33 = .ok (.iaload, 1) := by decide +kernel
theorem dd_Md_openIndex_34 : decode (mm_Md_openIndex).2.1 34 = .ok (.bipush 88, 2) := by decide +kernel
theorem dd_Md_openIndex_36 : decode (mm_Md_openIndex).2.1 36 = .ok (.if_icmp .eq 11, 3) := by decide +kernel
theorem dd_Md_openIndex_39 : decode (mm_Md_openIndex).2.1 39 = .ok (.aload_n 0, 1) := by decide +kernel
theorem dd_Md_openIndex_40 : decode (mm_Md_openIndex).2.1 40 = .ok (.bipush (-4), 2) := by decide +kernel
theorem dd_Md_openIndex_42 : decode (mm_Md_openIndex).2.1 42 = .ok (.iload_n 1, 1) := by decide +kernel
theorem dd_Md_openIndex_43 : decode (mm_Md_openIndex).2.1 43 = .ok (.invokevirtual 130, 3) := by decide +kernel
theorem dd_Md_openIndex_46 : decode (mm_Md_openIndex).2.1 46 = .ok (.ireturn, 1) := by decide +kernel
theorem dd_Md_openIndex_47 : decode (mm_Md_openIndex).2.1 47 = .ok (.aload_n 0, 1) := by decide +kernel
theorem dd_Md_openIndex_48 : decode (mm_Md_openIndex).2.1 48 = .ok (.getfield 31, 3) := by decide +kernel
theorem dd_Md_openIndex_51 : decode (mm_Md_openIndex).2.1 51 = .ok (.iload_n 1, 1) := by decide +kernel
theorem dd_Md_openIndex_52 : decode (mm_Md_openIndex).2.1 52 = .ok (.iconst 1, 1) := by decide +kernel
theorem dd_Md_openIndex_53 : decode (mm_Md_openIndex).2.1 53 = .ok (.iadd, 1) := by decide +kernel
theorem dd_Md_openIndex_54 : decode (mm_Md_openIndex).2.1 54 = .ok (.iaload, 1) := by decide +kernel
theorem dd_Md_openIndex_55 : decode (mm_Md_openIndex).2.1 55 = .ok (.bipush 6, 2) := by decide +kernel
theorem dd_Md_openIndex_57 : decode (mm_Md_openIndex).2.1 57 = .ok (.if_icmp .le 13, 3) := by decide +kernel
theorem dd_Md_openIndex_60 : decode (mm_Md_openIndex).2.1 60 = .ok (.aload_n 0, 1) := by decide +kernel
theorem dd_Md_openIndex_61 : decode (mm_Md_openIndex).2.1 61 = .ok (.bipush (-4), 2) := by decide +kernel
theorem dd_Md_openIndex_63 : decode (mm_Md_openIndex).2.1 63 = .ok (.iload_n 1, 1) := by decide +kernel
theorem dd_Md_openIndex_64 : decode (mm_Md_openIndex).2.1 64 = .ok (.iconst 1, 1) := by decide +kernel
theorem dd_Md_openIndex_65 : decode (mm_Md_openIndex).2.1 65 = .ok (.iadd, 1) := by decide +kernel
theorem dd_Md_openIndex_66 : decode (mm_Md_openIndex).2.1 66 = .ok (.invokevirtual 130, 3) := by decide +kernel
theorem dd_Md_openIndex_69 : decode (mm_Md_openIndex).2.1 69 = .ok (.ireturn, 1) := by decide +kernel
theorem dd_Md_openIndex_70 : decode (mm_Md_openIndex).2.1 70 = .ok (.aload_n 0, 1) := by decide +kernel
theorem dd_Md_openIndex_71 : decode (mm_Md_openIndex).2.1 71 = .ok (.iload_n 1, 1) := by decide +kernel
theorem dd_Md_openIndex_72 : decode (mm_Md_openIndex).2.1 72 = .ok (.iconst 2, 1) := by decide +kernel
theorem dd_Md_openIndex_73 : decode (mm_Md_openIndex).2.1 73 = .ok (.iadd, 1) := by decide +kernel
theorem dd_Md_openIndex_74 : decode (mm_Md_openIndex).2.1 74 = .ok (.invokevirtual 136, 3) := by decide +kernel
theorem dd_Md_openIndex_77 : decode (mm_Md_openIndex).2.1 77 = .ok (.istore_n 2, 1) := by decide +kernel
theorem dd_Md_openIndex_78 : decode (mm_Md_openIndex).2.1 78 = .ok (.iload_n 2, 1) := by decide +kernel
theorem dd_Md_openIndex_79 : decode (mm_Md_openIndex).2.1 79 = .ok (.iconst 1, 1) := by decide +kernel
theorem dd_Md_openIndex_80 : decode (mm_Md_openIndex).2.1 80 = .ok (.iload_n 1, 1) := by decide +kernel
theorem dd_Md_openIndex_81 : decode (mm_Md_openIndex).2.1 81 = .ok (.invokestatic 50, 3) := by decide +kernel
theorem dd_Md_openIndex_84 : decode (mm_Md_openIndex).2.1 84 = .ok (.ifCond .ne 13, 3) := by decide +kernel
theorem dd_Md_openIndex_87 : decode (mm_Md_openIndex).2.1 87 = .ok (.aload_n 0, 1) := by decide +kernel
theorem dd_Md_openIndex_88 : decode (mm_Md_openIndex).2.1 88 = .ok (.bipush (-4), 2) := by decide +kernel
theorem dd_Md_openIndex_90 : decode (mm_Md_openIndex).2.1 90 = .ok (.iload_n 1, 1) := by decide +kernel
theorem dd_Md_openIndex_91 : decode (mm_Md_openIndex).2.1 91 = .ok (.iconst 2, 1) := by decide +kernel
theorem dd_Md_openIndex_92 : decode (mm_Md_openIndex).2.1 92 = .ok (.iadd, 1) := by decide +kernel
theorem dd_Md_openIndex_93 : decode (mm_Md_openIndex).2.1 93 = .ok (.invokevirtual 130, 3) := by decide +kernel
theorem dd_Md_openIndex_96 : decode (mm_Md_openIndex).2.1 96 = .ok (.ireturn, 1) := by decide +kernel
theorem dd_Md_openIndex_97 : decode (mm_Md_openIndex).2.1 97 = .ok (.ldc 92, 2) := by decide +kernel
theorem dd_Md_openIndex_99 : decode (mm_Md_openIndex).2.1 99 = .ok (.istore_n 3, 1) := by decide +kernel
theorem dd_Md_openIndex_100 : decode (mm_Md_openIndex).2.1 100 = .ok (.iload_n 2, 1) := by decide +kernel
theorem dd_Md_openIndex_101 : decode (mm_Md_openIndex).2.1 101 = .ok (.istore 4, 2) := by decide +kernel
theorem dd_Md_openIndex_103 : decode (mm_Md_openIndex).2.1 103 = .ok (.iload 4, 2) := by decide +kernel
theorem dd_Md_openIndex_105 : decode (mm_Md_openIndex).2.1 105 = .ok (.iload_n 1, 1) := by decide +kernel
theorem dd_Md_openIndex_106 : decode (mm_Md_openIndex).2.1 106 = .ok (.if_icmp .ge 21, 3) := by decide +kernel
theorem dd_Md_openIndex_109 : decode (mm_Md_openIndex).2.1 109 = .ok (.iload_n 3, 1) := by decide +kernel
theorem dd_Md_openIndex_110 : decode (mm_Md_openIndex).2.1 110 = .ok (.aload_n 0, 1) := by decide +kernel
theorem dd_Md_openIndex_111 : decode (mm_Md_openIndex).2.1 111 = .ok (.getfield 31, 3) := by decide +kernel
theorem dd_Md_openIndex_114 : decode (mm_Md_openIndex).2.1 114 = .ok (.iload 4, 2) := by decide +kernel
theorem dd_Md_openIndex_116 : decode (mm_Md_openIndex).2.1 116 = .ok (.iaload, 1) := by decide +kernel
theorem dd_Md_openIndex_117 : decode (mm_Md_openIndex).2.1 117 = .ok (.invokestatic 93, 3) := by decide +kernel
theorem dd_Md_openIndex_120 : decode (mm_Md_openIndex).2.1 120 = .ok (.istore_n 3, 1) := by decide +kernel
theorem dd_Md_openIndex_121 : decode (mm_Md_openIndex).2.1 121 = .ok (.iinc 4 1, 3) := by decide +kernel
theorem dd_Md_openIndex_124 : decode (mm_Md_openIndex).2.1 124 = .ok (.goto (-21), 3) := by decide +kernel
theorem dd_Md_openIndex_127 : decode (mm_Md_openIndex).2.1 127 = .ok (.iload_n 3, 1) := by decide +kernel
theorem dd_Md_openIndex_128 : decode (mm_Md_openIndex).2.1 128 = .ok (.aload_n 0, 1) := by decide +kernel
theorem dd_Md_openIndex_129 : decode (mm_Md_openIndex).2.1 129 = .ok (.iload_n 1, 1) := by decide +kernel
theorem dd_Md_openIndex_130 : decode (mm_Md_openIndex).2.1 130 = .ok (.iconst 4, 1) := by decide +kernel
theorem dd_Md_openIndex_131 : decode (mm_Md_openIndex).2.1 131 = .ok (.iadd, 1) := by decide +kernel
theorem dd_Md_openIndex_132 : decode (mm_Md_openIndex).2.1 132 = .ok (.invokevirtual 136, 3) := by decide +kernel
theorem dd_Md_openIndex_135 : decode (mm_Md_openIndex).2.1 135 = .ok (.if_icmp .eq 13, 3) := by decide +kernel
theorem dd_Md_openIndex_138 : decode (mm_Md_openIndex).2.1 138 = .ok (.aload_n 0, 1) := by decide +kernel
theorem dd_Md_openIndex_139 : decode (mm_Md_openIndex).2.1 139 = .ok (.bipush (-4), 2) := by decide +kernel
theorem dd_Md_openIndex_141 : decode (mm_Md_openIndex).2.1 141 = .ok (.iload_n 1, 1) := by decide +kernel
theorem dd_Md_openIndex_142 : decode (mm_Md_openIndex).2.1 142 = .ok (.iconst 4, 1) := by decide +kernel
theorem dd_Md_openIndex_143 : decode (mm_Md_openIndex).2.1 143 = .ok (.iadd, 1) := by decide +kernel
theorem dd_Md_openIndex_144 : decode (mm_Md_openIndex).2.1 144 = .ok (.invokevirtual 130, 3) := by decide +kernel
theorem dd_Md_openIndex_147 : decode (mm_Md_openIndex).2.1 147 = .ok (.ireturn, 1) := by decide +kernel
theorem dd_Md_openIndex_148 : decode (mm_Md_openIndex).2.1 148 = .ok (.iload_n 2, 1) := by decide +kernel
theorem dd_Md_openIndex_149 : decode (mm_Md_openIndex).2.1 149 = .ok (.istore 4, 2) := by decide +kernel
theorem dd_Md_openIndex_151 : decode (mm_Md_openIndex).2.1 151 = .ok (.iconst 0, 1) := by decide +kernel
theorem dd_Md_openIndex_152 : decode (mm_Md_openIndex).2.1 152 = .ok (.istore 5, 2) := by decide +kernel
theorem dd_Md_openIndex_154 : decode (mm_Md_openIndex).2.1 154 = .ok (.iload 5, 2) := by decide +kernel
theorem dd_Md_openIndex_156 : decode (mm_Md_openIndex).2.1 156 = .ok (.aload_n 0, 1) := by decide +kernel
theorem dd_Md_openIndex_157 : decode (mm_Md_openIndex).2.1 157 = .ok (.getfield 31, 3) := by decide +kernel
theorem dd_Md_openIndex_160 : decode (mm_Md_openIndex).2.1 160 = .ok (.iload_n 1, 1) := by decide +kernel
theorem dd_Md_openIndex_161 : decode (mm_Md_openIndex).2.1 161 = .ok (.iconst 1, 1) := by decide +kernel
theorem dd_Md_openIndex_162 : decode (mm_Md_openIndex).2.1 162 = .ok (.iadd, 1) := by decide +kernel
theorem dd_Md_openIndex_163 : decode (mm_Md_openIndex).2.1 163 = .ok (.iaload, 1) := by decide +kernel
theorem dd_Md_openIndex_164 : decode (mm_Md_openIndex).2.1 164 = .ok (.if_icmp .ge 44, 3) := by decide +kernel
theorem dd_Md_openIndex_167 : decode (mm_Md_openIndex).2.1 167 = .ok (.aload_n 0, 1) := by decide +kernel
theorem dd_Md_openIndex_168 : decode (mm_Md_openIndex).2.1 168 = .ok (.iload 4, 2) := by decide +kernel
theorem dd_Md_openIndex_170 : decode (mm_Md_openIndex).2.1 170 = .ok (.iload_n 2, 1) := by decide +kernel
theorem dd_Md_openIndex_171 : decode (mm_Md_openIndex).2.1 171 = .ok (.iload_n 1, 1) := by decide +kernel
theorem dd_Md_openIndex_172 : decode (mm_Md_openIndex).2.1 172 = .ok (.invokevirtual 143, 3) := by decide +kernel
theorem dd_Md_openIndex_175 : decode (mm_Md_openIndex).2.1 175 = .ok (.istore 6, 2) := by decide +kernel
theorem dd_Md_openIndex_177 : decode (mm_Md_openIndex).2.1 177 = .ok (.iload 6, 2) := by decide +kernel
theorem dd_Md_openIndex_179 : decode (mm_Md_openIndex).2.1 179 = .ok (.ifCond .eq 6, 3) := by decide +kernel
theorem dd_Md_openIndex_182 : decode (mm_Md_openIndex).2.1 182 = .ok (.iload 6, 2) := by decide +kernel
theorem dd_Md_openIndex_184 : decode (mm_Md_openIndex).2.1 184 = .ok (.ireturn, 1) := by decide +kernel
theorem dd_Md_openIndex_185 : decode (mm_Md_openIndex).2.1 185 = .ok (.iload 4, 2) := by decide +kernel
theorem dd_Md_openIndex_187 : decode (mm_Md_openIndex).2.1 187 = .ok (.bipush 8, 2) := by decide +kernel
theorem dd_Md_openIndex_189 : decode (mm_Md_openIndex).2.1 189 = .ok (.aload_n 0, 1) := by decide +kernel
theorem dd_Md_openIndex_190 : decode (mm_Md_openIndex).2.1 190 = .ok (.getfield 31, 3) := by decide +kernel
theorem dd_Md_openIndex_193 : decode (mm_Md_openIndex).2.1 193 = .ok (.iload 4, 2) := by decide +kernel
theorem dd_Md_openIndex_195 : decode (mm_Md_openIndex).2.1 195 = .ok (.iconst 1, 1) := by decide +kernel
theorem dd_Md_openIndex_196 : decode (mm_Md_openIndex).2.1 196 = .ok (.iadd, 1) := by decide +kernel
theorem dd_Md_openIndex_197 : decode (mm_Md_openIndex).2.1 197 = .ok (.iaload, 1) := by decide +kernel
theorem dd_Md_openIndex_198 : decode (mm_Md_openIndex).2.1 198 = .ok (.iadd, 1) := by decide +kernel
theorem dd_Md_openIndex_199 : decode (mm_Md_openIndex).2.1 199 = .ok (.iadd, 1) := by decide +kernel
theorem dd_Md_openIndex_200 : decode (mm_Md_openIndex).2.1 200 = .ok (.istore 4, 2) := by decide +kernel
theorem dd_Md_openIndex_202 : decode (mm_Md_openIndex).2.1 202 = .ok (.iinc 5 1, 3) := by decide +kernel
theorem dd_Md_openIndex_205 : decode (mm_Md_openIndex).2.1 205 = .ok (.goto (-51), 3) := by decide +kernel
theorem dd_Md_openIndex_208 : decode (mm_Md_openIndex).2.1 208 = .ok (.iload 4, 2) := by decide +kernel
theorem dd_Md_openIndex_210 : decode (mm_Md_openIndex).2.1 210 = .ok (.iload_n 1, 1) := by decide +kernel
theorem dd_Md_openIndex_211 : decode (mm_Md_openIndex).2.1 211 = .ok (.if_icmp .ge 14, 3) := by decide +kernel
theorem dd_Md_openIndex_214 : decode (mm_Md_openIndex).2.1 214 = .ok (.aload_n 0, 1) := by decide +kernel
theorem dd_Md_openIndex_215 : decode (mm_Md_openIndex).2.1 215 = .ok (.bipush (-4), 2) := by decide +kernel
theorem dd_Md_openIndex_217 : decode (mm_Md_openIndex).2.1 217 = .ok (.iload 4, 2) := by decide +kernel
theorem dd_Md_openIndex_219 : decode (mm_Md_openIndex).2.1 219 = .ok (.invokevirtual 130, 3) := by decide +kernel
theorem dd_Md_openIndex_222 : decode (mm_Md_openIndex).2.1 222 = .ok (.goto 4, 3) := by decide +kernel
theorem dd_Md_openIndex_225 : decode (mm_Md_openIndex).2.1 225 = .ok (.iconst 0, 1) := by decide +kernel
theorem dd_Md_openIndex_226 : decode (mm_Md_openIndex).2.1 226 = .ok (.ireturn, 1) := by decide +kernel
theorem dd_Md_stop_0 : decode (mm_Md_stop).2.1 0 = .ok (.aload_n 0, 1) := by decide +kernel
theorem dd_Md_stop_1 : decode (mm_Md_stop).2.1 1 = .ok (.iload_n 2, 1) := by decide +kernel
theorem dd_Md_stop_2 : decode (mm_Md_stop).2.1 2 = .ok (.putfield 40, 3) := by decide +kernel
theorem dd_Md_stop_5 : decode (mm_Md_stop).2.1 5 = .ok (.iload_n 1, 1) := by decide +kernel
theorem dd_Md_stop_6 : decode (mm_Md_stop).2.1 6 = .ok (.ireturn, 1) := by decide +kernel
theorem dd_Md_two_0 : decode (mm_Md_two).2.1 0 = .ok (.sipush 256, 3) := by decide +kernel
theorem dd_Md_two_3 : decode (mm_Md_two).2.1 3 = .ok (.aload_n 0, 1) := by decide +kernel
theorem dd_Md_two_4 : decode (mm_Md_two).2.1 4 = .ok (.getfield 31, 3) := by decide +kernel
theorem dd_Md_two_7 : decode (mm_Md_two).2.1 7 = .ok (.iload_n 1, 1) := by decide +kernel
theorem dd_Md_two_8 : decode (mm_Md_two).2.1 8 = .ok (.iaload, 1) := by decide +kernel
theorem dd_Md_two_9 : decode (mm_Md_two).2.1 9 = .ok (.imul, 1) := by decide +kernel
theorem dd_Md_two_10 : decode (mm_Md_two).2.1 10 = .ok (.aload_n 0, 1) := by decide +kernel
theorem dd_Md_two_11 : decode (mm_Md_two).2.1 11 = .ok (.getfield 31, 3) := by decide +kernel
theorem dd_Md_two_14 : decode (mm_Md_two).2.1 14 = .ok (.iload_n 1, 1) := by decide +kernel
theorem dd_Md_two_15 : decode (mm_Md_two).2.1 15 = .ok (.iconst 1, 1) := by decide +kernel
theorem dd_Md_two_16 : decode (mm_Md_two).2.1 16 = .ok (.iadd, 1) := by decide +kernel
theorem dd_Md_two_17 : decode (mm_Md_two).2.1 17 = .ok (.iaload, 1) := by decide +kernel
theorem dd_Md_two_18 : decode (mm_Md_two).2.1 18 = .ok (.iadd, 1) := by decide +kernel
theorem dd_Md_two_19 : decode (mm_Md_two).2.1 19 = .ok (.ireturn, 1) := by decide +kernel
theorem dd_Md_openEntry_0 : decode (mm_Md_openEntry).2.1 0 = .ok (.aload_n 0, 1) := by decide +kernel
theorem dd_Md_openEntry_1 : decode (mm_Md_openEntry).2.1 1 = .ok (.iload_n 1, 1) := by decide +kernel
theorem dd_Md_openEntry_2 : decode (mm_Md_openEntry).2.1 2 = .ok (.iload_n 3, 1) := by decide +kernel
theorem dd_Md_openEntry_3 : decode (mm_Md_openEntry).2.1 3 = .ok (.invokevirtual 133, 3) := by decide +kernel
theorem dd_Md_openEntry_6 : decode (mm_Md_openEntry).2.1 6 = .ok (.istore 4, 2) := by decide +kernel
theorem dd_Md_openEntry_8 : decode (mm_Md_openEntry).2.1 8 = .ok (.iload 4, 2) := by decide +kernel
theorem dd_Md_openEntry_10 : decode (mm_Md_openEntry).2.1 10 = .ok (.ifCond .eq 6, 3) := by decide +kernel
theorem dd_Md_openEntry_13 : decode (mm_Md_openEntry).2.1 13 = .ok (.iload 4, 2) := by decide +kernel
theorem dd_Md_openEntry_15 : decode (mm_Md_openEntry).2.1 15 = .ok (.ireturn, 1) := by decide +kernel
theorem dd_Md_openEntry_16 : decode (mm_Md_openEntry).2.1 16 = .ok (.iload_n 1, 1) := by decide +kernel
theorem dd_Md_openEntry_17 : decode (mm_Md_openEntry).2.1 17 = .ok (.iconst 2, 1) := by decide +kernel
theorem dd_Md_openEntry_18 : decode (mm_Md_openEntry).2.1 18 = .ok (.iadd, 1) := by decide +kernel
theorem dd_Md_openEntry_19 : decode (mm_Md_openEntry).2.1 19 = .ok (.aload_n 0, 1) := by decide +kernel
theorem dd_Md_openEntry_20 : decode (mm_Md_openEntry).2.1 20 = .ok (.getfield 31, 3) := by decide +kernel
theorem dd_Md_openEntry_23 : decode (mm_Md_openEntry).2.1 23 = .ok (.iload_n 1, 1) := by decide +kernel
theorem dd_Md_openEntry_24 : decode (mm_Md_openEntry).2.1 24 = .ok (.iconst 1, 1) := by decide +kernel
theorem dd_Md_openEntry_25 : decode (mm_Md_openEntry).2.1 25 = .ok (.iadd, 1) := by decide +kernel
theorem dd_Md_openEntry_26 : decode (mm_Md_openEntry).2.1 26 = .ok (.iaload, 1) := by decide +kernel
theorem dd_Md_openEntry_27 : decode (mm_Md_openEntry).2.1 27 = .ok (.iadd, 1) := by decide +kernel
theorem dd_Md_openEntry_28 : decode (mm_Md_openEntry).2.1 28 = .ok (.istore 5, 2) := by decide +kernel
theorem dd_Md_openEntry_30 : decode (mm_Md_openEntry).2.1 30 = .ok (.iload 5, 2) := by decide +kernel
theorem dd_Md_openEntry_32 : decode (mm_Md_openEntry).2.1 32 = .ok (.iconst 2, 1) := by decide +kernel
theorem dd_Md_openEntry_33 : decode (mm_Md_openEntry).2.1 33 = .ok (.iadd, 1) := by decide +kernel
theorem dd_Md_openEntry_34 : decode (mm_Md_openEntry).2.1 34 = .ok (.iload_n 3, 1) := by decide +kernel
theorem dd_Md_openEntry_35 : decode (mm_Md_openEntry).2.1 35 = .ok (.if_icmp .ge 42, 3) := by decide +kernel
theorem dd_Md_openEntry_38 : decode (mm_Md_openEntry).2.1 38 = .ok (.aload_n 0, 1) := by decide +kernel
theorem dd_Md_openEntry_39 : decode (mm_Md_openEntry).2.1 39 = .ok (.iload 5, 2) := by decide +kernel
theorem dd_Md_openEntry_41 : decode (mm_Md_openEntry).2.1 41 = .ok (.invokevirtual 136, 3) := by decide +kernel
theorem dd_Md_openEntry_44 : decode (mm_Md_openEntry).2.1 44 = .ok (.iconst 1, 1) := by decide +kernel
theorem dd_Md_openEntry_45 : decode (mm_Md_openEntry).2.1 45 = .ok (.if_icmp .lt 23, 3) := by decide +kernel
theorem dd_Md_openEntry_48 : decode (mm_Md_openEntry).2.1 48 = .ok (.aload_n 0, 1) := by decide +kernel
theorem dd_Md_openEntry_49 : decode (mm_Md_openEntry).2.1 49 = .ok (.iload 5, 2) := by decide +kernel
theorem dd_Md_openEntry_51 : decode (mm_Md_openEntry).2.1 51 = .ok (.invokevirtual 136, 3) := by decide +kernel
theorem dd_Md_openEntry_54 : decode (mm_Md_openEntry).2.1 54 = .ok (.aload_n 0, 1) := by decide +kernel
theorem dd_Md_openEntry_55 : decode (mm_Md_openEntry).2.1 55 = .ok (.getfield 31, 3) := by decide +kernel
theorem dd_Md_openEntry_58 : decode (mm_Md_openEntry).2.1 58 = .ok (.iload 5, 2) := by decide +kernel
theorem dd_Md_openEntry_60 : decode (mm_Md_openEntry).2.1 60 = .ok (.iconst 2, 1) := by decide +kernel
theorem dd_Md_openEntry_61 : decode (mm_Md_openEntry).2.1 61 = .ok (.iadd, 1) := by decide +kernel
theorem dd_Md_openEntry_62 : decode (mm_Md_openEntry).2.1 62 = .ok (.iaload, 1) := by decide +kernel
theorem dd_Md_openEntry_63 : decode (mm_Md_openEntry).2.1 63 = .ok (.iadd, 1) := by decide +kernel
theorem dd_Md_openEntry_64 : decode (mm_Md_openEntry).2.1 64 = .ok (.iload_n 2, 1) := by decide +kernel
theorem dd_Md_openEntry_65 : decode (mm_Md_openEntry).2.1 65 = .ok (.if_icmp .le 12, 3) := by decide +kernel
theorem dd_Md_openEntry_68 : decode (mm_Md_openEntry).2.1 68 = .ok (.aload_n 0, 1) := by decide +kernel
theorem dd_Md_openEntry_69 : decode (mm_Md_openEntry).2.1 69 = .ok (.bipush (-4), 2) := by decide +kernel
theorem dd_Md_openEntry_71 : decode (mm_Md_openEntry).2.1 71 = .ok (.iload 5, 2) := by decide +kernel
theorem dd_Md_openEntry_73 : decode (mm_Md_openEntry).2.1 73 = .ok (.invokevirtual 130, 3) := by decide +kernel
theorem dd_Md_openEntry_76 : decode (mm_Md_openEntry).2.1 76 = .ok (.ireturn, 1) := by decide +kernel
theorem dd_Md_openEntry_77 : decode (mm_Md_openEntry).2.1 77 = .ok (.iload 5, 2) := by decide +kernel
theorem dd_Md_openEntry_79 : decode (mm_Md_openEntry).2.1 79 = .ok (.iconst 3, 1) := by decide +kernel
theorem dd_Md_openEntry_80 : decode (mm_Md_openEntry).2.1 80 = .ok (.iadd, 1) := by decide +kernel
theorem dd_Md_openEntry_81 : decode (mm_Md_openEntry).2.1 81 = .ok (.iload_n 3, 1) := by decide +kernel
theorem dd_Md_openEntry_82 : decode (mm_Md_openEntry).2.1 82 = .ok (.if_icmp .ge 28, 3) := by decide +kernel
theorem dd_Md_openEntry_85 : decode (mm_Md_openEntry).2.1 85 = .ok (.aload_n 0, 1) := by decide +kernel
theorem dd_Md_openEntry_86 : decode (mm_Md_openEntry).2.1 86 = .ok (.getfield 31, 3) := by decide +kernel
theorem dd_Md_openEntry_89 : decode (mm_Md_openEntry).2.1 89 = .ok (.iload 5, 2) := by decide +kernel
theorem dd_Md_openEntry_91 : decode (mm_Md_openEntry).2.1 91 = .ok (.iconst 3, 1) := by decide +kernel
theorem dd_Md_openEntry_92 : decode (mm_Md_openEntry).2.1 92 = .ok (.iadd, 1) := by decide +kernel
theorem dd_Md_openEntry_93 : decode (mm_Md_openEntry).2.1 93 = .ok (.iaload, 1) := by decide +kernel
theorem dd_Md_openEntry_94 : decode (mm_Md_openEntry).2.1 94 = .ok (.bipush 60, 2) := by decide +kernel
theorem dd_Md_openEntry_96 : decode (mm_Md_openEntry).2.1 96 = .ok (.if_icmp .le 14, 3) := by decide +kernel
theorem dd_Md_openEntry_99 : decode (mm_Md_openEntry).2.1 99 = .ok (.aload_n 0, 1) := by decide +kernel
theorem dd_Md_openEntry_100 : decode (mm_Md_openEntry).2.1 100 = .ok (.bipush (-4), 2) := by decide +kernel
theorem dd_Md_openEntry_102 : decode (mm_Md_openEntry).2.1 102 = .ok (.iload 5, 2) := by decide +kernel
theorem dd_Md_openEntry_104 : decode (mm_Md_openEntry).2.1 104 = .ok (.iconst 3, 1) := by decide +kernel
theorem dd_Md_openEntry_105 : decode (mm_Md_openEntry).2.1 105 = .ok (.iadd, 1) := by decide +kernel
theorem dd_Md_openEntry_106 : decode (mm_Md_openEntry).2.1 106 = .ok (.invokevirtual 130, 3) := by decide +kernel
theorem dd_Md_openEntry_109 : decode (mm_Md_openEntry).2.1 109 = .ok (.ireturn, 1) := by decide +kernel
theorem dd_Md_openEntry_110 : decode (mm_Md_openEntry).2.1 110 = .ok (.iload 5, 2) := by decide +kernel
theorem dd_Md_openEntry_112 : decode (mm_Md_openEntry).2.1 112 = .ok (.iconst 5, 1) := by decide +kernel
theorem dd_Md_openEntry_113 : decode (mm_Md_openEntry).2.1 113 = .ok (.iadd, 1) := by decide +kernel
theorem dd_Md_openEntry_114 : decode (mm_Md_openEntry).2.1 114 = .ok (.iload_n 3, 1) := by decide +kernel
theorem dd_Md_openEntry_115 : decode (mm_Md_openEntry).2.1 115 = .ok (.if_icmp .lt 11, 3) := by decide +kernel
theorem dd_Md_openEntry_118 : decode (mm_Md_openEntry).2.1 118 = .ok (.aload_n 0, 1) := by decide +kernel
theorem dd_Md_openEntry_119 : decode (mm_Md_openEntry).2.1 119 = .ok (.bipush (-3), 2) := by decide +kernel
theorem dd_Md_openEntry_121 : decode (mm_Md_openEntry).2.1 121 = .ok (.iload_n 3, 1) := by decide +kernel
theorem dd_Md_openEntry_122 : decode (mm_Md_openEntry).2.1 122 = .ok (.invokevirtual 130, 3) := by decide +kernel
theorem dd_Md_openEntry_125 : decode (mm_Md_openEntry).2.1 125 = .ok (.ireturn, 1) := by decide +kernel
theorem dd_Md_openEntry_126 : decode (mm_Md_openEntry).2.1 126 = .ok (.aload_n 0, 1) := by decide +kernel
theorem dd_Md_openEntry_127 : decode (mm_Md_openEntry).2.1 127 = .ok (.aload_n 0, 1) := by decide +kernel
theorem dd_Md_openEntry_128 : decode (mm_Md_openEntry).2.1 128 = .ok (.iload 5, 2) := by decide +kernel
theorem dd_Md_openEntry_130 : decode (mm_Md_openEntry).2.1 130 = .ok (.invokevirtual 136, 3) := by decide +kernel
theorem dd_Md_openEntry_133 : decode (mm_Md_openEntry).2.1 133 = .ok (.aload_n 0, 1) := by decide +kernel
theorem dd_Md_openEntry_134 : decode (mm_Md_openEntry).2.1 134 = .ok (.getfield 31, 3) := by decide +kernel
theorem dd_Md_openEntry_137 : decode (mm_Md_openEntry).2.1 137 = .ok (.iload 5, 2) := by decide +kernel
theorem dd_Md_openEntry_139 : decode (mm_Md_openEntry).2.1 139 = .ok (.iconst 2, 1) := by decide +kernel
theorem dd_Md_openEntry_140 : decode (mm_Md_openEntry).2.1 140 = .ok (.iadd, 1) := by decide +kernel
theorem dd_Md_openEntry_141 : decode (mm_Md_openEntry).2.1 141 = .ok (.iaload, 1) := by decide +kernel
theorem dd_Md_openEntry_142 : decode (mm_Md_openEntry).2.1 142 = .ok (.aload_n 0, 1) := by decide +kernel
theorem dd_Md_openEntry_143 : decode (mm_Md_openEntry).2.1 143 = .ok (.getfield 31, 3) := by decide +kernel
theorem dd_Md_openEntry_146 : decode (mm_Md_openEntry).2.1 146 = .ok (.iload 5, 2) := by decide +kernel
theorem dd_Md_openEntry_148 : decode (mm_Md_openEntry).2.1 148 = .ok (.iconst 3, 1) := by decide +kernel
theorem dd_Md_openEntry_149 : decode (mm_Md_openEntry).2.1 149 = .ok (.iadd, 1) := by decide +kernel
theorem dd_Md_openEntry_150 : decode (mm_Md_openEntry).2.1 150 = .ok (.iaload, 1) := by decide +kernel
theorem dd_Md_openEntry_151 : decode (mm_Md_openEntry).2.1 151 = .ok (.aload_n 0, 1) := by decide +kernel
theorem dd_Md_openEntry_152 : decode (mm_Md_openEntry).2.1 152 = .ok (.iload 5, 2) := by decide +kernel
theorem dd_Md_openEntry_154 : decode (mm_Md_openEntry).2.1 154 = .ok (.iconst 4, 1) := by decide +kernel
theorem dd_Md_openEntry_155 : decode (mm_Md_openEntry).2.1 155 = .ok (.iadd, 1) := by decide +kernel
theorem dd_Md_openEntry_156 : decode (mm_Md_openEntry).2.1 156 = .ok (.invokevirtual 136, 3) := by decide +kernel
theorem dd_Md_openEntry_159 : decode (mm_Md_openEntry).2.1 159 = .ok (.invokevirtual 139, 3) := by decide +kernel
theorem dd_Md_openEntry_162 : decode (mm_Md_openEntry).2.1 162 = .ok (.iconst 0, 1) := by decide +kernel
theorem dd_Md_openEntry_163 : decode (mm_Md_openEntry).2.1 163 = .ok (.ireturn, 1) := by decide +kernel
theorem dd_Md_head_0 : decode (mm_Md_head).2.1 0 = .ok (.bipush 14, 2) := by decide +kernel
theorem dd_Md_head_2 : decode (mm_Md_head).2.1 2 = .ok (.aload_n 0, 1) := by decide +kernel
theorem dd_Md_head_3 : decode (mm_Md_head).2.1 3 = .ok (.getfield 127, 3) := by decide +kernel
theorem dd_Md_head_6 : decode (mm_Md_head).2.1 6 = .ok (.bipush 6, 2) := by decide +kernel
theorem dd_Md_head_8 : decode (mm_Md_head).2.1 8 = .ok (.if_icmp .ge 10, 3) := by decide +kernel
theorem dd_Md_head_11 : decode (mm_Md_head).2.1 11 = .ok (.aload_n 0, 1) := by decide +kernel
theorem dd_Md_head_12 : decode (mm_Md_head).2.1 12 = .ok (.getfield 127, 3) := by decide +kernel
theorem dd_Md_head_15 : decode (mm_Md_head).2.1 15 = .ok (.goto 4, 3) := by decide +kernel
theorem dd_Md_head_18 : decode (mm_Md_head).2.1 18 = .ok (.iconst 5, 1) := by decide +kernel
theorem dd_Md_head_19 : decode (mm_Md_head).2.1 19 = .ok (.imul, 1) := by decide +kernel
theorem dd_Md_head_20 : decode (mm_Md_head).2.1 20 = .ok (.istore_n 3, 1) := by decide +kernel
theorem dd_Md_head_21 : decode (mm_Md_head).2.1 21 = .ok (.iconst 0, 1) := by decide +kernel
theorem dd_Md_head_22 : decode (mm_Md_head).2.1 22 = .ok (.istore 4, 2) := by decide +kernel
theorem dd_Md_head_24 : decode (mm_Md_head).2.1 24 = .ok (.iload 4, 2) := by decide +kernel
theorem dd_Md_head_26 : decode (mm_Md_head).2.1 26 = .ok (.iconst 2, 1) := by decide +kernel
theorem dd_Md_head_27 : decode (mm_Md_head).2.1 27 = .ok (.if_icmp .lt 18, 3) := by decide +kernel
theorem dd_Md_head_30 : decode (mm_Md_head).2.1 30 = .ok (.iload 4, 2) := by decide +kernel
theorem dd_Md_head_32 : decode (mm_Md_head).2.1 32 = .ok (.iconst 2, 1) := by decide +kernel
theorem dd_Md_head_33 : decode (mm_Md_head).2.1 33 = .ok (.aload_n 0, 1) := by decide +kernel
theorem dd_Md_head_34 : decode (mm_Md_head).2.1 34 = .ok (.getfield 31, 3) := by decide +kernel
theorem dd_Md_head_37 : decode (mm_Md_head).2.1 37 = .ok (.iload_n 1, 1) := by decide +kernel
theorem dd_Md_head_38 : decode (mm_Md_head).2.1 38 = .ok (.iconst 1, 1) := by decide +kernel
theorem dd_Md_head_39 : decode (mm_Md_head).2.1 39 = .ok (.iadd, 1) := by decide +kernel
theorem dd_Md_head_40 : decode (mm_Md_head).2.1 40 = .ok (.iaload, 1) := by decide +kernel
theorem dd_Md_head_41 : decode (mm_Md_head).2.1 41 = .ok (.iadd, 1) := by decide +kernel
theorem dd_Md_head_42 : decode (mm_Md_head).2.1 42 = .ok (.if_icmp .ge 128, 3) := by decide +kernel
theorem dd_Md_head_45 : decode (mm_Md_head).2.1 45 = .ok (.iload_n 1, 1) := by decide +kernel
theorem dd_Md_head_46 : decode (mm_Md_head).2.1 46 = .ok (.iload 4, 2) := by decide +kernel
theorem dd_Md_head_48 : decode (mm_Md_head).2.1 48 = .ok (.iadd, 1) := by decide +kernel
theorem dd_Md_head_49 : decode (mm_Md_head).2.1 49 = .ok (.iload_n 2, 1) := by decide +kernel
theorem dd_Md_head_50 : decode (mm_Md_head).2.1 50 = .ok (.if_icmp .lt 11, 3) := by decide +kernel
theorem dd_Md_head_53 : decode (mm_Md_head).2.1 53 = .ok (.aload_n 0, 1) := by decide +kernel
theorem dd_Md_head_54 : decode (mm_Md_head).2.1 54 = .ok (.bipush (-3), 2) := by decide +kernel
theorem dd_Md_head_56 : decode (mm_Md_head).2.1 56 = .ok (.iload_n 2, 1) := by decide +kernel
theorem dd_Md_head_57 : decode (mm_Md_head).2.1 57 = .ok (.invokevirtual 130, 3) := by decide +kernel
theorem dd_Md_head_60 : decode (mm_Md_head).2.1 60 = .ok (.ireturn, 1) := by decide +kernel
theorem dd_Md_head_61 : decode (mm_Md_head).2.1 61 = .ok (.aload_n 0, 1) := by decide +kernel
theorem dd_Md_head_62 : decode (mm_Md_head).2.1 62 = .ok (.getfield 31, 3) := by decide +kernel
theorem dd_Md_head_65 : decode (mm_Md_head).2.1 65 = .ok (.iload_n 1, 1) := by decide +kernel
theorem dd_Md_head_66 : decode (mm_Md_head).2.1 66 = .ok (.iload 4, 2) := by decide +kernel
theorem dd_Md_head_68 : decode (mm_Md_head).2.1 68 = .ok (.iadd, 1) := by decide +kernel
theorem dd_Md_head_69 : decode (mm_Md_head).2.1 69 = .ok (.iaload, 1) := by decide +kernel
theorem dd_Md_head_70 : decode (mm_Md_head).2.1 70 = .ok (.istore 5, 2) := by decide +kernel
theorem dd_Md_head_72 : decode (mm_Md_head).2.1 72 = .ok (.iload 4, 2) := by decide +kernel
theorem dd_Md_head_74 : decode (mm_Md_head).2.1 74 = .ok (.ifCond .ne 17, 3) := by decide +kernel
theorem dd_Md_head_77 : decode (mm_Md_head).2.1 77 = .ok (.iload 5, 2) := by decide +kernel
theorem dd_Md_head_79 : decode (mm_Md_head).2.1 79 = .ok (.iconst 3, 1) := by decide +kernel
theorem dd_Md_head_80 : decode (mm_Md_head).2.1 80 = .ok (.if_icmp .ge 7, 3) := by decide +kernel
theorem dd_Md_head_83 : decode (mm_Md_head).2.1 83 = .ok (.iconst 1, 1) := by decide +kernel
theorem dd_Md_head_84 : decode (mm_Md_head).2.1 84 = .ok (.goto 29, 3) := by decide +kernel
theorem dd_Md_head_87 : decode (mm_Md_head).2.1 87 = .ok (.iconst 0, 1) := by decide +kernel
theorem dd_Md_head_88 : decode (mm_Md_head).2.1 88 = .ok (.goto 25, 3) := by decide +kernel
theorem dd_Md_head_91 : decode (mm_Md_head).2.1 91 = .ok (.iload 4, 2) := by decide +kernel
theorem dd_Md_head_93 : decode (mm_Md_head).2.1 93 = .ok (.iconst 1, 1) := by decide +kernel
theorem dd_Md_head_94 : decode (mm_Md_head).2.1 94 = .ok (.if_icmp .ne 14, 3) := by decide +kernel
theorem dd_Md_head_97 : decode (mm_Md_head).2.1 97 = .ok (.iload 5, 2) := by decide +kernel
theorem dd_Md_head_99 : decode (mm_Md_head).2.1 99 = .ok (.iconst 1, 1) := by decide +kernel
theorem dd_Md_head_100 : decode (mm_Md_head).2.1 100 = .ok (.bipush 8, 2) := by decide +kernel
theorem dd_Md_head_102 : decode (mm_Md_head).2.1 102 = .ok (.invokestatic 50, 3) := by decide +kernel
theorem dd_Md_head_105 : decode (mm_Md_head).2.1 105 = .ok (.goto 8, 3) := by decide +kernel
theorem dd_Md_head_108 : decode (mm_Md_head).2.1 108 = .ok (.iload 5, 2) := by decide +kernel
theorem dd_Md_head_110 : decode (mm_Md_head).2.1 110 = .ok (.invokestatic 54, 3) := by decide +kernel
theorem dd_Md_head_113 : decode (mm_Md_head).2.1 113 = .ok (.istore 6, 2) := by decide +kernel
theorem dd_Md_head_115 : decode (mm_Md_head).2.1 115 = .ok (.iload 6, 2) := by decide +kernel
theorem dd_Md_head_117 : decode (mm_Md_head).2.1 117 = .ok (.ifCond .ne 14, 3) := by decide +kernel
theorem dd_Md_head_120 : decode (mm_Md_head).2.1 120 = .ok (.aload_n 0, 1) := by decide +kernel
theorem dd_Md_head_121 : decode (mm_Md_head).2.1 121 = .ok (.bipush (-4), 2) := by decide +kernel
theorem dd_Md_head_123 : decode (mm_Md_head).2.1 123 = .ok (.iload_n 1, 1) := by decide +kernel
theorem dd_Md_head_124 : decode (mm_Md_head).2.1 124 = .ok (.iload 4, 2) := by decide +kernel
theorem dd_Md_head_126 : decode (mm_Md_head).2.1 126 = .ok (.iadd, 1) := by decide +kernel
theorem dd_Md_head_127 : decode (mm_Md_head).2.1 127 = .ok (.invokevirtual 130, 3) := by decide +kernel
theorem dd_Md_head_130 : decode (mm_Md_head).2.1 130 = .ok (.ireturn, 1) := by decide +kernel
theorem dd_Md_head_131 : decode (mm_Md_head).2.1 131 = .ok (.aload_n 0, 1) := by decide +kernel
theorem dd_Md_head_132 : decode (mm_Md_head).2.1 132 = .ok (.getfield 127, 3) := by decide +kernel
theorem dd_Md_head_135 : decode (mm_Md_head).2.1 135 = .ok (.bipush 6, 2) := by decide +kernel
theorem dd_Md_head_137 : decode (mm_Md_head).2.1 137 = .ok (.if_icmp .ge 27, 3) := by decide +kernel
theorem dd_Md_head_140 : decode (mm_Md_head).2.1 140 = .ok (.aload_n 0, 1) := by decide +kernel
theorem dd_Md_head_141 : decode (mm_Md_head).2.1 141 = .ok (.getfield 37, 3) := by decide +kernel
theorem dd_Md_head_144 : decode (mm_Md_head).2.1 144 = .ok (.iload_n 3, 1) := by decide +kernel
theorem dd_Md_head_145 : decode (mm_Md_head).2.1 145 = .ok (.iload 4, 2) := by decide +kernel
theorem dd_Md_head_147 : decode (mm_Md_head).2.1 147 = .ok (.iconst 2, 1) := by decide +kernel
theorem dd_Md_head_148 : decode (mm_Md_head).2.1 148 = .ok (.if_icmp .ge 8, 3) := by decide +kernel
theorem dd_Md_head_151 : decode (mm_Md_head).2.1 151 = .ok (.iload 4, 2) := by decide +kernel
theorem dd_Md_head_153 : decode (mm_Md_head).2.1 153 = .ok (.goto 7, 3) := by decide +kernel
theorem dd_Md_head_156 : decode (mm_Md_head).2.1 156 = .ok (.iconst 4, 1) := by decide +kernel
theorem dd_Md_head_157 : decode (mm_Md_head).2.1 157 = .ok (.iload 4, 2) := by decide +kernel
theorem dd_Md_head_159 : decode (mm_Md_head).2.1 159 = .ok (.iadd, 1) := by decide +kernel
theorem dd_Md_head_160 : decode (mm_Md_head).2.1 160 = .ok (.iadd, 1) := by decide +kernel
theorem dd_Md_head_161 : decode (mm_Md_head).2.1 161 = .ok (.iload 5, 2) := by decide +kernel
theorem dd_Md_head_163 : decode (mm_Md_head).2.1 163 = .ok (.iastore, 1) := by decide +kernel
theorem dd_Md_head_164 : decode (mm_Md_head).2.1 164 = .ok (.iinc 4 1, 3) := by decide +kernel
theorem dd_Md_head_167 : decode (mm_Md_head).2.1 167 = .ok (.goto (-143), 3) := by decide +kernel
theorem dd_Md_head_170 : decode (mm_Md_head).2.1 170 = .ok (.iconst 0, 1) := by decide +kernel
theorem dd_Md_head_171 : decode (mm_Md_head).2.1 171 = .ok (.ireturn, 1) := by decide +kernel
theorem dd_Md_note_0 : decode (mm_Md_note).2.1 0 = .ok (.bipush 14, 2) := by decide +kernel
theorem dd_Md_note_2 : decode (mm_Md_note).2.1 2 = .ok (.aload_n 0, 1) := by decide +kernel
theorem dd_Md_note_3 : decode (mm_Md_note).2.1 3 = .ok (.getfield 127, 3) := by decide +kernel
theorem dd_Md_note_6 : decode (mm_Md_note).2.1 6 = .ok (.imul, 1) := by decide +kernel
theorem dd_Md_note_7 : decode (mm_Md_note).2.1 7 = .ok (.istore 5, 2) := by decide +kernel
theorem dd_Md_note_9 : decode (mm_Md_note).2.1 9 = .ok (.aload_n 0, 1) := by decide +kernel
theorem dd_Md_note_10 : decode (mm_Md_note).2.1 10 = .ok (.getfield 37, 3) := by decide +kernel
theorem dd_Md_note_13 : decode (mm_Md_note).2.1 13 = .ok (.iload 5, 2) := by decide +kernel
theorem dd_Md_note_15 : decode (mm_Md_note).2.1 15 = .ok (.iconst 2, 1) := by decide +kernel
theorem dd_Md_note_16 : decode (mm_Md_note).2.1 16 = .ok (.iadd, 1) := by decide +kernel
theorem dd_Md_note_17 : decode (mm_Md_note).2.1 17 = .ok (.iload_n 1, 1) := by decide +kernel
theorem dd_Md_note_18 : decode (mm_Md_note).2.1 18 = .ok (.iastore, 1) := by decide +kernel
theorem dd_Md_note_19 : decode (mm_Md_note).2.1 19 = .ok (.aload_n 0, 1) := by decide +kernel
theorem dd_Md_note_20 : decode (mm_Md_note).2.1 20 = .ok (.getfield 37, 3) := by decide +kernel
theorem dd_Md_note_23 : decode (mm_Md_note).2.1 23 = .ok (.iload 5, 2) := by decide +kernel
theorem dd_Md_note_25 : decode (mm_Md_note).2.1 25 = .ok (.iconst 3, 1) := by decide +kernel
theorem dd_Md_note_26 : decode (mm_Md_note).2.1 26 = .ok (.iadd, 1) := by decide +kernel
theorem dd_Md_note_27 : decode (mm_Md_note).2.1 27 = .ok (.iload_n 2, 1) := by decide +kernel
theorem dd_Md_note_28 : decode (mm_Md_note).2.1 28 = .ok (.iastore, 1) := by decide +kernel
theorem dd_Md_note_29 : decode (mm_Md_note).2.1 29 = .ok (.aload_n 0, 1) := by decide +kernel
theorem dd_Md_note_30 : decode (mm_Md_note).2.1 30 = .ok (.getfield 37, 3) := by decide +kernel
theorem dd_Md_note_33 : decode (mm_Md_note).2.1 33 = .ok (.iload 5, 2) := by decide +kernel
theorem dd_Md_note_35 : decode (mm_Md_note).2.1 35 = .ok (.iconst 4, 1) := by decide +kernel
theorem dd_Md_note_36 : decode (mm_Md_note).2.1 36 = .ok (.iadd, 1) := by decide +kernel
theorem dd_Md_note_37 : decode (mm_Md_note).2.1 37 = .ok (.iload_n 3, 1) := by decide +kernel
theorem dd_Md_note_38 : decode (mm_Md_note).2.1 38 = .ok (.iastore, 1) := by decide +kernel
theorem dd_Md_note_39 : decode (mm_Md_note).2.1 39 = .ok (.aload_n 0, 1) := by decide +kernel
theorem dd_Md_note_40 : decode (mm_Md_note).2.1 40 = .ok (.getfield 37, 3) := by decide +kernel
theorem dd_Md_note_43 : decode (mm_Md_note).2.1 43 = .ok (.iload 5, 2) := by decide +kernel
theorem dd_Md_note_45 : decode (mm_Md_note).2.1 45 = .ok (.iconst 5, 1) := by decide +kernel
theorem dd_Md_note_46 : decode (mm_Md_note).2.1 46 = .ok (.iadd, 1) := by decide +kernel
theorem dd_Md_note_47 : decode (mm_Md_note).2.1 47 = .ok (.iload 4, 2) := by decide +kernel
theorem dd_Md_note_49 : decode (mm_Md_note).2.1 49 = .ok (.iastore, 1) := by decide +kernel
theorem dd_Md_note_50 : decode (mm_Md_note).2.1 50 = .ok (.aload_n 0, 1) := by decide +kernel
theorem dd_Md_note_51 : decode (mm_Md_note).2.1 51 = .ok (.dup, 1) := by decide +kernel
theorem dd_Md_note_52 : decode (mm_Md_note).2.1 52 = .ok (.getfield 127, 3) := by decide +kernel
theorem dd_Md_note_55 : decode (mm_Md_note).2.1 55 = .ok (.iconst 1, 1) := by decide +kernel
theorem dd_Md_note_56 : decode (mm_Md_note).2.1 56 = .ok (.iadd, 1) := by decide +kernel
theorem dd_Md_note_57 : decode (mm_Md_note).2.1 57 = .ok (.putfield 127, 3) := by decide +kernel
theorem dd_Md_note_60 : decode (mm_Md_note).2.1 60 = .ok (.return_, 1) := by decide +kernel
theorem dd_Md_openChain_0 : decode (mm_Md_openChain).2.1 0 = .ok (.iconst 0, 1) := by decide +kernel
theorem dd_Md_openChain_1 : decode (mm_Md_openChain).2.1 1 = .ok (.istore_n 1, 1) := by decide +kernel
theorem dd_Md_openChain_2 : decode (mm_Md_openChain).2.1 2 = .ok (.iload_n 1, 1) := by decide +kernel
theorem dd_Md_openChain_3 : decode (mm_Md_openChain).2.1 3 = .ok (.aload_n 0, 1) := by decide +kernel
theorem dd_Md_openChain_4 : decode (mm_Md_openChain).2.1 4 = .ok (.getfield 124, 3) := by decide +kernel
theorem dd_Md_openChain_7 : decode (mm_Md_openChain).2.1 7 = .ok (.if_icmp .ge 316, 3) := by decide +kernel
theorem dd_Md_openChain_10 : decode (mm_Md_openChain).2.1 10 = .ok (.aload_n 0, 1) := by decide +kernel
theorem dd_Md_openChain_11 : decode (mm_Md_openChain).2.1 11 = .ok (.getfield 31, 3) := by decide +kernel
theorem dd_Md_openChain_14 : decode (mm_Md_openChain).2.1 14 = .ok (.iload_n 1, 1) := by decide +kernel
theorem dd_Md_openChain_15 : decode (mm_Md_openChain).2.1 15 = .ok (.iaload, 1) := by decide +kernel
theorem dd_Md_openChain_16 : decode (mm_Md_openChain).2.1 16 = .ok (.bipush 69, 2) := by decide +kernel
theorem dd_Md_openChain_18 : decode (mm_Md_openChain).2.1 18 = .ok (.if_icmp .eq 305, 3) := by decide +kernel
theorem dd_Md_openChain_21 : decode (mm_Md_openChain).2.1 21 = .ok (.aload_n 0, 1) := by decide +kernel
theorem dd_Md_openChain_22 : decode (mm_Md_openChain).2.1 22 = .ok (.getfield 31, 3) := by decide +kernel
theorem dd_Md_openChain_25 : decode (mm_Md_openChain).2.1 25 = .ok (.iload_n 1, 1) := by decide +kernel
theorem dd_Md_openChain_26 : decode (mm_Md_openChain).2.1 26 = .ok (.iaload, 1) := by decide +kernel
theorem dd_Md_openChain_27 : decode (mm_Md_openChain).2.1 27 = .ok (.bipush 67, 2) := by decide +kernel
theorem dd_Md_openChain_29 : decode (mm_Md_openChain).2.1 29 = .ok (.if_icmp .eq 11, 3) := by decide +kernel
theorem dd_Md_openChain_32 : decode (mm_Md_openChain).2.1 32 = .ok (.aload_n 0, 1) := by decide +kernel
theorem dd_Md_openChain_33 : decode (mm_Md_openChain).2.1 33 = .ok (.bipush (-4), 2) := by decide +kernel
theorem dd_Md_openChain_35 : decode (mm_Md_openChain).2.1 35 = .ok (.iload_n 1, 1) := by decide +kernel
theorem dd_Md_openChain_36 : decode (mm_Md_openChain).2.1 36 = .ok (.invokevirtual 130, 3) := by decide +kernel
theorem dd_Md_openChain_39 : decode (mm_Md_openChain).2.1 39 = .ok (.ireturn, 1) := by decide +kernel
theorem dd_Md_openChain_40 : decode (mm_Md_openChain).2.1 40 = .ok (.iload_n 1, 1) := by decide +kernel
theorem dd_Md_openChain_41 : decode (mm_Md_openChain).2.1 41 = .ok (.istore_n 2, 1) := by decide +kernel
theorem dd_Md_openChain_42 : decode (mm_Md_openChain).2.1 42 = .ok (.aload_n 0, 1) := by decide +kernel
theorem dd_Md_openChain_43 : decode (mm_Md_openChain).2.1 43 = .ok (.iload_n 1, 1) := by decide +kernel
theorem dd_Md_openChain_44 : decode (mm_Md_openChain).2.1 44 = .ok (.iconst 1, 1) := by decide +kernel
theorem dd_Md_openChain_45 : decode (mm_Md_openChain).2.1 45 = .ok (.iadd, 1) := by decide +kernel
theorem dd_Md_openChain_46 : decode (mm_Md_openChain).2.1 46 = .ok (.aload_n 0, 1) := by decide +kernel
theorem dd_Md_openChain_47 : decode (mm_Md_openChain).2.1 47 = .ok (.getfield 124, 3) := by decide +kernel
theorem dd_Md_openChain_50 : decode (mm_Md_openChain).2.1 50 = .ok (.invokevirtual 133, 3) := by decide +kernel
theorem dd_Md_openChain_53 : decode (mm_Md_openChain).2.1 53 = .ok (.istore_n 3, 1) := by decide +kernel
theorem dd_Md_openChain_54 : decode (mm_Md_openChain).2.1 54 = .ok (.iload_n 3, 1) := by decide +kernel
theorem dd_Md_openChain_55 : decode (mm_Md_openChain).2.1 55 = .ok (.ifCond .eq 5, 3) := by decide +kernel
theorem dd_Md_openChain_58 : decode (mm_Md_openChain).2.1 58 = .ok (.iload_n 3, 1) := by decide +kernel
theorem dd_Md_openChain_59 : decode (mm_Md_openChain).2.1 59 = .ok (.ireturn, 1) := by decide +kernel
theorem dd_Md_openChain_60 : decode (mm_Md_openChain).2.1 60 = .ok (.iload_n 1, 1) := by decide +kernel
theorem dd_Md_openChain_61 : decode (mm_Md_openChain).2.1 61 = .ok (.iconst 3, 1) := by decide +kernel
theorem dd_Md_openChain_62 : decode (mm_Md_openChain).2.1 62 = .ok (.iadd, 1) := by decide +kernel
theorem dd_Md_openChain_63 : decode (mm_Md_openChain).2.1 63 = .ok (.aload_n 0, 1) := by decide +kernel
theorem dd_Md_openChain_64 : decode (mm_Md_openChain).2.1 64 = .ok (.getfield 31, 3) := by decide +kernel
theorem dd_Md_openChain_67 : decode (mm_Md_openChain).2.1 67 = .ok (.iload_n 1, 1) := by decide +kernel
theorem dd_Md_openChain_68 : decode (mm_Md_openChain).2.1 68 = .ok (.iconst 2, 1) := by decide +kernel
theorem dd_Md_openChain_69 : decode (mm_Md_openChain).2.1 69 = .ok (.iadd, 1) := by decide +kernel
theorem dd_Md_openChain_70 : decode (mm_Md_openChain).2.1 70 = .ok (.iaload, 1) := by decide +kernel
theorem dd_Md_openChain_71 : decode (mm_Md_openChain).2.1 71 = .ok (.iadd, 1) := by decide +kernel
