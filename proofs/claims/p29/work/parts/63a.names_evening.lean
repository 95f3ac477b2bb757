theorem dL_evening_0 : decode cL_evening 0 = .ok (.iload_n 1, 1) := by decide +kernel
theorem dL_evening_1 : decode cL_evening 1 = .ok (.bipush 14, 2) := by decide +kernel
theorem dL_evening_3 : decode cL_evening 3 = .ok (.invokestatic 124, 3) := by decide +kernel
theorem dL_evening_6 : decode cL_evening 6 = .ok (.istore 7, 2) := by decide +kernel
theorem dL_evening_8 : decode cL_evening 8 = .ok (.iload 7, 2) := by decide +kernel
theorem dL_evening_10 : decode cL_evening 10 = .ok (.ifCond .ne 119, 3) := by decide +kernel
theorem dL_evening_13 : decode cL_evening 13 = .ok (.iload_n 2, 1) := by decide +kernel
theorem dL_evening_14 : decode cL_evening 14 = .ok (.iconst 1, 1) := by decide +kernel
theorem dL_evening_15 : decode cL_evening 15 = .ok (.iand, 1) := by decide +kernel
theorem dL_evening_16 : decode cL_evening 16 = .ok (.istore 8, 2) := by decide +kernel
theorem dL_evening_18 : decode cL_evening 18 = .ok (.aload_n 3, 1) := by decide +kernel
theorem dL_evening_19 : decode cL_evening 19 = .ok (.iconst 4, 1) := by decide +kernel
theorem dL_evening_20 : decode cL_evening 20 = .ok (.iload 8, 2) := by decide +kernel
theorem dL_evening_22 : decode cL_evening 22 = .ok (.iadd, 1) := by decide +kernel
theorem dL_evening_23 : decode cL_evening 23 = .ok (.iaload, 1) := by decide +kernel
theorem dL_evening_24 : decode cL_evening 24 = .ok (.istore 9, 2) := by decide +kernel
theorem dL_evening_26 : decode cL_evening 26 = .ok (.aload_n 3, 1) := by decide +kernel
theorem dL_evening_27 : decode cL_evening 27 = .ok (.iconst 4, 1) := by decide +kernel
theorem dL_evening_28 : decode cL_evening 28 = .ok (.iload 8, 2) := by decide +kernel
theorem dL_evening_30 : decode cL_evening 30 = .ok (.iadd, 1) := by decide +kernel
theorem dL_evening_31 : decode cL_evening 31 = .ok (.iload 8, 2) := by decide +kernel
theorem dL_evening_33 : decode cL_evening 33 = .ok (.ifCond .ne 15, 3) := by decide +kernel
theorem dL_evening_36 : decode cL_evening 36 = .ok (.iload_n 2, 1) := by decide +kernel
theorem dL_evening_37 : decode cL_evening 37 = .ok (.iconst 1, 1) := by decide +kernel
theorem dL_evening_38 : decode cL_evening 38 = .ok (.ishr, 1) := by decide +kernel
theorem dL_evening_39 : decode cL_evening 39 = .ok (.sipush 1440, 3) := by decide +kernel
theorem dL_evening_42 : decode cL_evening 42 = .ok (.invokestatic 124, 3) := by decide +kernel
theorem dL_evening_45 : decode cL_evening 45 = .ok (.goto 24, 3) := by decide +kernel
theorem dL_evening_48 : decode cL_evening 48 = .ok (.iload_n 2, 1) := by decide +kernel
theorem dL_evening_49 : decode cL_evening 49 = .ok (.iconst 1, 1) := by decide +kernel
theorem dL_evening_50 : decode cL_evening 50 = .ok (.ishr, 1) := by decide +kernel
theorem dL_evening_51 : decode cL_evening 51 = .ok (.iload_n 2, 1) := by decide +kernel
theorem dL_evening_52 : decode cL_evening 52 = .ok (.bipush 20, 2) := by decide +kernel
theorem dL_evening_54 : decode cL_evening 54 = .ok (.ishr, 1) := by decide +kernel
theorem dL_evening_55 : decode cL_evening 55 = .ok (.iconst 1, 1) := by decide +kernel
theorem dL_evening_56 : decode cL_evening 56 = .ok (.iand, 1) := by decide +kernel
theorem dL_evening_57 : decode cL_evening 57 = .ok (.ifCond .ne 7, 3) := by decide +kernel
theorem dL_evening_60 : decode cL_evening 60 = .ok (.iconst 4, 1) := by decide +kernel
theorem dL_evening_61 : decode cL_evening 61 = .ok (.goto 5, 3) := by decide +kernel
theorem dL_evening_64 : decode cL_evening 64 = .ok (.bipush 25, 2) := by decide +kernel
theorem dL_evening_66 : decode cL_evening 66 = .ok (.invokestatic 124, 3) := by decide +kernel
theorem dL_evening_69 : decode cL_evening 69 = .ok (.iastore, 1) := by decide +kernel
theorem dL_evening_70 : decode cL_evening 70 = .ok (.aload_n 0, 1) := by decide +kernel
theorem dL_evening_71 : decode cL_evening 71 = .ok (.iload 8, 2) := by decide +kernel
theorem dL_evening_73 : decode cL_evening 73 = .ok (.aload_n 3, 1) := by decide +kernel
theorem dL_evening_74 : decode cL_evening 74 = .ok (.iconst 4, 1) := by decide +kernel
theorem dL_evening_75 : decode cL_evening 75 = .ok (.iload 8, 2) := by decide +kernel
theorem dL_evening_77 : decode cL_evening 77 = .ok (.iadd, 1) := by decide +kernel
theorem dL_evening_78 : decode cL_evening 78 = .ok (.iaload, 1) := by decide +kernel
theorem dL_evening_79 : decode cL_evening 79 = .ok (.invokestatic 139, 3) := by decide +kernel
theorem dL_evening_82 : decode cL_evening 82 = .ok (.iload 9, 2) := by decide +kernel
theorem dL_evening_84 : decode cL_evening 84 = .ok (.if_icmp .ne 43, 3) := by decide +kernel
theorem dL_evening_87 : decode cL_evening 87 = .ok (.aload_n 0, 1) := by decide +kernel
theorem dL_evening_88 : decode cL_evening 88 = .ok (.iconst 1, 1) := by decide +kernel
theorem dL_evening_89 : decode cL_evening 89 = .ok (.bipush 25, 2) := by decide +kernel
theorem dL_evening_91 : decode cL_evening 91 = .ok (.invokestatic 139, 3) := by decide +kernel
theorem dL_evening_94 : decode cL_evening 94 = .ok (.bipush (-32), 2) := by decide +kernel
theorem dL_evening_96 : decode cL_evening 96 = .ok (.if_icmp .ne 31, 3) := by decide +kernel
theorem dL_evening_99 : decode cL_evening 99 = .ok (.aload_n 0, 1) := by decide +kernel
theorem dL_evening_100 : decode cL_evening 100 = .ok (.iconst 0, 1) := by decide +kernel
theorem dL_evening_101 : decode cL_evening 101 = .ok (.sipush 1440, 3) := by decide +kernel
theorem dL_evening_104 : decode cL_evening 104 = .ok (.invokestatic 139, 3) := by decide +kernel
theorem dL_evening_107 : decode cL_evening 107 = .ok (.bipush (-32), 2) := by decide +kernel
theorem dL_evening_109 : decode cL_evening 109 = .ok (.if_icmp .ne 18, 3) := by decide +kernel
theorem dL_evening_112 : decode cL_evening 112 = .ok (.aload_n 0, 1) := by decide +kernel
theorem dL_evening_113 : decode cL_evening 113 = .ok (.iconst 2, 1) := by decide +kernel
theorem dL_evening_114 : decode cL_evening 114 = .ok (.iconst 0, 1) := by decide +kernel
theorem dL_evening_115 : decode cL_evening 115 = .ok (.invokestatic 139, 3) := by decide +kernel
theorem dL_evening_118 : decode cL_evening 118 = .ok (.bipush (-31), 2) := by decide +kernel
theorem dL_evening_120 : decode cL_evening 120 = .ok (.if_icmp .ne 7, 3) := by decide +kernel
theorem dL_evening_123 : decode cL_evening 123 = .ok (.iconst 1, 1) := by decide +kernel
theorem dL_evening_124 : decode cL_evening 124 = .ok (.goto 4, 3) := by decide +kernel
theorem dL_evening_127 : decode cL_evening 127 = .ok (.iconst 0, 1) := by decide +kernel
theorem dL_evening_128 : decode cL_evening 128 = .ok (.ireturn, 1) := by decide +kernel
theorem dL_evening_129 : decode cL_evening 129 = .ok (.iload 7, 2) := by decide +kernel
theorem dL_evening_131 : decode cL_evening 131 = .ok (.iconst 1, 1) := by decide +kernel
theorem dL_evening_132 : decode cL_evening 132 = .ok (.if_icmp .ne 209, 3) := by decide +kernel
theorem dL_evening_135 : decode cL_evening 135 = .ok (.aload_n 3, 1) := by decide +kernel
theorem dL_evening_136 : decode cL_evening 136 = .ok (.aload 4, 2) := by decide +kernel
theorem dL_evening_138 : decode cL_evening 138 = .ok (.iconst 0, 1) := by decide +kernel
theorem dL_evening_139 : decode cL_evening 139 = .ok (.bipush 23, 2) := by decide +kernel
theorem dL_evening_141 : decode cL_evening 141 = .ok (.invokestatic 102, 3) := by decide +kernel
theorem dL_evening_144 : decode cL_evening 144 = .ok (.istore 8, 2) := by decide +kernel
theorem dL_evening_146 : decode cL_evening 146 = .ok (.bipush 8, 2) := by decide +kernel
theorem dL_evening_148 : decode cL_evening 148 = .ok (.istore 9, 2) := by decide +kernel
theorem dL_evening_150 : decode cL_evening 150 = .ok (.iload 9, 2) := by decide +kernel
theorem dL_evening_152 : decode cL_evening 152 = .ok (.bipush 12, 2) := by decide +kernel
theorem dL_evening_154 : decode cL_evening 154 = .ok (.if_icmp .ge 14, 3) := by decide +kernel
theorem dL_evening_157 : decode cL_evening 157 = .ok (.aload_n 3, 1) := by decide +kernel
theorem dL_evening_158 : decode cL_evening 158 = .ok (.iload 9, 2) := by decide +kernel
theorem dL_evening_160 : decode cL_evening 160 = .ok (.iconst 0, 1) := by decide +kernel
theorem dL_evening_161 : decode cL_evening 161 = .ok (.iastore, 1) := by decide +kernel
theorem dL_evening_162 : decode cL_evening 162 = .ok (.iinc 9 1, 3) := by decide +kernel
theorem dL_evening_165 : decode cL_evening 165 = .ok (.goto (-15), 3) := by decide +kernel
theorem dL_evening_168 : decode cL_evening 168 = .ok (.iconst 0, 1) := by decide +kernel
theorem dL_evening_169 : decode cL_evening 169 = .ok (.istore 9, 2) := by decide +kernel
theorem dL_evening_171 : decode cL_evening 171 = .ok (.iload 9, 2) := by decide +kernel
