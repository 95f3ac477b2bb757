theorem dL_doves_0 : decode cL_doves 0 = .ok (.iload_n 1, 1) := by decide +kernel
theorem dL_doves_1 : decode cL_doves 1 = .ok (.bipush 12, 2) := by decide +kernel
theorem dL_doves_3 : decode cL_doves 3 = .ok (.invokestatic 124, 3) := by decide +kernel
theorem dL_doves_6 : decode cL_doves 6 = .ok (.istore 6, 2) := by decide +kernel
theorem dL_doves_8 : decode cL_doves 8 = .ok (.iload_n 2, 1) := by decide +kernel
theorem dL_doves_9 : decode cL_doves 9 = .ok (.iload_n 2, 1) := by decide +kernel
theorem dL_doves_10 : decode cL_doves 10 = .ok (.bipush 20, 2) := by decide +kernel
theorem dL_doves_12 : decode cL_doves 12 = .ok (.ishr, 1) := by decide +kernel
theorem dL_doves_13 : decode cL_doves 13 = .ok (.iconst 1, 1) := by decide +kernel
theorem dL_doves_14 : decode cL_doves 14 = .ok (.iand, 1) := by decide +kernel
theorem dL_doves_15 : decode cL_doves 15 = .ok (.ifCond .ne 8, 3) := by decide +kernel
theorem dL_doves_18 : decode cL_doves 18 = .ok (.bipush 10, 2) := by decide +kernel
theorem dL_doves_20 : decode cL_doves 20 = .ok (.goto 5, 3) := by decide +kernel
theorem dL_doves_23 : decode cL_doves 23 = .ok (.bipush 24, 2) := by decide +kernel
theorem dL_doves_25 : decode cL_doves 25 = .ok (.invokestatic 124, 3) := by decide +kernel
theorem dL_doves_28 : decode cL_doves 28 = .ok (.istore 7, 2) := by decide +kernel
theorem dL_doves_30 : decode cL_doves 30 = .ok (.iload 6, 2) := by decide +kernel
theorem dL_doves_32 : decode cL_doves 32 = .ok (.iconst 5, 1) := by decide +kernel
theorem dL_doves_33 : decode cL_doves 33 = .ok (.if_icmp .ge 203, 3) := by decide +kernel
theorem dL_doves_36 : decode cL_doves 36 = .ok (.iconst 1, 1) := by decide +kernel
theorem dL_doves_37 : decode cL_doves 37 = .ok (.iload_n 2, 1) := by decide +kernel
theorem dL_doves_38 : decode cL_doves 38 = .ok (.iconst 5, 1) := by decide +kernel
theorem dL_doves_39 : decode cL_doves 39 = .ok (.ishr, 1) := by decide +kernel
theorem dL_doves_40 : decode cL_doves 40 = .ok (.bipush 9, 2) := by decide +kernel
theorem dL_doves_42 : decode cL_doves 42 = .ok (.invokestatic 124, 3) := by decide +kernel
theorem dL_doves_45 : decode cL_doves 45 = .ok (.iadd, 1) := by decide +kernel
theorem dL_doves_46 : decode cL_doves 46 = .ok (.istore 8, 2) := by decide +kernel
theorem dL_doves_48 : decode cL_doves 48 = .ok (.aload_n 3, 1) := by decide +kernel
theorem dL_doves_49 : decode cL_doves 49 = .ok (.iconst 0, 1) := by decide +kernel
theorem dL_doves_50 : decode cL_doves 50 = .ok (.iaload, 1) := by decide +kernel
theorem dL_doves_51 : decode cL_doves 51 = .ok (.ldc 127, 2) := by decide +kernel
theorem dL_doves_53 : decode cL_doves 53 = .ok (.if_icmp .eq 26, 3) := by decide +kernel
theorem dL_doves_56 : decode cL_doves 56 = .ok (.aload_n 3, 1) := by decide +kernel
theorem dL_doves_57 : decode cL_doves 57 = .ok (.aload 4, 2) := by decide +kernel
theorem dL_doves_59 : decode cL_doves 59 = .ok (.iload 7, 2) := by decide +kernel
theorem dL_doves_61 : decode cL_doves 61 = .ok (.invokestatic 111, 3) := by decide +kernel
theorem dL_doves_64 : decode cL_doves 64 = .ok (.ifCond .ge 15, 3) := by decide +kernel
theorem dL_doves_67 : decode cL_doves 67 = .ok (.aload_n 3, 1) := by decide +kernel
theorem dL_doves_68 : decode cL_doves 68 = .ok (.iconst 1, 1) := by decide +kernel
theorem dL_doves_69 : decode cL_doves 69 = .ok (.iaload, 1) := by decide +kernel
theorem dL_doves_70 : decode cL_doves 70 = .ok (.iload 7, 2) := by decide +kernel
theorem dL_doves_72 : decode cL_doves 72 = .ok (.ishr, 1) := by decide +kernel
theorem dL_doves_73 : decode cL_doves 73 = .ok (.iconst 1, 1) := by decide +kernel
theorem dL_doves_74 : decode cL_doves 74 = .ok (.iand, 1) := by decide +kernel
theorem dL_doves_75 : decode cL_doves 75 = .ok (.iconst 1, 1) := by decide +kernel
theorem dL_doves_76 : decode cL_doves 76 = .ok (.if_icmp .ne 47, 3) := by decide +kernel
theorem dL_doves_79 : decode cL_doves 79 = .ok (.aload_n 0, 1) := by decide +kernel
theorem dL_doves_80 : decode cL_doves 80 = .ok (.iload 7, 2) := by decide +kernel
theorem dL_doves_82 : decode cL_doves 82 = .ok (.iload 8, 2) := by decide +kernel
theorem dL_doves_84 : decode cL_doves 84 = .ok (.invokestatic 128, 3) := by decide +kernel
theorem dL_doves_87 : decode cL_doves 87 = .ok (.bipush (-33), 2) := by decide +kernel
theorem dL_doves_89 : decode cL_doves 89 = .ok (.if_icmp .ne 32, 3) := by decide +kernel
theorem dL_doves_92 : decode cL_doves 92 = .ok (.aload_n 0, 1) := by decide +kernel
theorem dL_doves_93 : decode cL_doves 93 = .ok (.bipush 24, 2) := by decide +kernel
theorem dL_doves_95 : decode cL_doves 95 = .ok (.iconst 0, 1) := by decide +kernel
theorem dL_doves_96 : decode cL_doves 96 = .ok (.invokestatic 128, 3) := by decide +kernel
theorem dL_doves_99 : decode cL_doves 99 = .ok (.bipush (-31), 2) := by decide +kernel
theorem dL_doves_101 : decode cL_doves 101 = .ok (.if_icmp .ne 20, 3) := by decide +kernel
theorem dL_doves_104 : decode cL_doves 104 = .ok (.aload_n 0, 1) := by decide +kernel
theorem dL_doves_105 : decode cL_doves 105 = .ok (.iload 7, 2) := by decide +kernel
theorem dL_doves_107 : decode cL_doves 107 = .ok (.bipush 10, 2) := by decide +kernel
theorem dL_doves_109 : decode cL_doves 109 = .ok (.invokestatic 128, 3) := by decide +kernel
theorem dL_doves_112 : decode cL_doves 112 = .ok (.bipush (-32), 2) := by decide +kernel
theorem dL_doves_114 : decode cL_doves 114 = .ok (.if_icmp .ne 7, 3) := by decide +kernel
theorem dL_doves_117 : decode cL_doves 117 = .ok (.iconst 1, 1) := by decide +kernel
theorem dL_doves_118 : decode cL_doves 118 = .ok (.goto 4, 3) := by decide +kernel
theorem dL_doves_121 : decode cL_doves 121 = .ok (.iconst 0, 1) := by decide +kernel
theorem dL_doves_122 : decode cL_doves 122 = .ok (.ireturn, 1) := by decide +kernel
theorem dL_doves_123 : decode cL_doves 123 = .ok (.iconst 0, 1) := by decide +kernel
theorem dL_doves_124 : decode cL_doves 124 = .ok (.istore 9, 2) := by decide +kernel
theorem dL_doves_126 : decode cL_doves 126 = .ok (.aload_n 3, 1) := by decide +kernel
theorem dL_doves_127 : decode cL_doves 127 = .ok (.iload 9, 2) := by decide +kernel
theorem dL_doves_129 : decode cL_doves 129 = .ok (.invokestatic 63, 3) := by decide +kernel
theorem dL_doves_132 : decode cL_doves 132 = .ok (.ifCond .eq 9, 3) := by decide +kernel
theorem dL_doves_135 : decode cL_doves 135 = .ok (.iinc 9 1, 3) := by decide +kernel
theorem dL_doves_138 : decode cL_doves 138 = .ok (.goto (-12), 3) := by decide +kernel
theorem dL_doves_141 : decode cL_doves 141 = .ok (.aload_n 3, 1) := by decide +kernel
theorem dL_doves_142 : decode cL_doves 142 = .ok (.iconst 0, 1) := by decide +kernel
theorem dL_doves_143 : decode cL_doves 143 = .ok (.dup2, 1) := by decide +kernel
theorem dL_doves_144 : decode cL_doves 144 = .ok (.iaload, 1) := by decide +kernel
theorem dL_doves_145 : decode cL_doves 145 = .ok (.iconst 1, 1) := by decide +kernel
theorem dL_doves_146 : decode cL_doves 146 = .ok (.iload 9, 2) := by decide +kernel
theorem dL_doves_148 : decode cL_doves 148 = .ok (.ishl, 1) := by decide +kernel
theorem dL_doves_149 : decode cL_doves 149 = .ok (.ior, 1) := by decide +kernel
theorem dL_doves_150 : decode cL_doves 150 = .ok (.iastore, 1) := by decide +kernel
theorem dL_doves_151 : decode cL_doves 151 = .ok (.aload 4, 2) := by decide +kernel
theorem dL_doves_153 : decode cL_doves 153 = .ok (.iconst 4, 1) := by decide +kernel
theorem dL_doves_154 : decode cL_doves 154 = .ok (.iload 9, 2) := by decide +kernel
theorem dL_doves_156 : decode cL_doves 156 = .ok (.imul, 1) := by decide +kernel
theorem dL_doves_157 : decode cL_doves 157 = .ok (.iload 7, 2) := by decide +kernel
theorem dL_doves_159 : decode cL_doves 159 = .ok (.iastore, 1) := by decide +kernel
theorem dL_doves_160 : decode cL_doves 160 = .ok (.aload 4, 2) := by decide +kernel
theorem dL_doves_162 : decode cL_doves 162 = .ok (.iconst 4, 1) := by decide +kernel
theorem dL_doves_163 : decode cL_doves 163 = .ok (.iload 9, 2) := by decide +kernel
theorem dL_doves_165 : decode cL_doves 165 = .ok (.imul, 1) := by decide +kernel
theorem dL_doves_166 : decode cL_doves 166 = .ok (.iconst 1, 1) := by decide +kernel
theorem dL_doves_167 : decode cL_doves 167 = .ok (.iadd, 1) := by decide +kernel
theorem dL_doves_168 : decode cL_doves 168 = .ok (.iload 8, 2) := by decide +kernel
theorem dL_doves_170 : decode cL_doves 170 = .ok (.iastore, 1) := by decide +kernel
theorem dL_doves_171 : decode cL_doves 171 = .ok (.aload 4, 2) := by decide +kernel
theorem dL_doves_173 : decode cL_doves 173 = .ok (.iconst 4, 1) := by decide +kernel
theorem dL_doves_174 : decode cL_doves 174 = .ok (.iload 9, 2) := by decide +kernel
theorem dL_doves_176 : decode cL_doves 176 = .ok (.imul, 1) := by decide +kernel
theorem dL_doves_177 : decode cL_doves 177 = .ok (.iconst 2, 1) := by decide +kernel
theorem dL_doves_178 : decode cL_doves 178 = .ok (.iadd, 1) := by decide +kernel
theorem dL_doves_179 : decode cL_doves 179 = .ok (.iconst (-1), 1) := by decide +kernel
