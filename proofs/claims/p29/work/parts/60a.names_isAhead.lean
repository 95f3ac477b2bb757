theorem dL_isAhead_0 : decode cL_isAhead 0 = .ok (.bipush 13, 2) := by decide +kernel
theorem dL_isAhead_2 : decode cL_isAhead 2 = .ok (.newarray .int, 2) := by decide +kernel
theorem dL_isAhead_4 : decode cL_isAhead 4 = .ok (.astore 5, 2) := by decide +kernel
theorem dL_isAhead_6 : decode cL_isAhead 6 = .ok (.bipush 64, 2) := by decide +kernel
theorem dL_isAhead_8 : decode cL_isAhead 8 = .ok (.newarray .int, 2) := by decide +kernel
theorem dL_isAhead_10 : decode cL_isAhead 10 = .ok (.astore 6, 2) := by decide +kernel
theorem dL_isAhead_12 : decode cL_isAhead 12 = .ok (.bipush 64, 2) := by decide +kernel
theorem dL_isAhead_14 : decode cL_isAhead 14 = .ok (.newarray .int, 2) := by decide +kernel
theorem dL_isAhead_16 : decode cL_isAhead 16 = .ok (.astore 7, 2) := by decide +kernel
theorem dL_isAhead_18 : decode cL_isAhead 18 = .ok (.bipush 26, 2) := by decide +kernel
theorem dL_isAhead_20 : decode cL_isAhead 20 = .ok (.newarray .int, 2) := by decide +kernel
theorem dL_isAhead_22 : decode cL_isAhead 22 = .ok (.astore 8, 2) := by decide +kernel
theorem dL_isAhead_24 : decode cL_isAhead 24 = .ok (.iconst 0, 1) := by decide +kernel
theorem dL_isAhead_25 : decode cL_isAhead 25 = .ok (.istore 9, 2) := by decide +kernel
theorem dL_isAhead_27 : decode cL_isAhead 27 = .ok (.iload 9, 2) := by decide +kernel
theorem dL_isAhead_29 : decode cL_isAhead 29 = .ok (.bipush 16, 2) := by decide +kernel
theorem dL_isAhead_31 : decode cL_isAhead 31 = .ok (.if_icmp .ge 237, 3) := by decide +kernel
theorem dL_isAhead_34 : decode cL_isAhead 34 = .ok (.aload_n 1, 1) := by decide +kernel
theorem dL_isAhead_35 : decode cL_isAhead 35 = .ok (.iload 9, 2) := by decide +kernel
theorem dL_isAhead_37 : decode cL_isAhead 37 = .ok (.invokestatic 63, 3) := by decide +kernel
theorem dL_isAhead_40 : decode cL_isAhead 40 = .ok (.ifCond .ne 32, 3) := by decide +kernel
theorem dL_isAhead_43 : decode cL_isAhead 43 = .ok (.aload_n 0, 1) := by decide +kernel
theorem dL_isAhead_44 : decode cL_isAhead 44 = .ok (.iload 9, 2) := by decide +kernel
theorem dL_isAhead_46 : decode cL_isAhead 46 = .ok (.sipush 1440, 3) := by decide +kernel
theorem dL_isAhead_49 : decode cL_isAhead 49 = .ok (.invokestatic 88, 3) := by decide +kernel
theorem dL_isAhead_52 : decode cL_isAhead 52 = .ok (.bipush (-31), 2) := by decide +kernel
theorem dL_isAhead_54 : decode cL_isAhead 54 = .ok (.if_icmp .ne 16, 3) := by decide +kernel
theorem dL_isAhead_57 : decode cL_isAhead 57 = .ok (.aload_n 0, 1) := by decide +kernel
theorem dL_isAhead_58 : decode cL_isAhead 58 = .ok (.iload 9, 2) := by decide +kernel
theorem dL_isAhead_60 : decode cL_isAhead 60 = .ok (.iconst 0, 1) := by decide +kernel
theorem dL_isAhead_61 : decode cL_isAhead 61 = .ok (.iconst 3, 1) := by decide +kernel
theorem dL_isAhead_62 : decode cL_isAhead 62 = .ok (.invokestatic 91, 3) := by decide +kernel
theorem dL_isAhead_65 : decode cL_isAhead 65 = .ok (.bipush (-31), 2) := by decide +kernel
theorem dL_isAhead_67 : decode cL_isAhead 67 = .ok (.if_icmp .eq 195, 3) := by decide +kernel
theorem dL_isAhead_70 : decode cL_isAhead 70 = .ok (.iconst 0, 1) := by decide +kernel
theorem dL_isAhead_71 : decode cL_isAhead 71 = .ok (.ireturn, 1) := by decide +kernel
theorem dL_isAhead_72 : decode cL_isAhead 72 = .ok (.aload_n 2, 1) := by decide +kernel
theorem dL_isAhead_73 : decode cL_isAhead 73 = .ok (.iconst 4, 1) := by decide +kernel
theorem dL_isAhead_74 : decode cL_isAhead 74 = .ok (.iload 9, 2) := by decide +kernel
theorem dL_isAhead_76 : decode cL_isAhead 76 = .ok (.imul, 1) := by decide +kernel
theorem dL_isAhead_77 : decode cL_isAhead 77 = .ok (.iconst 2, 1) := by decide +kernel
theorem dL_isAhead_78 : decode cL_isAhead 78 = .ok (.iadd, 1) := by decide +kernel
theorem dL_isAhead_79 : decode cL_isAhead 79 = .ok (.iaload, 1) := by decide +kernel
theorem dL_isAhead_80 : decode cL_isAhead 80 = .ok (.ifCond .lt 7, 3) := by decide +kernel
theorem dL_isAhead_83 : decode cL_isAhead 83 = .ok (.iconst 1, 1) := by decide +kernel
theorem dL_isAhead_84 : decode cL_isAhead 84 = .ok (.goto 16, 3) := by decide +kernel
theorem dL_isAhead_87 : decode cL_isAhead 87 = .ok (.iload 4, 2) := by decide +kernel
theorem dL_isAhead_89 : decode cL_isAhead 89 = .ok (.aload_n 1, 1) := by decide +kernel
theorem dL_isAhead_90 : decode cL_isAhead 90 = .ok (.iconst 2, 1) := by decide +kernel
theorem dL_isAhead_91 : decode cL_isAhead 91 = .ok (.iaload, 1) := by decide +kernel
theorem dL_isAhead_92 : decode cL_isAhead 92 = .ok (.if_icmp .ge 7, 3) := by decide +kernel
theorem dL_isAhead_95 : decode cL_isAhead 95 = .ok (.iconst 2, 1) := by decide +kernel
theorem dL_isAhead_96 : decode cL_isAhead 96 = .ok (.goto 4, 3) := by decide +kernel
theorem dL_isAhead_99 : decode cL_isAhead 99 = .ok (.iconst 0, 1) := by decide +kernel
theorem dL_isAhead_100 : decode cL_isAhead 100 = .ok (.istore 10, 2) := by decide +kernel
theorem dL_isAhead_102 : decode cL_isAhead 102 = .ok (.aload_n 1, 1) := by decide +kernel
theorem dL_isAhead_103 : decode cL_isAhead 103 = .ok (.aload 5, 2) := by decide +kernel
theorem dL_isAhead_105 : decode cL_isAhead 105 = .ok (.invokestatic 94, 3) := by decide +kernel
theorem dL_isAhead_108 : decode cL_isAhead 108 = .ok (.aload_n 2, 1) := by decide +kernel
theorem dL_isAhead_109 : decode cL_isAhead 109 = .ok (.aload 6, 2) := by decide +kernel
theorem dL_isAhead_111 : decode cL_isAhead 111 = .ok (.invokestatic 94, 3) := by decide +kernel
theorem dL_isAhead_114 : decode cL_isAhead 114 = .ok (.aload_n 3, 1) := by decide +kernel
theorem dL_isAhead_115 : decode cL_isAhead 115 = .ok (.aload 7, 2) := by decide +kernel
theorem dL_isAhead_117 : decode cL_isAhead 117 = .ok (.invokestatic 94, 3) := by decide +kernel
theorem dL_isAhead_120 : decode cL_isAhead 120 = .ok (.iload 10, 2) := by decide +kernel
theorem dL_isAhead_122 : decode cL_isAhead 122 = .ok (.ifCond .ne 21, 3) := by decide +kernel
theorem dL_isAhead_125 : decode cL_isAhead 125 = .ok (.aload 5, 2) := by decide +kernel
theorem dL_isAhead_127 : decode cL_isAhead 127 = .ok (.aload 6, 2) := by decide +kernel
theorem dL_isAhead_129 : decode cL_isAhead 129 = .ok (.aload 7, 2) := by decide +kernel
theorem dL_isAhead_131 : decode cL_isAhead 131 = .ok (.aload 8, 2) := by decide +kernel
theorem dL_isAhead_133 : decode cL_isAhead 133 = .ok (.iload 9, 2) := by decide +kernel
theorem dL_isAhead_135 : decode cL_isAhead 135 = .ok (.iload 4, 2) := by decide +kernel
theorem dL_isAhead_137 : decode cL_isAhead 137 = .ok (.invokestatic 98, 3) := by decide +kernel
theorem dL_isAhead_140 : decode cL_isAhead 140 = .ok (.goto 4, 3) := by decide +kernel
theorem dL_isAhead_143 : decode cL_isAhead 143 = .ok (.iconst 0, 1) := by decide +kernel
theorem dL_isAhead_144 : decode cL_isAhead 144 = .ok (.istore 11, 2) := by decide +kernel
theorem dL_isAhead_146 : decode cL_isAhead 146 = .ok (.iconst (-1), 1) := by decide +kernel
theorem dL_isAhead_147 : decode cL_isAhead 147 = .ok (.istore 12, 2) := by decide +kernel
theorem dL_isAhead_149 : decode cL_isAhead 149 = .ok (.aload_n 0, 1) := by decide +kernel
theorem dL_isAhead_150 : decode cL_isAhead 150 = .ok (.iload 9, 2) := by decide +kernel
theorem dL_isAhead_152 : decode cL_isAhead 152 = .ok (.iload 4, 2) := by decide +kernel
theorem dL_isAhead_154 : decode cL_isAhead 154 = .ok (.invokevirtual 53, 3) := by decide +kernel
theorem dL_isAhead_157 : decode cL_isAhead 157 = .ok (.iload 10, 2) := by decide +kernel
theorem dL_isAhead_159 : decode cL_isAhead 159 = .ok (.if_icmp .ne 101, 3) := by decide +kernel
theorem dL_isAhead_162 : decode cL_isAhead 162 = .ok (.aload_n 0, 1) := by decide +kernel
theorem dL_isAhead_163 : decode cL_isAhead 163 = .ok (.iload 9, 2) := by decide +kernel
theorem dL_isAhead_165 : decode cL_isAhead 165 = .ok (.iload 4, 2) := by decide +kernel
theorem dL_isAhead_167 : decode cL_isAhead 167 = .ok (.iconst 0, 1) := by decide +kernel
theorem dL_isAhead_168 : decode cL_isAhead 168 = .ok (.invokevirtual 56, 3) := by decide +kernel
theorem dL_isAhead_171 : decode cL_isAhead 171 = .ok (.iload 10, 2) := by decide +kernel
theorem dL_isAhead_173 : decode cL_isAhead 173 = .ok (.ifCond .le 8, 3) := by decide +kernel
theorem dL_isAhead_176 : decode cL_isAhead 176 = .ok (.iload 12, 2) := by decide +kernel
theorem dL_isAhead_178 : decode cL_isAhead 178 = .ok (.goto 12, 3) := by decide +kernel
theorem dL_isAhead_181 : decode cL_isAhead 181 = .ok (.aload 6, 2) := by decide +kernel
theorem dL_isAhead_183 : decode cL_isAhead 183 = .ok (.iconst 4, 1) := by decide +kernel
theorem dL_isAhead_184 : decode cL_isAhead 184 = .ok (.iload 9, 2) := by decide +kernel
theorem dL_isAhead_186 : decode cL_isAhead 186 = .ok (.imul, 1) := by decide +kernel
theorem dL_isAhead_187 : decode cL_isAhead 187 = .ok (.iconst 2, 1) := by decide +kernel
theorem dL_isAhead_188 : decode cL_isAhead 188 = .ok (.iadd, 1) := by decide +kernel
theorem dL_isAhead_189 : decode cL_isAhead 189 = .ok (.iaload, 1) := by decide +kernel
theorem dL_isAhead_190 : decode cL_isAhead 190 = .ok (.if_icmp .ne 70, 3) := by decide +kernel
theorem dL_isAhead_193 : decode cL_isAhead 193 = .ok (.aload_n 0, 1) := by decide +kernel
theorem dL_isAhead_194 : decode cL_isAhead 194 = .ok (.iload 9, 2) := by decide +kernel
theorem dL_isAhead_196 : decode cL_isAhead 196 = .ok (.iload 4, 2) := by decide +kernel
theorem dL_isAhead_198 : decode cL_isAhead 198 = .ok (.iconst 1, 1) := by decide +kernel
theorem dL_isAhead_199 : decode cL_isAhead 199 = .ok (.invokevirtual 56, 3) := by decide +kernel
theorem dL_isAhead_202 : decode cL_isAhead 202 = .ok (.iload 10, 2) := by decide +kernel
