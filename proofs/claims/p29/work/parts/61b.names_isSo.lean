theorem dL_isSo_141 : decode cL_isSo 141 = .ok (.aload_n 2, 1) := by decide +kernel
theorem dL_isSo_142 : decode cL_isSo 142 = .ok (.iconst 4, 1) := by decide +kernel
theorem dL_isSo_143 : decode cL_isSo 143 = .ok (.iload 10, 2) := by decide +kernel
theorem dL_isSo_145 : decode cL_isSo 145 = .ok (.imul, 1) := by decide +kernel
theorem dL_isSo_146 : decode cL_isSo 146 = .ok (.iconst 2, 1) := by decide +kernel
theorem dL_isSo_147 : decode cL_isSo 147 = .ok (.iadd, 1) := by decide +kernel
theorem dL_isSo_148 : decode cL_isSo 148 = .ok (.iaload, 1) := by decide +kernel
theorem dL_isSo_149 : decode cL_isSo 149 = .ok (.if_icmp .ne 7, 3) := by decide +kernel
theorem dL_isSo_152 : decode cL_isSo 152 = .ok (.iconst 1, 1) := by decide +kernel
theorem dL_isSo_153 : decode cL_isSo 153 = .ok (.goto 4, 3) := by decide +kernel
theorem dL_isSo_156 : decode cL_isSo 156 = .ok (.iconst 0, 1) := by decide +kernel
theorem dL_isSo_157 : decode cL_isSo 157 = .ok (.iadd, 1) := by decide +kernel
theorem dL_isSo_158 : decode cL_isSo 158 = .ok (.istore 7, 2) := by decide +kernel
theorem dL_isSo_160 : decode cL_isSo 160 = .ok (.iinc 10 1, 3) := by decide +kernel
theorem dL_isSo_163 : decode cL_isSo 163 = .ok (.goto (-145), 3) := by decide +kernel
theorem dL_isSo_166 : decode cL_isSo 166 = .ok (.bipush 23, 2) := by decide +kernel
theorem dL_isSo_168 : decode cL_isSo 168 = .ok (.istore 10, 2) := by decide +kernel
theorem dL_isSo_170 : decode cL_isSo 170 = .ok (.iload 10, 2) := by decide +kernel
theorem dL_isSo_172 : decode cL_isSo 172 = .ok (.ifCond .lt 101, 3) := by decide +kernel
theorem dL_isSo_175 : decode cL_isSo 175 = .ok (.iconst 1, 1) := by decide +kernel
theorem dL_isSo_176 : decode cL_isSo 176 = .ok (.aload_n 1, 1) := by decide +kernel
theorem dL_isSo_177 : decode cL_isSo 177 = .ok (.iconst 1, 1) := by decide +kernel
theorem dL_isSo_178 : decode cL_isSo 178 = .ok (.iaload, 1) := by decide +kernel
theorem dL_isSo_179 : decode cL_isSo 179 = .ok (.iload 10, 2) := by decide +kernel
theorem dL_isSo_181 : decode cL_isSo 181 = .ok (.ishr, 1) := by decide +kernel
theorem dL_isSo_182 : decode cL_isSo 182 = .ok (.iconst 1, 1) := by decide +kernel
theorem dL_isSo_183 : decode cL_isSo 183 = .ok (.iand, 1) := by decide +kernel
theorem dL_isSo_184 : decode cL_isSo 184 = .ok (.isub, 1) := by decide +kernel
theorem dL_isSo_185 : decode cL_isSo 185 = .ok (.istore 11, 2) := by decide +kernel
theorem dL_isSo_187 : decode cL_isSo 187 = .ok (.aload_n 0, 1) := by decide +kernel
theorem dL_isSo_188 : decode cL_isSo 188 = .ok (.iload 10, 2) := by decide +kernel
theorem dL_isSo_190 : decode cL_isSo 190 = .ok (.iconst 0, 1) := by decide +kernel
theorem dL_isSo_191 : decode cL_isSo 191 = .ok (.invokevirtual 50, 3) := by decide +kernel
theorem dL_isSo_194 : decode cL_isSo 194 = .ok (.aload_n 1, 1) := by decide +kernel
theorem dL_isSo_195 : decode cL_isSo 195 = .ok (.aload_n 2, 1) := by decide +kernel
theorem dL_isSo_196 : decode cL_isSo 196 = .ok (.iload 10, 2) := by decide +kernel
theorem dL_isSo_198 : decode cL_isSo 198 = .ok (.invokestatic 74, 3) := by decide +kernel
theorem dL_isSo_201 : decode cL_isSo 201 = .ok (.if_icmp .ne 32, 3) := by decide +kernel
theorem dL_isSo_204 : decode cL_isSo 204 = .ok (.aload_n 0, 1) := by decide +kernel
theorem dL_isSo_205 : decode cL_isSo 205 = .ok (.iload 10, 2) := by decide +kernel
theorem dL_isSo_207 : decode cL_isSo 207 = .ok (.iconst 1, 1) := by decide +kernel
theorem dL_isSo_208 : decode cL_isSo 208 = .ok (.invokevirtual 50, 3) := by decide +kernel
theorem dL_isSo_211 : decode cL_isSo 211 = .ok (.aload_n 1, 1) := by decide +kernel
theorem dL_isSo_212 : decode cL_isSo 212 = .ok (.aload_n 2, 1) := by decide +kernel
theorem dL_isSo_213 : decode cL_isSo 213 = .ok (.iload 10, 2) := by decide +kernel
theorem dL_isSo_215 : decode cL_isSo 215 = .ok (.invokestatic 111, 3) := by decide +kernel
theorem dL_isSo_218 : decode cL_isSo 218 = .ok (.if_icmp .ne 15, 3) := by decide +kernel
theorem dL_isSo_221 : decode cL_isSo 221 = .ok (.aload_n 0, 1) := by decide +kernel
theorem dL_isSo_222 : decode cL_isSo 222 = .ok (.iload 10, 2) := by decide +kernel
theorem dL_isSo_224 : decode cL_isSo 224 = .ok (.iconst 2, 1) := by decide +kernel
theorem dL_isSo_225 : decode cL_isSo 225 = .ok (.invokevirtual 50, 3) := by decide +kernel
theorem dL_isSo_228 : decode cL_isSo 228 = .ok (.iload 11, 2) := by decide +kernel
theorem dL_isSo_230 : decode cL_isSo 230 = .ok (.if_icmp .eq 5, 3) := by decide +kernel
theorem dL_isSo_233 : decode cL_isSo 233 = .ok (.iconst 0, 1) := by decide +kernel
theorem dL_isSo_234 : decode cL_isSo 234 = .ok (.ireturn, 1) := by decide +kernel
theorem dL_isSo_235 : decode cL_isSo 235 = .ok (.iload 8, 2) := by decide +kernel
theorem dL_isSo_237 : decode cL_isSo 237 = .ok (.iload 11, 2) := by decide +kernel
theorem dL_isSo_239 : decode cL_isSo 239 = .ok (.iadd, 1) := by decide +kernel
theorem dL_isSo_240 : decode cL_isSo 240 = .ok (.istore 8, 2) := by decide +kernel
theorem dL_isSo_242 : decode cL_isSo 242 = .ok (.iload 11, 2) := by decide +kernel
theorem dL_isSo_244 : decode cL_isSo 244 = .ok (.iconst 1, 1) := by decide +kernel
theorem dL_isSo_245 : decode cL_isSo 245 = .ok (.if_icmp .ne 18, 3) := by decide +kernel
theorem dL_isSo_248 : decode cL_isSo 248 = .ok (.aload_n 1, 1) := by decide +kernel
theorem dL_isSo_249 : decode cL_isSo 249 = .ok (.aload_n 2, 1) := by decide +kernel
theorem dL_isSo_250 : decode cL_isSo 250 = .ok (.iload 10, 2) := by decide +kernel
theorem dL_isSo_252 : decode cL_isSo 252 = .ok (.invokestatic 111, 3) := by decide +kernel
theorem dL_isSo_255 : decode cL_isSo 255 = .ok (.ifCond .ge 8, 3) := by decide +kernel
theorem dL_isSo_258 : decode cL_isSo 258 = .ok (.iload 10, 2) := by decide +kernel
theorem dL_isSo_260 : decode cL_isSo 260 = .ok (.goto 5, 3) := by decide +kernel
theorem dL_isSo_263 : decode cL_isSo 263 = .ok (.iload 9, 2) := by decide +kernel
theorem dL_isSo_265 : decode cL_isSo 265 = .ok (.istore 9, 2) := by decide +kernel
theorem dL_isSo_267 : decode cL_isSo 267 = .ok (.iinc 10 (-1), 3) := by decide +kernel
theorem dL_isSo_270 : decode cL_isSo 270 = .ok (.goto (-100), 3) := by decide +kernel
theorem dL_isSo_273 : decode cL_isSo 273 = .ok (.iconst 0, 1) := by decide +kernel
theorem dL_isSo_274 : decode cL_isSo 274 = .ok (.istore 10, 2) := by decide +kernel
theorem dL_isSo_276 : decode cL_isSo 276 = .ok (.iload 10, 2) := by decide +kernel
theorem dL_isSo_278 : decode cL_isSo 278 = .ok (.aload_n 1, 1) := by decide +kernel
theorem dL_isSo_279 : decode cL_isSo 279 = .ok (.bipush 12, 2) := by decide +kernel
theorem dL_isSo_281 : decode cL_isSo 281 = .ok (.iaload, 1) := by decide +kernel
theorem dL_isSo_282 : decode cL_isSo 282 = .ok (.if_icmp .ge 47, 3) := by decide +kernel
theorem dL_isSo_285 : decode cL_isSo 285 = .ok (.aload_n 0, 1) := by decide +kernel
theorem dL_isSo_286 : decode cL_isSo 286 = .ok (.iload 10, 2) := by decide +kernel
theorem dL_isSo_288 : decode cL_isSo 288 = .ok (.iconst 0, 1) := by decide +kernel
theorem dL_isSo_289 : decode cL_isSo 289 = .ok (.invokevirtual 60, 3) := by decide +kernel
