theorem dL_evening_173 : decode cL_evening 173 = .ok (.bipush 16, 2) := by decide +kernel
theorem dL_evening_175 : decode cL_evening 175 = .ok (.if_icmp .ge 140, 3) := by decide +kernel
theorem dL_evening_178 : decode cL_evening 178 = .ok (.aload_n 3, 1) := by decide +kernel
theorem dL_evening_179 : decode cL_evening 179 = .ok (.iload 9, 2) := by decide +kernel
theorem dL_evening_181 : decode cL_evening 181 = .ok (.invokestatic 63, 3) := by decide +kernel
theorem dL_evening_184 : decode cL_evening 184 = .ok (.ifCond .ne 6, 3) := by decide +kernel
theorem dL_evening_187 : decode cL_evening 187 = .ok (.goto 122, 3) := by decide +kernel
theorem dL_evening_190 : decode cL_evening 190 = .ok (.aload 4, 2) := by decide +kernel
theorem dL_evening_192 : decode cL_evening 192 = .ok (.iconst 4, 1) := by decide +kernel
theorem dL_evening_193 : decode cL_evening 193 = .ok (.iload 9, 2) := by decide +kernel
theorem dL_evening_195 : decode cL_evening 195 = .ok (.imul, 1) := by decide +kernel
theorem dL_evening_196 : decode cL_evening 196 = .ok (.iconst 2, 1) := by decide +kernel
theorem dL_evening_197 : decode cL_evening 197 = .ok (.iadd, 1) := by decide +kernel
theorem dL_evening_198 : decode cL_evening 198 = .ok (.iaload, 1) := by decide +kernel
theorem dL_evening_199 : decode cL_evening 199 = .ok (.istore 10, 2) := by decide +kernel
theorem dL_evening_201 : decode cL_evening 201 = .ok (.aload_n 3, 1) := by decide +kernel
theorem dL_evening_202 : decode cL_evening 202 = .ok (.iload 10, 2) := by decide +kernel
theorem dL_evening_204 : decode cL_evening 204 = .ok (.ifCond .ge 8, 3) := by decide +kernel
theorem dL_evening_207 : decode cL_evening 207 = .ok (.bipush 11, 2) := by decide +kernel
theorem dL_evening_209 : decode cL_evening 209 = .ok (.goto 34, 3) := by decide +kernel
theorem dL_evening_212 : decode cL_evening 212 = .ok (.iload 10, 2) := by decide +kernel
theorem dL_evening_214 : decode cL_evening 214 = .ok (.bipush 24, 2) := by decide +kernel
theorem dL_evening_216 : decode cL_evening 216 = .ok (.if_icmp .ne 8, 3) := by decide +kernel
theorem dL_evening_219 : decode cL_evening 219 = .ok (.bipush 10, 2) := by decide +kernel
theorem dL_evening_221 : decode cL_evening 221 = .ok (.goto 22, 3) := by decide +kernel
theorem dL_evening_224 : decode cL_evening 224 = .ok (.iload 10, 2) := by decide +kernel
theorem dL_evening_226 : decode cL_evening 226 = .ok (.aload 4, 2) := by decide +kernel
theorem dL_evening_228 : decode cL_evening 228 = .ok (.iconst 4, 1) := by decide +kernel
theorem dL_evening_229 : decode cL_evening 229 = .ok (.iload 9, 2) := by decide +kernel
theorem dL_evening_231 : decode cL_evening 231 = .ok (.imul, 1) := by decide +kernel
theorem dL_evening_232 : decode cL_evening 232 = .ok (.iaload, 1) := by decide +kernel
theorem dL_evening_233 : decode cL_evening 233 = .ok (.if_icmp .ne 8, 3) := by decide +kernel
theorem dL_evening_236 : decode cL_evening 236 = .ok (.bipush 8, 2) := by decide +kernel
theorem dL_evening_238 : decode cL_evening 238 = .ok (.goto 5, 3) := by decide +kernel
theorem dL_evening_241 : decode cL_evening 241 = .ok (.bipush 9, 2) := by decide +kernel
theorem dL_evening_243 : decode cL_evening 243 = .ok (.dup2, 1) := by decide +kernel
theorem dL_evening_244 : decode cL_evening 244 = .ok (.iaload, 1) := by decide +kernel
theorem dL_evening_245 : decode cL_evening 245 = .ok (.iconst 1, 1) := by decide +kernel
theorem dL_evening_246 : decode cL_evening 246 = .ok (.iadd, 1) := by decide +kernel
theorem dL_evening_247 : decode cL_evening 247 = .ok (.iastore, 1) := by decide +kernel
theorem dL_evening_248 : decode cL_evening 248 = .ok (.aload 5, 2) := by decide +kernel
theorem dL_evening_250 : decode cL_evening 250 = .ok (.iconst 4, 1) := by decide +kernel
theorem dL_evening_251 : decode cL_evening 251 = .ok (.iload 9, 2) := by decide +kernel
theorem dL_evening_253 : decode cL_evening 253 = .ok (.imul, 1) := by decide +kernel
theorem dL_evening_254 : decode cL_evening 254 = .ok (.iconst 2, 1) := by decide +kernel
theorem dL_evening_255 : decode cL_evening 255 = .ok (.iadd, 1) := by decide +kernel
theorem dL_evening_256 : decode cL_evening 256 = .ok (.dup2, 1) := by decide +kernel
theorem dL_evening_257 : decode cL_evening 257 = .ok (.iaload, 1) := by decide +kernel
theorem dL_evening_258 : decode cL_evening 258 = .ok (.iload 10, 2) := by decide +kernel
theorem dL_evening_260 : decode cL_evening 260 = .ok (.ifCond .ge 7, 3) := by decide +kernel
theorem dL_evening_263 : decode cL_evening 263 = .ok (.iconst 1, 1) := by decide +kernel
theorem dL_evening_264 : decode cL_evening 264 = .ok (.goto 4, 3) := by decide +kernel
theorem dL_evening_267 : decode cL_evening 267 = .ok (.iconst 0, 1) := by decide +kernel
theorem dL_evening_268 : decode cL_evening 268 = .ok (.iadd, 1) := by decide +kernel
theorem dL_evening_269 : decode cL_evening 269 = .ok (.iastore, 1) := by decide +kernel
theorem dL_evening_270 : decode cL_evening 270 = .ok (.aload 5, 2) := by decide +kernel
theorem dL_evening_272 : decode cL_evening 272 = .ok (.iconst 4, 1) := by decide +kernel
theorem dL_evening_273 : decode cL_evening 273 = .ok (.iload 9, 2) := by decide +kernel
theorem dL_evening_275 : decode cL_evening 275 = .ok (.imul, 1) := by decide +kernel
theorem dL_evening_276 : decode cL_evening 276 = .ok (.iconst 3, 1) := by decide +kernel
theorem dL_evening_277 : decode cL_evening 277 = .ok (.iadd, 1) := by decide +kernel
theorem dL_evening_278 : decode cL_evening 278 = .ok (.dup2, 1) := by decide +kernel
theorem dL_evening_279 : decode cL_evening 279 = .ok (.iaload, 1) := by decide +kernel
theorem dL_evening_280 : decode cL_evening 280 = .ok (.iload 10, 2) := by decide +kernel
theorem dL_evening_282 : decode cL_evening 282 = .ok (.aload 4, 2) := by decide +kernel
theorem dL_evening_284 : decode cL_evening 284 = .ok (.iconst 4, 1) := by decide +kernel
theorem dL_evening_285 : decode cL_evening 285 = .ok (.iload 9, 2) := by decide +kernel
theorem dL_evening_287 : decode cL_evening 287 = .ok (.imul, 1) := by decide +kernel
theorem dL_evening_288 : decode cL_evening 288 = .ok (.iaload, 1) := by decide +kernel
theorem dL_evening_289 : decode cL_evening 289 = .ok (.if_icmp .ne 7, 3) := by decide +kernel
theorem dL_evening_292 : decode cL_evening 292 = .ok (.iconst 1, 1) := by decide +kernel
theorem dL_evening_293 : decode cL_evening 293 = .ok (.goto 4, 3) := by decide +kernel
theorem dL_evening_296 : decode cL_evening 296 = .ok (.iconst 0, 1) := by decide +kernel
theorem dL_evening_297 : decode cL_evening 297 = .ok (.iadd, 1) := by decide +kernel
theorem dL_evening_298 : decode cL_evening 298 = .ok (.iastore, 1) := by decide +kernel
theorem dL_evening_299 : decode cL_evening 299 = .ok (.aload 4, 2) := by decide +kernel
theorem dL_evening_301 : decode cL_evening 301 = .ok (.iconst 4, 1) := by decide +kernel
theorem dL_evening_302 : decode cL_evening 302 = .ok (.iload 9, 2) := by decide +kernel
theorem dL_evening_304 : decode cL_evening 304 = .ok (.imul, 1) := by decide +kernel
theorem dL_evening_305 : decode cL_evening 305 = .ok (.iconst 2, 1) := by decide +kernel
theorem dL_evening_306 : decode cL_evening 306 = .ok (.iadd, 1) := by decide +kernel
theorem dL_evening_307 : decode cL_evening 307 = .ok (.iconst (-1), 1) := by decide +kernel
theorem dL_evening_308 : decode cL_evening 308 = .ok (.iastore, 1) := by decide +kernel
theorem dL_evening_309 : decode cL_evening 309 = .ok (.iinc 9 1, 3) := by decide +kernel
theorem dL_evening_312 : decode cL_evening 312 = .ok (.goto (-141), 3) := by decide +kernel
theorem dL_evening_315 : decode cL_evening 315 = .ok (.aload_n 3, 1) := by decide +kernel
theorem dL_evening_316 : decode cL_evening 316 = .ok (.iconst 3, 1) := by decide +kernel
theorem dL_evening_317 : decode cL_evening 317 = .ok (.dup2, 1) := by decide +kernel
theorem dL_evening_318 : decode cL_evening 318 = .ok (.iaload, 1) := by decide +kernel
theorem dL_evening_319 : decode cL_evening 319 = .ok (.iconst 1, 1) := by decide +kernel
theorem dL_evening_320 : decode cL_evening 320 = .ok (.iadd, 1) := by decide +kernel
theorem dL_evening_321 : decode cL_evening 321 = .ok (.iastore, 1) := by decide +kernel
theorem dL_evening_322 : decode cL_evening 322 = .ok (.aload_n 3, 1) := by decide +kernel
theorem dL_evening_323 : decode cL_evening 323 = .ok (.iconst 2, 1) := by decide +kernel
theorem dL_evening_324 : decode cL_evening 324 = .ok (.iconst 0, 1) := by decide +kernel
theorem dL_evening_325 : decode cL_evening 325 = .ok (.iastore, 1) := by decide +kernel
theorem dL_evening_326 : decode cL_evening 326 = .ok (.aload_n 0, 1) := by decide +kernel
