theorem dL_doves_180 : decode cL_doves 180 = .ok (.iastore, 1) := by decide +kernel
theorem dL_doves_181 : decode cL_doves 181 = .ok (.aload 4, 2) := by decide +kernel
theorem dL_doves_183 : decode cL_doves 183 = .ok (.iconst 4, 1) := by decide +kernel
theorem dL_doves_184 : decode cL_doves 184 = .ok (.iload 9, 2) := by decide +kernel
theorem dL_doves_186 : decode cL_doves 186 = .ok (.imul, 1) := by decide +kernel
theorem dL_doves_187 : decode cL_doves 187 = .ok (.iconst 3, 1) := by decide +kernel
theorem dL_doves_188 : decode cL_doves 188 = .ok (.iadd, 1) := by decide +kernel
theorem dL_doves_189 : decode cL_doves 189 = .ok (.iconst (-1), 1) := by decide +kernel
theorem dL_doves_190 : decode cL_doves 190 = .ok (.iastore, 1) := by decide +kernel
theorem dL_doves_191 : decode cL_doves 191 = .ok (.iconst 0, 1) := by decide +kernel
theorem dL_doves_192 : decode cL_doves 192 = .ok (.istore 10, 2) := by decide +kernel
theorem dL_doves_194 : decode cL_doves 194 = .ok (.iload 10, 2) := by decide +kernel
theorem dL_doves_196 : decode cL_doves 196 = .ok (.iconst 4, 1) := by decide +kernel
theorem dL_doves_197 : decode cL_doves 197 = .ok (.if_icmp .ge 20, 3) := by decide +kernel
theorem dL_doves_200 : decode cL_doves 200 = .ok (.aload 5, 2) := by decide +kernel
theorem dL_doves_202 : decode cL_doves 202 = .ok (.iconst 4, 1) := by decide +kernel
theorem dL_doves_203 : decode cL_doves 203 = .ok (.iload 9, 2) := by decide +kernel
theorem dL_doves_205 : decode cL_doves 205 = .ok (.imul, 1) := by decide +kernel
theorem dL_doves_206 : decode cL_doves 206 = .ok (.iload 10, 2) := by decide +kernel
theorem dL_doves_208 : decode cL_doves 208 = .ok (.iadd, 1) := by decide +kernel
theorem dL_doves_209 : decode cL_doves 209 = .ok (.iconst 0, 1) := by decide +kernel
theorem dL_doves_210 : decode cL_doves 210 = .ok (.iastore, 1) := by decide +kernel
theorem dL_doves_211 : decode cL_doves 211 = .ok (.iinc 10 1, 3) := by decide +kernel
theorem dL_doves_214 : decode cL_doves 214 = .ok (.goto (-20), 3) := by decide +kernel
theorem dL_doves_217 : decode cL_doves 217 = .ok (.aload_n 0, 1) := by decide +kernel
theorem dL_doves_218 : decode cL_doves 218 = .ok (.iload 7, 2) := by decide +kernel
theorem dL_doves_220 : decode cL_doves 220 = .ok (.iload 8, 2) := by decide +kernel
theorem dL_doves_222 : decode cL_doves 222 = .ok (.invokestatic 128, 3) := by decide +kernel
theorem dL_doves_225 : decode cL_doves 225 = .ok (.iload 9, 2) := by decide +kernel
theorem dL_doves_227 : decode cL_doves 227 = .ok (.if_icmp .ne 7, 3) := by decide +kernel
theorem dL_doves_230 : decode cL_doves 230 = .ok (.iconst 1, 1) := by decide +kernel
theorem dL_doves_231 : decode cL_doves 231 = .ok (.goto 4, 3) := by decide +kernel
theorem dL_doves_234 : decode cL_doves 234 = .ok (.iconst 0, 1) := by decide +kernel
theorem dL_doves_235 : decode cL_doves 235 = .ok (.ireturn, 1) := by decide +kernel
theorem dL_doves_236 : decode cL_doves 236 = .ok (.iload_n 2, 1) := by decide +kernel
theorem dL_doves_237 : decode cL_doves 237 = .ok (.iconst 5, 1) := by decide +kernel
theorem dL_doves_238 : decode cL_doves 238 = .ok (.ishr, 1) := by decide +kernel
theorem dL_doves_239 : decode cL_doves 239 = .ok (.bipush 16, 2) := by decide +kernel
theorem dL_doves_241 : decode cL_doves 241 = .ok (.invokestatic 124, 3) := by decide +kernel
theorem dL_doves_244 : decode cL_doves 244 = .ok (.istore 8, 2) := by decide +kernel
theorem dL_doves_246 : decode cL_doves 246 = .ok (.iload 6, 2) := by decide +kernel
theorem dL_doves_248 : decode cL_doves 248 = .ok (.iconst 5, 1) := by decide +kernel
theorem dL_doves_249 : decode cL_doves 249 = .ok (.if_icmp .ne 101, 3) := by decide +kernel
theorem dL_doves_252 : decode cL_doves 252 = .ok (.iload_n 2, 1) := by decide +kernel
theorem dL_doves_253 : decode cL_doves 253 = .ok (.bipush 9, 2) := by decide +kernel
theorem dL_doves_255 : decode cL_doves 255 = .ok (.ishr, 1) := by decide +kernel
theorem dL_doves_256 : decode cL_doves 256 = .ok (.iconst 1, 1) := by decide +kernel
theorem dL_doves_257 : decode cL_doves 257 = .ok (.iand, 1) := by decide +kernel
theorem dL_doves_258 : decode cL_doves 258 = .ok (.ifCond .ne 92, 3) := by decide +kernel
theorem dL_doves_261 : decode cL_doves 261 = .ok (.aload_n 3, 1) := by decide +kernel
theorem dL_doves_262 : decode cL_doves 262 = .ok (.iload 8, 2) := by decide +kernel
theorem dL_doves_264 : decode cL_doves 264 = .ok (.invokestatic 63, 3) := by decide +kernel
theorem dL_doves_267 : decode cL_doves 267 = .ok (.ifCond .ne 20, 3) := by decide +kernel
theorem dL_doves_270 : decode cL_doves 270 = .ok (.aload_n 0, 1) := by decide +kernel
theorem dL_doves_271 : decode cL_doves 271 = .ok (.iload 8, 2) := by decide +kernel
theorem dL_doves_273 : decode cL_doves 273 = .ok (.invokestatic 130, 3) := by decide +kernel
theorem dL_doves_276 : decode cL_doves 276 = .ok (.bipush (-31), 2) := by decide +kernel
theorem dL_doves_278 : decode cL_doves 278 = .ok (.if_icmp .ne 7, 3) := by decide +kernel
theorem dL_doves_281 : decode cL_doves 281 = .ok (.iconst 1, 1) := by decide +kernel
theorem dL_doves_282 : decode cL_doves 282 = .ok (.goto 4, 3) := by decide +kernel
theorem dL_doves_285 : decode cL_doves 285 = .ok (.iconst 0, 1) := by decide +kernel
theorem dL_doves_286 : decode cL_doves 286 = .ok (.ireturn, 1) := by decide +kernel
theorem dL_doves_287 : decode cL_doves 287 = .ok (.aload_n 3, 1) := by decide +kernel
theorem dL_doves_288 : decode cL_doves 288 = .ok (.iconst 0, 1) := by decide +kernel
theorem dL_doves_289 : decode cL_doves 289 = .ok (.dup2, 1) := by decide +kernel
theorem dL_doves_290 : decode cL_doves 290 = .ok (.iaload, 1) := by decide +kernel
theorem dL_doves_291 : decode cL_doves 291 = .ok (.iconst 1, 1) := by decide +kernel
theorem dL_doves_292 : decode cL_doves 292 = .ok (.iload 8, 2) := by decide +kernel
theorem dL_doves_294 : decode cL_doves 294 = .ok (.ishl, 1) := by decide +kernel
theorem dL_doves_295 : decode cL_doves 295 = .ok (.ixor, 1) := by decide +kernel
theorem dL_doves_296 : decode cL_doves 296 = .ok (.iastore, 1) := by decide +kernel
theorem dL_doves_297 : decode cL_doves 297 = .ok (.aload 4, 2) := by decide +kernel
theorem dL_doves_299 : decode cL_doves 299 = .ok (.iconst 4, 1) := by decide +kernel
theorem dL_doves_300 : decode cL_doves 300 = .ok (.iload 8, 2) := by decide +kernel
theorem dL_doves_302 : decode cL_doves 302 = .ok (.imul, 1) := by decide +kernel
theorem dL_doves_303 : decode cL_doves 303 = .ok (.iconst 3, 1) := by decide +kernel
theorem dL_doves_304 : decode cL_doves 304 = .ok (.iadd, 1) := by decide +kernel
theorem dL_doves_305 : decode cL_doves 305 = .ok (.iaload, 1) := by decide +kernel
theorem dL_doves_306 : decode cL_doves 306 = .ok (.ifCond .lt 20, 3) := by decide +kernel
theorem dL_doves_309 : decode cL_doves 309 = .ok (.aload 4, 2) := by decide +kernel
theorem dL_doves_311 : decode cL_doves 311 = .ok (.iconst 4, 1) := by decide +kernel
theorem dL_doves_312 : decode cL_doves 312 = .ok (.aload 4, 2) := by decide +kernel
theorem dL_doves_314 : decode cL_doves 314 = .ok (.iconst 4, 1) := by decide +kernel
theorem dL_doves_315 : decode cL_doves 315 = .ok (.iload 8, 2) := by decide +kernel
theorem dL_doves_317 : decode cL_doves 317 = .ok (.imul, 1) := by decide +kernel
theorem dL_doves_318 : decode cL_doves 318 = .ok (.iconst 3, 1) := by decide +kernel
theorem dL_doves_319 : decode cL_doves 319 = .ok (.iadd, 1) := by decide +kernel
theorem dL_doves_320 : decode cL_doves 320 = .ok (.iaload, 1) := by decide +kernel
theorem dL_doves_321 : decode cL_doves 321 = .ok (.imul, 1) := by decide +kernel
theorem dL_doves_322 : decode cL_doves 322 = .ok (.iconst 3, 1) := by decide +kernel
theorem dL_doves_323 : decode cL_doves 323 = .ok (.iadd, 1) := by decide +kernel
theorem dL_doves_324 : decode cL_doves 324 = .ok (.iconst (-1), 1) := by decide +kernel
theorem dL_doves_325 : decode cL_doves 325 = .ok (.iastore, 1) := by decide +kernel
theorem dL_doves_326 : decode cL_doves 326 = .ok (.aload_n 0, 1) := by decide +kernel
theorem dL_doves_327 : decode cL_doves 327 = .ok (.iload 8, 2) := by decide +kernel
theorem dL_doves_329 : decode cL_doves 329 = .ok (.invokestatic 130, 3) := by decide +kernel
theorem dL_doves_332 : decode cL_doves 332 = .ok (.aload 4, 2) := by decide +kernel
theorem dL_doves_334 : decode cL_doves 334 = .ok (.iconst 4, 1) := by decide +kernel
theorem dL_doves_335 : decode cL_doves 335 = .ok (.iload 8, 2) := by decide +kernel
theorem dL_doves_337 : decode cL_doves 337 = .ok (.imul, 1) := by decide +kernel
theorem dL_doves_338 : decode cL_doves 338 = .ok (.iconst 2, 1) := by decide +kernel
theorem dL_doves_339 : decode cL_doves 339 = .ok (.iadd, 1) := by decide +kernel
theorem dL_doves_340 : decode cL_doves 340 = .ok (.iaload, 1) := by decide +kernel
theorem dL_doves_341 : decode cL_doves 341 = .ok (.if_icmp .ne 7, 3) := by decide +kernel
theorem dL_doves_344 : decode cL_doves 344 = .ok (.iconst 1, 1) := by decide +kernel
theorem dL_doves_345 : decode cL_doves 345 = .ok (.goto 4, 3) := by decide +kernel
