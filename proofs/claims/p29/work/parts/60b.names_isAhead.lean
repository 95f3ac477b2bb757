theorem dL_isAhead_204 : decode cL_isAhead 204 = .ok (.ifCond .le 8, 3) := by decide +kernel
theorem dL_isAhead_207 : decode cL_isAhead 207 = .ok (.iload 12, 2) := by decide +kernel
theorem dL_isAhead_209 : decode cL_isAhead 209 = .ok (.goto 5, 3) := by decide +kernel
theorem dL_isAhead_212 : decode cL_isAhead 212 = .ok (.iload 11, 2) := by decide +kernel
theorem dL_isAhead_214 : decode cL_isAhead 214 = .ok (.if_icmp .ne 46, 3) := by decide +kernel
theorem dL_isAhead_217 : decode cL_isAhead 217 = .ok (.aload_n 0, 1) := by decide +kernel
theorem dL_isAhead_218 : decode cL_isAhead 218 = .ok (.iload 9, 2) := by decide +kernel
theorem dL_isAhead_220 : decode cL_isAhead 220 = .ok (.iload 4, 2) := by decide +kernel
theorem dL_isAhead_222 : decode cL_isAhead 222 = .ok (.iconst 2, 1) := by decide +kernel
theorem dL_isAhead_223 : decode cL_isAhead 223 = .ok (.invokevirtual 56, 3) := by decide +kernel
theorem dL_isAhead_226 : decode cL_isAhead 226 = .ok (.iload 10, 2) := by decide +kernel
theorem dL_isAhead_228 : decode cL_isAhead 228 = .ok (.ifCond .le 8, 3) := by decide +kernel
theorem dL_isAhead_231 : decode cL_isAhead 231 = .ok (.iload 12, 2) := by decide +kernel
theorem dL_isAhead_233 : decode cL_isAhead 233 = .ok (.goto 24, 3) := by decide +kernel
theorem dL_isAhead_236 : decode cL_isAhead 236 = .ok (.aload 5, 2) := by decide +kernel
theorem dL_isAhead_238 : decode cL_isAhead 238 = .ok (.aload 6, 2) := by decide +kernel
theorem dL_isAhead_240 : decode cL_isAhead 240 = .ok (.bipush 24, 2) := by decide +kernel
theorem dL_isAhead_242 : decode cL_isAhead 242 = .ok (.bipush 24, 2) := by decide +kernel
theorem dL_isAhead_244 : decode cL_isAhead 244 = .ok (.invokestatic 102, 3) := by decide +kernel
theorem dL_isAhead_247 : decode cL_isAhead 247 = .ok (.aload_n 1, 1) := by decide +kernel
theorem dL_isAhead_248 : decode cL_isAhead 248 = .ok (.aload_n 2, 1) := by decide +kernel
theorem dL_isAhead_249 : decode cL_isAhead 249 = .ok (.bipush 24, 2) := by decide +kernel
theorem dL_isAhead_251 : decode cL_isAhead 251 = .ok (.bipush 24, 2) := by decide +kernel
theorem dL_isAhead_253 : decode cL_isAhead 253 = .ok (.invokestatic 102, 3) := by decide +kernel
theorem dL_isAhead_256 : decode cL_isAhead 256 = .ok (.isub, 1) := by decide +kernel
theorem dL_isAhead_257 : decode cL_isAhead 257 = .ok (.if_icmp .eq 5, 3) := by decide +kernel
theorem dL_isAhead_260 : decode cL_isAhead 260 = .ok (.iconst 0, 1) := by decide +kernel
theorem dL_isAhead_261 : decode cL_isAhead 261 = .ok (.ireturn, 1) := by decide +kernel
theorem dL_isAhead_262 : decode cL_isAhead 262 = .ok (.iinc 9 1, 3) := by decide +kernel
theorem dL_isAhead_265 : decode cL_isAhead 265 = .ok (.goto (-238), 3) := by decide +kernel
theorem dL_isAhead_268 : decode cL_isAhead 268 = .ok (.iconst 0, 1) := by decide +kernel
theorem dL_isAhead_269 : decode cL_isAhead 269 = .ok (.istore 9, 2) := by decide +kernel
theorem dL_isAhead_271 : decode cL_isAhead 271 = .ok (.iconst 0, 1) := by decide +kernel
theorem dL_isAhead_272 : decode cL_isAhead 272 = .ok (.istore 10, 2) := by decide +kernel
theorem dL_isAhead_274 : decode cL_isAhead 274 = .ok (.iload 10, 2) := by decide +kernel
theorem dL_isAhead_276 : decode cL_isAhead 276 = .ok (.iconst 2, 1) := by decide +kernel
theorem dL_isAhead_277 : decode cL_isAhead 277 = .ok (.if_icmp .ge 138, 3) := by decide +kernel
theorem dL_isAhead_280 : decode cL_isAhead 280 = .ok (.aload_n 1, 1) := by decide +kernel
theorem dL_isAhead_281 : decode cL_isAhead 281 = .ok (.aload 5, 2) := by decide +kernel
theorem dL_isAhead_283 : decode cL_isAhead 283 = .ok (.invokestatic 94, 3) := by decide +kernel
theorem dL_isAhead_286 : decode cL_isAhead 286 = .ok (.aload_n 2, 1) := by decide +kernel
theorem dL_isAhead_287 : decode cL_isAhead 287 = .ok (.aload 6, 2) := by decide +kernel
theorem dL_isAhead_289 : decode cL_isAhead 289 = .ok (.invokestatic 94, 3) := by decide +kernel
theorem dL_isAhead_292 : decode cL_isAhead 292 = .ok (.aload_n 3, 1) := by decide +kernel
theorem dL_isAhead_293 : decode cL_isAhead 293 = .ok (.aload 7, 2) := by decide +kernel
theorem dL_isAhead_295 : decode cL_isAhead 295 = .ok (.invokestatic 94, 3) := by decide +kernel
theorem dL_isAhead_298 : decode cL_isAhead 298 = .ok (.iconst 0, 1) := by decide +kernel
theorem dL_isAhead_299 : decode cL_isAhead 299 = .ok (.istore 11, 2) := by decide +kernel
theorem dL_isAhead_301 : decode cL_isAhead 301 = .ok (.iload 11, 2) := by decide +kernel
theorem dL_isAhead_303 : decode cL_isAhead 303 = .ok (.bipush 16, 2) := by decide +kernel
theorem dL_isAhead_305 : decode cL_isAhead 305 = .ok (.if_icmp .ge 57, 3) := by decide +kernel
theorem dL_isAhead_308 : decode cL_isAhead 308 = .ok (.aload_n 1, 1) := by decide +kernel
theorem dL_isAhead_309 : decode cL_isAhead 309 = .ok (.iload 11, 2) := by decide +kernel
theorem dL_isAhead_311 : decode cL_isAhead 311 = .ok (.invokestatic 63, 3) := by decide +kernel
theorem dL_isAhead_314 : decode cL_isAhead 314 = .ok (.ifCond .eq 42, 3) := by decide +kernel
theorem dL_isAhead_317 : decode cL_isAhead 317 = .ok (.aload_n 2, 1) := by decide +kernel
theorem dL_isAhead_318 : decode cL_isAhead 318 = .ok (.iconst 4, 1) := by decide +kernel
theorem dL_isAhead_319 : decode cL_isAhead 319 = .ok (.iload 11, 2) := by decide +kernel
theorem dL_isAhead_321 : decode cL_isAhead 321 = .ok (.imul, 1) := by decide +kernel
theorem dL_isAhead_322 : decode cL_isAhead 322 = .ok (.iconst 2, 1) := by decide +kernel
theorem dL_isAhead_323 : decode cL_isAhead 323 = .ok (.iadd, 1) := by decide +kernel
theorem dL_isAhead_324 : decode cL_isAhead 324 = .ok (.iaload, 1) := by decide +kernel
theorem dL_isAhead_325 : decode cL_isAhead 325 = .ok (.ifCond .ge 31, 3) := by decide +kernel
theorem dL_isAhead_328 : decode cL_isAhead 328 = .ok (.aload 5, 2) := by decide +kernel
theorem dL_isAhead_330 : decode cL_isAhead 330 = .ok (.aload 6, 2) := by decide +kernel
theorem dL_isAhead_332 : decode cL_isAhead 332 = .ok (.aload 7, 2) := by decide +kernel
theorem dL_isAhead_334 : decode cL_isAhead 334 = .ok (.aload 8, 2) := by decide +kernel
theorem dL_isAhead_336 : decode cL_isAhead 336 = .ok (.iload 11, 2) := by decide +kernel
theorem dL_isAhead_338 : decode cL_isAhead 338 = .ok (.iload 10, 2) := by decide +kernel
theorem dL_isAhead_340 : decode cL_isAhead 340 = .ok (.ifCond .ne 9, 3) := by decide +kernel
theorem dL_isAhead_343 : decode cL_isAhead 343 = .ok (.sipush 1439, 3) := by decide +kernel
theorem dL_isAhead_346 : decode cL_isAhead 346 = .ok (.goto 6, 3) := by decide +kernel
theorem dL_isAhead_349 : decode cL_isAhead 349 = .ok (.aload_n 1, 1) := by decide +kernel
theorem dL_isAhead_350 : decode cL_isAhead 350 = .ok (.iconst 2, 1) := by decide +kernel
theorem dL_isAhead_351 : decode cL_isAhead 351 = .ok (.iaload, 1) := by decide +kernel
theorem dL_isAhead_352 : decode cL_isAhead 352 = .ok (.invokestatic 98, 3) := by decide +kernel
theorem dL_isAhead_355 : decode cL_isAhead 355 = .ok (.pop, 1) := by decide +kernel
theorem dL_isAhead_356 : decode cL_isAhead 356 = .ok (.iinc 11 1, 3) := by decide +kernel
theorem dL_isAhead_359 : decode cL_isAhead 359 = .ok (.goto (-58), 3) := by decide +kernel
theorem dL_isAhead_362 : decode cL_isAhead 362 = .ok (.iload 10, 2) := by decide +kernel
theorem dL_isAhead_364 : decode cL_isAhead 364 = .ok (.iconst 1, 1) := by decide +kernel
theorem dL_isAhead_365 : decode cL_isAhead 365 = .ok (.if_icmp .ne 32, 3) := by decide +kernel
theorem dL_isAhead_368 : decode cL_isAhead 368 = .ok (.aload_n 0, 1) := by decide +kernel
theorem dL_isAhead_369 : decode cL_isAhead 369 = .ok (.invokevirtual 106, 3) := by decide +kernel
theorem dL_isAhead_372 : decode cL_isAhead 372 = .ok (.iload 9, 2) := by decide +kernel
theorem dL_isAhead_374 : decode cL_isAhead 374 = .ok (.aload 5, 2) := by decide +kernel
theorem dL_isAhead_376 : decode cL_isAhead 376 = .ok (.aload 6, 2) := by decide +kernel
theorem dL_isAhead_378 : decode cL_isAhead 378 = .ok (.iconst 0, 1) := by decide +kernel
theorem dL_isAhead_379 : decode cL_isAhead 379 = .ok (.bipush 23, 2) := by decide +kernel
theorem dL_isAhead_381 : decode cL_isAhead 381 = .ok (.invokestatic 102, 3) := by decide +kernel
theorem dL_isAhead_384 : decode cL_isAhead 384 = .ok (.if_icmp .ge 7, 3) := by decide +kernel
theorem dL_isAhead_387 : decode cL_isAhead 387 = .ok (.iconst 0, 1) := by decide +kernel
theorem dL_isAhead_388 : decode cL_isAhead 388 = .ok (.goto 4, 3) := by decide +kernel
theorem dL_isAhead_391 : decode cL_isAhead 391 = .ok (.iconst 1, 1) := by decide +kernel
theorem dL_isAhead_392 : decode cL_isAhead 392 = .ok (.if_icmp .eq 5, 3) := by decide +kernel
theorem dL_isAhead_395 : decode cL_isAhead 395 = .ok (.iconst 0, 1) := by decide +kernel
theorem dL_isAhead_396 : decode cL_isAhead 396 = .ok (.ireturn, 1) := by decide +kernel
theorem dL_isAhead_397 : decode cL_isAhead 397 = .ok (.aload 5, 2) := by decide +kernel
theorem dL_isAhead_399 : decode cL_isAhead 399 = .ok (.aload 6, 2) := by decide +kernel
theorem dL_isAhead_401 : decode cL_isAhead 401 = .ok (.iconst 0, 1) := by decide +kernel
theorem dL_isAhead_402 : decode cL_isAhead 402 = .ok (.bipush 23, 2) := by decide +kernel
theorem dL_isAhead_404 : decode cL_isAhead 404 = .ok (.invokestatic 102, 3) := by decide +kernel
theorem dL_isAhead_407 : decode cL_isAhead 407 = .ok (.istore 9, 2) := by decide +kernel
theorem dL_isAhead_409 : decode cL_isAhead 409 = .ok (.iinc 10 1, 3) := by decide +kernel
theorem dL_isAhead_412 : decode cL_isAhead 412 = .ok (.goto (-138), 3) := by decide +kernel
theorem dL_isAhead_415 : decode cL_isAhead 415 = .ok (.iconst 1, 1) := by decide +kernel
theorem dL_isAhead_416 : decode cL_isAhead 416 = .ok (.ireturn, 1) := by decide +kernel
