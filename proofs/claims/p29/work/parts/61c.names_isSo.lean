theorem dL_isSo_292 : decode cL_isSo 292 = .ok (.aload 4, 2) := by decide +kernel
theorem dL_isSo_294 : decode cL_isSo 294 = .ok (.iload 10, 2) := by decide +kernel
theorem dL_isSo_296 : decode cL_isSo 296 = .ok (.iaload, 1) := by decide +kernel
theorem dL_isSo_297 : decode cL_isSo 297 = .ok (.bipush 32, 2) := by decide +kernel
theorem dL_isSo_299 : decode cL_isSo 299 = .ok (.idiv, 1) := by decide +kernel
theorem dL_isSo_300 : decode cL_isSo 300 = .ok (.if_icmp .ne 21, 3) := by decide +kernel
theorem dL_isSo_303 : decode cL_isSo 303 = .ok (.aload_n 0, 1) := by decide +kernel
theorem dL_isSo_304 : decode cL_isSo 304 = .ok (.iload 10, 2) := by decide +kernel
theorem dL_isSo_306 : decode cL_isSo 306 = .ok (.iconst 1, 1) := by decide +kernel
theorem dL_isSo_307 : decode cL_isSo 307 = .ok (.invokevirtual 60, 3) := by decide +kernel
theorem dL_isSo_310 : decode cL_isSo 310 = .ok (.aload 4, 2) := by decide +kernel
theorem dL_isSo_312 : decode cL_isSo 312 = .ok (.iload 10, 2) := by decide +kernel
theorem dL_isSo_314 : decode cL_isSo 314 = .ok (.iaload, 1) := by decide +kernel
theorem dL_isSo_315 : decode cL_isSo 315 = .ok (.bipush 32, 2) := by decide +kernel
theorem dL_isSo_317 : decode cL_isSo 317 = .ok (.irem, 1) := by decide +kernel
theorem dL_isSo_318 : decode cL_isSo 318 = .ok (.if_icmp .eq 5, 3) := by decide +kernel
theorem dL_isSo_321 : decode cL_isSo 321 = .ok (.iconst 0, 1) := by decide +kernel
theorem dL_isSo_322 : decode cL_isSo 322 = .ok (.ireturn, 1) := by decide +kernel
theorem dL_isSo_323 : decode cL_isSo 323 = .ok (.iinc 10 1, 3) := by decide +kernel
theorem dL_isSo_326 : decode cL_isSo 326 = .ok (.goto (-50), 3) := by decide +kernel
theorem dL_isSo_329 : decode cL_isSo 329 = .ok (.iconst 0, 1) := by decide +kernel
theorem dL_isSo_330 : decode cL_isSo 330 = .ok (.istore 10, 2) := by decide +kernel
theorem dL_isSo_332 : decode cL_isSo 332 = .ok (.iload 10, 2) := by decide +kernel
theorem dL_isSo_334 : decode cL_isSo 334 = .ok (.iconst 4, 1) := by decide +kernel
theorem dL_isSo_335 : decode cL_isSo 335 = .ok (.if_icmp .ge 30, 3) := by decide +kernel
theorem dL_isSo_338 : decode cL_isSo 338 = .ok (.aload_n 0, 1) := by decide +kernel
theorem dL_isSo_339 : decode cL_isSo 339 = .ok (.bipush 11, 2) := by decide +kernel
theorem dL_isSo_341 : decode cL_isSo 341 = .ok (.iload 10, 2) := by decide +kernel
theorem dL_isSo_343 : decode cL_isSo 343 = .ok (.iadd, 1) := by decide +kernel
theorem dL_isSo_344 : decode cL_isSo 344 = .ok (.invokevirtual 114, 3) := by decide +kernel
theorem dL_isSo_347 : decode cL_isSo 347 = .ok (.aload_n 1, 1) := by decide +kernel
theorem dL_isSo_348 : decode cL_isSo 348 = .ok (.bipush 8, 2) := by decide +kernel
theorem dL_isSo_350 : decode cL_isSo 350 = .ok (.iload 10, 2) := by decide +kernel
theorem dL_isSo_352 : decode cL_isSo 352 = .ok (.iadd, 1) := by decide +kernel
theorem dL_isSo_353 : decode cL_isSo 353 = .ok (.iaload, 1) := by decide +kernel
theorem dL_isSo_354 : decode cL_isSo 354 = .ok (.if_icmp .eq 5, 3) := by decide +kernel
theorem dL_isSo_357 : decode cL_isSo 357 = .ok (.iconst 0, 1) := by decide +kernel
theorem dL_isSo_358 : decode cL_isSo 358 = .ok (.ireturn, 1) := by decide +kernel
theorem dL_isSo_359 : decode cL_isSo 359 = .ok (.iinc 10 1, 3) := by decide +kernel
theorem dL_isSo_362 : decode cL_isSo 362 = .ok (.goto (-30), 3) := by decide +kernel
theorem dL_isSo_365 : decode cL_isSo 365 = .ok (.aload_n 1, 1) := by decide +kernel
theorem dL_isSo_366 : decode cL_isSo 366 = .ok (.aload_n 2, 1) := by decide +kernel
theorem dL_isSo_367 : decode cL_isSo 367 = .ok (.iconst 0, 1) := by decide +kernel
theorem dL_isSo_368 : decode cL_isSo 368 = .ok (.bipush 23, 2) := by decide +kernel
theorem dL_isSo_370 : decode cL_isSo 370 = .ok (.invokestatic 102, 3) := by decide +kernel
theorem dL_isSo_373 : decode cL_isSo 373 = .ok (.istore 10, 2) := by decide +kernel
theorem dL_isSo_375 : decode cL_isSo 375 = .ok (.aload_n 0, 1) := by decide +kernel
theorem dL_isSo_376 : decode cL_isSo 376 = .ok (.aload_n 1, 1) := by decide +kernel
theorem dL_isSo_377 : decode cL_isSo 377 = .ok (.bipush 12, 2) := by decide +kernel
theorem dL_isSo_379 : decode cL_isSo 379 = .ok (.iaload, 1) := by decide +kernel
theorem dL_isSo_380 : decode cL_isSo 380 = .ok (.iconst 0, 1) := by decide +kernel
theorem dL_isSo_381 : decode cL_isSo 381 = .ok (.invokevirtual 60, 3) := by decide +kernel
theorem dL_isSo_384 : decode cL_isSo 384 = .ok (.iconst (-1), 1) := by decide +kernel
theorem dL_isSo_385 : decode cL_isSo 385 = .ok (.if_icmp .ne 164, 3) := by decide +kernel
theorem dL_isSo_388 : decode cL_isSo 388 = .ok (.aload_n 0, 1) := by decide +kernel
theorem dL_isSo_389 : decode cL_isSo 389 = .ok (.iconst 0, 1) := by decide +kernel
theorem dL_isSo_390 : decode cL_isSo 390 = .ok (.invokevirtual 114, 3) := by decide +kernel
theorem dL_isSo_393 : decode cL_isSo 393 = .ok (.aload_n 1, 1) := by decide +kernel
theorem dL_isSo_394 : decode cL_isSo 394 = .ok (.iconst 3, 1) := by decide +kernel
theorem dL_isSo_395 : decode cL_isSo 395 = .ok (.iaload, 1) := by decide +kernel
theorem dL_isSo_396 : decode cL_isSo 396 = .ok (.if_icmp .ne 153, 3) := by decide +kernel
theorem dL_isSo_399 : decode cL_isSo 399 = .ok (.aload_n 0, 1) := by decide +kernel
theorem dL_isSo_400 : decode cL_isSo 400 = .ok (.iconst 1, 1) := by decide +kernel
theorem dL_isSo_401 : decode cL_isSo 401 = .ok (.invokevirtual 114, 3) := by decide +kernel
theorem dL_isSo_404 : decode cL_isSo 404 = .ok (.aload_n 1, 1) := by decide +kernel
theorem dL_isSo_405 : decode cL_isSo 405 = .ok (.iconst 2, 1) := by decide +kernel
theorem dL_isSo_406 : decode cL_isSo 406 = .ok (.iaload, 1) := by decide +kernel
theorem dL_isSo_407 : decode cL_isSo 407 = .ok (.if_icmp .ne 142, 3) := by decide +kernel
theorem dL_isSo_410 : decode cL_isSo 410 = .ok (.aload_n 0, 1) := by decide +kernel
theorem dL_isSo_411 : decode cL_isSo 411 = .ok (.iconst 2, 1) := by decide +kernel
theorem dL_isSo_412 : decode cL_isSo 412 = .ok (.invokevirtual 114, 3) := by decide +kernel
theorem dL_isSo_415 : decode cL_isSo 415 = .ok (.iload 5, 2) := by decide +kernel
theorem dL_isSo_417 : decode cL_isSo 417 = .ok (.if_icmp .ne 132, 3) := by decide +kernel
theorem dL_isSo_420 : decode cL_isSo 420 = .ok (.aload_n 0, 1) := by decide +kernel
theorem dL_isSo_421 : decode cL_isSo 421 = .ok (.iconst 3, 1) := by decide +kernel
theorem dL_isSo_422 : decode cL_isSo 422 = .ok (.invokevirtual 114, 3) := by decide +kernel
theorem dL_isSo_425 : decode cL_isSo 425 = .ok (.iload 10, 2) := by decide +kernel
theorem dL_isSo_427 : decode cL_isSo 427 = .ok (.if_icmp .ne 122, 3) := by decide +kernel
theorem dL_isSo_430 : decode cL_isSo 430 = .ok (.aload_n 0, 1) := by decide +kernel
theorem dL_isSo_431 : decode cL_isSo 431 = .ok (.iconst 4, 1) := by decide +kernel
theorem dL_isSo_432 : decode cL_isSo 432 = .ok (.invokevirtual 114, 3) := by decide +kernel
theorem dL_isSo_435 : decode cL_isSo 435 = .ok (.iload 10, 2) := by decide +kernel
theorem dL_isSo_437 : decode cL_isSo 437 = .ok (.if_icmp .ne 112, 3) := by decide +kernel
theorem dL_isSo_440 : decode cL_isSo 440 = .ok (.aload_n 0, 1) := by decide +kernel
