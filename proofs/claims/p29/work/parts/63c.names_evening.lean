theorem dL_evening_327 : decode cL_evening 327 = .ok (.invokevirtual 141, 3) := by decide +kernel
theorem dL_evening_330 : decode cL_evening 330 = .ok (.iload 8, 2) := by decide +kernel
theorem dL_evening_332 : decode cL_evening 332 = .ok (.if_icmp .ne 7, 3) := by decide +kernel
theorem dL_evening_335 : decode cL_evening 335 = .ok (.iconst 1, 1) := by decide +kernel
theorem dL_evening_336 : decode cL_evening 336 = .ok (.goto 4, 3) := by decide +kernel
theorem dL_evening_339 : decode cL_evening 339 = .ok (.iconst 0, 1) := by decide +kernel
theorem dL_evening_340 : decode cL_evening 340 = .ok (.ireturn, 1) := by decide +kernel
theorem dL_evening_341 : decode cL_evening 341 = .ok (.iload_n 2, 1) := by decide +kernel
theorem dL_evening_342 : decode cL_evening 342 = .ok (.bipush 16, 2) := by decide +kernel
theorem dL_evening_344 : decode cL_evening 344 = .ok (.invokestatic 124, 3) := by decide +kernel
theorem dL_evening_347 : decode cL_evening 347 = .ok (.istore 8, 2) := by decide +kernel
theorem dL_evening_349 : decode cL_evening 349 = .ok (.iload_n 2, 1) := by decide +kernel
theorem dL_evening_350 : decode cL_evening 350 = .ok (.bipush 20, 2) := by decide +kernel
theorem dL_evening_352 : decode cL_evening 352 = .ok (.ishr, 1) := by decide +kernel
theorem dL_evening_353 : decode cL_evening 353 = .ok (.iconst 3, 1) := by decide +kernel
theorem dL_evening_354 : decode cL_evening 354 = .ok (.iand, 1) := by decide +kernel
theorem dL_evening_355 : decode cL_evening 355 = .ok (.ifCond .ne 15, 3) := by decide +kernel
theorem dL_evening_358 : decode cL_evening 358 = .ok (.iload_n 2, 1) := by decide +kernel
theorem dL_evening_359 : decode cL_evening 359 = .ok (.iconst 4, 1) := by decide +kernel
theorem dL_evening_360 : decode cL_evening 360 = .ok (.ishr, 1) := by decide +kernel
theorem dL_evening_361 : decode cL_evening 361 = .ok (.sipush 1440, 3) := by decide +kernel
theorem dL_evening_364 : decode cL_evening 364 = .ok (.invokestatic 124, 3) := by decide +kernel
theorem dL_evening_367 : decode cL_evening 367 = .ok (.goto 20, 3) := by decide +kernel
theorem dL_evening_370 : decode cL_evening 370 = .ok (.aload_n 3, 1) := by decide +kernel
theorem dL_evening_371 : decode cL_evening 371 = .ok (.iconst 2, 1) := by decide +kernel
theorem dL_evening_372 : decode cL_evening 372 = .ok (.iaload, 1) := by decide +kernel
theorem dL_evening_373 : decode cL_evening 373 = .ok (.iload_n 2, 1) := by decide +kernel
theorem dL_evening_374 : decode cL_evening 374 = .ok (.iconst 4, 1) := by decide +kernel
theorem dL_evening_375 : decode cL_evening 375 = .ok (.ishr, 1) := by decide +kernel
theorem dL_evening_376 : decode cL_evening 376 = .ok (.sipush 1440, 3) := by decide +kernel
theorem dL_evening_379 : decode cL_evening 379 = .ok (.aload_n 3, 1) := by decide +kernel
theorem dL_evening_380 : decode cL_evening 380 = .ok (.iconst 2, 1) := by decide +kernel
theorem dL_evening_381 : decode cL_evening 381 = .ok (.iaload, 1) := by decide +kernel
theorem dL_evening_382 : decode cL_evening 382 = .ok (.isub, 1) := by decide +kernel
theorem dL_evening_383 : decode cL_evening 383 = .ok (.invokestatic 124, 3) := by decide +kernel
theorem dL_evening_386 : decode cL_evening 386 = .ok (.iadd, 1) := by decide +kernel
theorem dL_evening_387 : decode cL_evening 387 = .ok (.istore 9, 2) := by decide +kernel
theorem dL_evening_389 : decode cL_evening 389 = .ok (.aload_n 3, 1) := by decide +kernel
theorem dL_evening_390 : decode cL_evening 390 = .ok (.iload 8, 2) := by decide +kernel
theorem dL_evening_392 : decode cL_evening 392 = .ok (.invokestatic 63, 3) := by decide +kernel
theorem dL_evening_395 : decode cL_evening 395 = .ok (.ifCond .ne 23, 3) := by decide +kernel
theorem dL_evening_398 : decode cL_evening 398 = .ok (.aload_n 0, 1) := by decide +kernel
theorem dL_evening_399 : decode cL_evening 399 = .ok (.iload 8, 2) := by decide +kernel
theorem dL_evening_401 : decode cL_evening 401 = .ok (.sipush 1440, 3) := by decide +kernel
theorem dL_evening_404 : decode cL_evening 404 = .ok (.invokestatic 144, 3) := by decide +kernel
theorem dL_evening_407 : decode cL_evening 407 = .ok (.bipush (-31), 2) := by decide +kernel
theorem dL_evening_409 : decode cL_evening 409 = .ok (.if_icmp .ne 7, 3) := by decide +kernel
theorem dL_evening_412 : decode cL_evening 412 = .ok (.iconst 1, 1) := by decide +kernel
theorem dL_evening_413 : decode cL_evening 413 = .ok (.goto 4, 3) := by decide +kernel
theorem dL_evening_416 : decode cL_evening 416 = .ok (.iconst 0, 1) := by decide +kernel
theorem dL_evening_417 : decode cL_evening 417 = .ok (.ireturn, 1) := by decide +kernel
theorem dL_evening_418 : decode cL_evening 418 = .ok (.aload 4, 2) := by decide +kernel
theorem dL_evening_420 : decode cL_evening 420 = .ok (.iconst 4, 1) := by decide +kernel
theorem dL_evening_421 : decode cL_evening 421 = .ok (.iload 8, 2) := by decide +kernel
theorem dL_evening_423 : decode cL_evening 423 = .ok (.imul, 1) := by decide +kernel
theorem dL_evening_424 : decode cL_evening 424 = .ok (.iconst 2, 1) := by decide +kernel
theorem dL_evening_425 : decode cL_evening 425 = .ok (.iadd, 1) := by decide +kernel
theorem dL_evening_426 : decode cL_evening 426 = .ok (.iaload, 1) := by decide +kernel
theorem dL_evening_427 : decode cL_evening 427 = .ok (.ifCond .ge 11, 3) := by decide +kernel
theorem dL_evening_430 : decode cL_evening 430 = .ok (.iload 9, 2) := by decide +kernel
theorem dL_evening_432 : decode cL_evening 432 = .ok (.aload_n 3, 1) := by decide +kernel
theorem dL_evening_433 : decode cL_evening 433 = .ok (.iconst 2, 1) := by decide +kernel
theorem dL_evening_434 : decode cL_evening 434 = .ok (.iaload, 1) := by decide +kernel
theorem dL_evening_435 : decode cL_evening 435 = .ok (.if_icmp .ge 36, 3) := by decide +kernel
theorem dL_evening_438 : decode cL_evening 438 = .ok (.aload_n 0, 1) := by decide +kernel
theorem dL_evening_439 : decode cL_evening 439 = .ok (.iload 8, 2) := by decide +kernel
theorem dL_evening_441 : decode cL_evening 441 = .ok (.iload 9, 2) := by decide +kernel
theorem dL_evening_443 : decode cL_evening 443 = .ok (.invokestatic 144, 3) := by decide +kernel
theorem dL_evening_446 : decode cL_evening 446 = .ok (.bipush (-33), 2) := by decide +kernel
theorem dL_evening_448 : decode cL_evening 448 = .ok (.if_icmp .ne 21, 3) := by decide +kernel
theorem dL_evening_451 : decode cL_evening 451 = .ok (.aload_n 0, 1) := by decide +kernel
theorem dL_evening_452 : decode cL_evening 452 = .ok (.iload 8, 2) := by decide +kernel
theorem dL_evening_454 : decode cL_evening 454 = .ok (.sipush 1440, 3) := by decide +kernel
theorem dL_evening_457 : decode cL_evening 457 = .ok (.invokestatic 144, 3) := by decide +kernel
theorem dL_evening_460 : decode cL_evening 460 = .ok (.bipush (-32), 2) := by decide +kernel
theorem dL_evening_462 : decode cL_evening 462 = .ok (.if_icmp .ne 7, 3) := by decide +kernel
theorem dL_evening_465 : decode cL_evening 465 = .ok (.iconst 1, 1) := by decide +kernel
theorem dL_evening_466 : decode cL_evening 466 = .ok (.goto 4, 3) := by decide +kernel
theorem dL_evening_469 : decode cL_evening 469 = .ok (.iconst 0, 1) := by decide +kernel
theorem dL_evening_470 : decode cL_evening 470 = .ok (.ireturn, 1) := by decide +kernel
theorem dL_evening_471 : decode cL_evening 471 = .ok (.aload_n 3, 1) := by decide +kernel
theorem dL_evening_472 : decode cL_evening 472 = .ok (.aload 4, 2) := by decide +kernel
theorem dL_evening_474 : decode cL_evening 474 = .ok (.aload 5, 2) := by decide +kernel
theorem dL_evening_476 : decode cL_evening 476 = .ok (.aload 6, 2) := by decide +kernel
theorem dL_evening_478 : decode cL_evening 478 = .ok (.iload 8, 2) := by decide +kernel
theorem dL_evening_480 : decode cL_evening 480 = .ok (.iload 9, 2) := by decide +kernel
theorem dL_evening_482 : decode cL_evening 482 = .ok (.invokestatic 98, 3) := by decide +kernel
theorem dL_evening_485 : decode cL_evening 485 = .ok (.aload_n 0, 1) := by decide +kernel
theorem dL_evening_486 : decode cL_evening 486 = .ok (.iload 8, 2) := by decide +kernel
theorem dL_evening_488 : decode cL_evening 488 = .ok (.iload 9, 2) := by decide +kernel
theorem dL_evening_490 : decode cL_evening 490 = .ok (.invokestatic 144, 3) := by decide +kernel
theorem dL_evening_493 : decode cL_evening 493 = .ok (.if_icmp .ne 7, 3) := by decide +kernel
theorem dL_evening_496 : decode cL_evening 496 = .ok (.iconst 1, 1) := by decide +kernel
theorem dL_evening_497 : decode cL_evening 497 = .ok (.goto 4, 3) := by decide +kernel
theorem dL_evening_500 : decode cL_evening 500 = .ok (.iconst 0, 1) := by decide +kernel
theorem dL_evening_501 : decode cL_evening 501 = .ok (.ireturn, 1) := by decide +kernel
