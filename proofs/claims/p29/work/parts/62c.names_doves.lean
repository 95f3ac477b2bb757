theorem dL_doves_348 : decode cL_doves 348 = .ok (.iconst 0, 1) := by decide +kernel
theorem dL_doves_349 : decode cL_doves 349 = .ok (.ireturn, 1) := by decide +kernel
theorem dL_doves_350 : decode cL_doves 350 = .ok (.iload 6, 2) := by decide +kernel
theorem dL_doves_352 : decode cL_doves 352 = .ok (.bipush 8, 2) := by decide +kernel
theorem dL_doves_354 : decode cL_doves 354 = .ok (.if_icmp .ge 194, 3) := by decide +kernel
theorem dL_doves_357 : decode cL_doves 357 = .ok (.iload_n 2, 1) := by decide +kernel
theorem dL_doves_358 : decode cL_doves 358 = .ok (.bipush 9, 2) := by decide +kernel
theorem dL_doves_360 : decode cL_doves 360 = .ok (.ishr, 1) := by decide +kernel
theorem dL_doves_361 : decode cL_doves 361 = .ok (.bipush 16, 2) := by decide +kernel
theorem dL_doves_363 : decode cL_doves 363 = .ok (.invokestatic 124, 3) := by decide +kernel
theorem dL_doves_366 : decode cL_doves 366 = .ok (.istore 9, 2) := by decide +kernel
theorem dL_doves_368 : decode cL_doves 368 = .ok (.aload_n 3, 1) := by decide +kernel
theorem dL_doves_369 : decode cL_doves 369 = .ok (.iload 8, 2) := by decide +kernel
theorem dL_doves_371 : decode cL_doves 371 = .ok (.invokestatic 63, 3) := by decide +kernel
theorem dL_doves_374 : decode cL_doves 374 = .ok (.ifCond .eq 12, 3) := by decide +kernel
theorem dL_doves_377 : decode cL_doves 377 = .ok (.aload_n 3, 1) := by decide +kernel
theorem dL_doves_378 : decode cL_doves 378 = .ok (.iload 9, 2) := by decide +kernel
theorem dL_doves_380 : decode cL_doves 380 = .ok (.invokestatic 63, 3) := by decide +kernel
theorem dL_doves_383 : decode cL_doves 383 = .ok (.ifCond .ne 22, 3) := by decide +kernel
theorem dL_doves_386 : decode cL_doves 386 = .ok (.aload_n 0, 1) := by decide +kernel
theorem dL_doves_387 : decode cL_doves 387 = .ok (.iload 8, 2) := by decide +kernel
theorem dL_doves_389 : decode cL_doves 389 = .ok (.iload 9, 2) := by decide +kernel
theorem dL_doves_391 : decode cL_doves 391 = .ok (.invokestatic 133, 3) := by decide +kernel
theorem dL_doves_394 : decode cL_doves 394 = .ok (.bipush (-31), 2) := by decide +kernel
theorem dL_doves_396 : decode cL_doves 396 = .ok (.if_icmp .ne 7, 3) := by decide +kernel
theorem dL_doves_399 : decode cL_doves 399 = .ok (.iconst 1, 1) := by decide +kernel
theorem dL_doves_400 : decode cL_doves 400 = .ok (.goto 4, 3) := by decide +kernel
theorem dL_doves_403 : decode cL_doves 403 = .ok (.iconst 0, 1) := by decide +kernel
theorem dL_doves_404 : decode cL_doves 404 = .ok (.ireturn, 1) := by decide +kernel
theorem dL_doves_405 : decode cL_doves 405 = .ok (.iload 8, 2) := by decide +kernel
theorem dL_doves_407 : decode cL_doves 407 = .ok (.iload 9, 2) := by decide +kernel
theorem dL_doves_409 : decode cL_doves 409 = .ok (.if_icmp .eq 27, 3) := by decide +kernel
theorem dL_doves_412 : decode cL_doves 412 = .ok (.aload 4, 2) := by decide +kernel
theorem dL_doves_414 : decode cL_doves 414 = .ok (.iconst 4, 1) := by decide +kernel
theorem dL_doves_415 : decode cL_doves 415 = .ok (.iload 8, 2) := by decide +kernel
theorem dL_doves_417 : decode cL_doves 417 = .ok (.imul, 1) := by decide +kernel
theorem dL_doves_418 : decode cL_doves 418 = .ok (.iconst 3, 1) := by decide +kernel
theorem dL_doves_419 : decode cL_doves 419 = .ok (.iadd, 1) := by decide +kernel
theorem dL_doves_420 : decode cL_doves 420 = .ok (.iaload, 1) := by decide +kernel
theorem dL_doves_421 : decode cL_doves 421 = .ok (.ifCond .ge 15, 3) := by decide +kernel
theorem dL_doves_424 : decode cL_doves 424 = .ok (.aload 4, 2) := by decide +kernel
theorem dL_doves_426 : decode cL_doves 426 = .ok (.iconst 4, 1) := by decide +kernel
theorem dL_doves_427 : decode cL_doves 427 = .ok (.iload 9, 2) := by decide +kernel
theorem dL_doves_429 : decode cL_doves 429 = .ok (.imul, 1) := by decide +kernel
theorem dL_doves_430 : decode cL_doves 430 = .ok (.iconst 3, 1) := by decide +kernel
theorem dL_doves_431 : decode cL_doves 431 = .ok (.iadd, 1) := by decide +kernel
theorem dL_doves_432 : decode cL_doves 432 = .ok (.iaload, 1) := by decide +kernel
theorem dL_doves_433 : decode cL_doves 433 = .ok (.ifCond .lt 22, 3) := by decide +kernel
theorem dL_doves_436 : decode cL_doves 436 = .ok (.aload_n 0, 1) := by decide +kernel
theorem dL_doves_437 : decode cL_doves 437 = .ok (.iload 8, 2) := by decide +kernel
theorem dL_doves_439 : decode cL_doves 439 = .ok (.iload 9, 2) := by decide +kernel
theorem dL_doves_441 : decode cL_doves 441 = .ok (.invokestatic 133, 3) := by decide +kernel
theorem dL_doves_444 : decode cL_doves 444 = .ok (.bipush (-33), 2) := by decide +kernel
theorem dL_doves_446 : decode cL_doves 446 = .ok (.if_icmp .ne 7, 3) := by decide +kernel
theorem dL_doves_449 : decode cL_doves 449 = .ok (.iconst 1, 1) := by decide +kernel
theorem dL_doves_450 : decode cL_doves 450 = .ok (.goto 4, 3) := by decide +kernel
theorem dL_doves_453 : decode cL_doves 453 = .ok (.iconst 0, 1) := by decide +kernel
theorem dL_doves_454 : decode cL_doves 454 = .ok (.ireturn, 1) := by decide +kernel
theorem dL_doves_455 : decode cL_doves 455 = .ok (.aload 4, 2) := by decide +kernel
theorem dL_doves_457 : decode cL_doves 457 = .ok (.iconst 4, 1) := by decide +kernel
theorem dL_doves_458 : decode cL_doves 458 = .ok (.iload 8, 2) := by decide +kernel
theorem dL_doves_460 : decode cL_doves 460 = .ok (.imul, 1) := by decide +kernel
theorem dL_doves_461 : decode cL_doves 461 = .ok (.iconst 3, 1) := by decide +kernel
theorem dL_doves_462 : decode cL_doves 462 = .ok (.iadd, 1) := by decide +kernel
theorem dL_doves_463 : decode cL_doves 463 = .ok (.iload 9, 2) := by decide +kernel
theorem dL_doves_465 : decode cL_doves 465 = .ok (.iastore, 1) := by decide +kernel
theorem dL_doves_466 : decode cL_doves 466 = .ok (.aload 4, 2) := by decide +kernel
theorem dL_doves_468 : decode cL_doves 468 = .ok (.iconst 4, 1) := by decide +kernel
theorem dL_doves_469 : decode cL_doves 469 = .ok (.iload 9, 2) := by decide +kernel
theorem dL_doves_471 : decode cL_doves 471 = .ok (.imul, 1) := by decide +kernel
theorem dL_doves_472 : decode cL_doves 472 = .ok (.iconst 3, 1) := by decide +kernel
theorem dL_doves_473 : decode cL_doves 473 = .ok (.iadd, 1) := by decide +kernel
theorem dL_doves_474 : decode cL_doves 474 = .ok (.iload 8, 2) := by decide +kernel
theorem dL_doves_476 : decode cL_doves 476 = .ok (.iastore, 1) := by decide +kernel
theorem dL_doves_477 : decode cL_doves 477 = .ok (.iconst 0, 1) := by decide +kernel
theorem dL_doves_478 : decode cL_doves 478 = .ok (.istore 10, 2) := by decide +kernel
theorem dL_doves_480 : decode cL_doves 480 = .ok (.iconst 0, 1) := by decide +kernel
theorem dL_doves_481 : decode cL_doves 481 = .ok (.istore 11, 2) := by decide +kernel
theorem dL_doves_483 : decode cL_doves 483 = .ok (.iload 11, 2) := by decide +kernel
theorem dL_doves_485 : decode cL_doves 485 = .ok (.bipush 16, 2) := by decide +kernel
theorem dL_doves_487 : decode cL_doves 487 = .ok (.if_icmp .ge 40, 3) := by decide +kernel
theorem dL_doves_490 : decode cL_doves 490 = .ok (.iload 10, 2) := by decide +kernel
theorem dL_doves_492 : decode cL_doves 492 = .ok (.aload_n 3, 1) := by decide +kernel
theorem dL_doves_493 : decode cL_doves 493 = .ok (.iload 11, 2) := by decide +kernel
theorem dL_doves_495 : decode cL_doves 495 = .ok (.invokestatic 63, 3) := by decide +kernel
theorem dL_doves_498 : decode cL_doves 498 = .ok (.ifCond .eq 19, 3) := by decide +kernel
theorem dL_doves_501 : decode cL_doves 501 = .ok (.aload 4, 2) := by decide +kernel
theorem dL_doves_503 : decode cL_doves 503 = .ok (.iconst 4, 1) := by decide +kernel
theorem dL_doves_504 : decode cL_doves 504 = .ok (.iload 11, 2) := by decide +kernel
theorem dL_doves_506 : decode cL_doves 506 = .ok (.imul, 1) := by decide +kernel
theorem dL_doves_507 : decode cL_doves 507 = .ok (.iconst 3, 1) := by decide +kernel
theorem dL_doves_508 : decode cL_doves 508 = .ok (.iadd, 1) := by decide +kernel
theorem dL_doves_509 : decode cL_doves 509 = .ok (.iaload, 1) := by decide +kernel
theorem dL_doves_510 : decode cL_doves 510 = .ok (.ifCond .lt 7, 3) := by decide +kernel
theorem dL_doves_513 : decode cL_doves 513 = .ok (.iconst 1, 1) := by decide +kernel
theorem dL_doves_514 : decode cL_doves 514 = .ok (.goto 4, 3) := by decide +kernel
theorem dL_doves_517 : decode cL_doves 517 = .ok (.iconst 0, 1) := by decide +kernel
theorem dL_doves_518 : decode cL_doves 518 = .ok (.iadd, 1) := by decide +kernel
theorem dL_doves_519 : decode cL_doves 519 = .ok (.istore 10, 2) := by decide +kernel
theorem dL_doves_521 : decode cL_doves 521 = .ok (.iinc 11 1, 3) := by decide +kernel
theorem dL_doves_524 : decode cL_doves 524 = .ok (.goto (-41), 3) := by decide +kernel
theorem dL_doves_527 : decode cL_doves 527 = .ok (.iconst 2, 1) := by decide +kernel
theorem dL_doves_528 : decode cL_doves 528 = .ok (.aload_n 0, 1) := by decide +kernel
theorem dL_doves_529 : decode cL_doves 529 = .ok (.iload 8, 2) := by decide +kernel
theorem dL_doves_531 : decode cL_doves 531 = .ok (.iload 9, 2) := by decide +kernel
theorem dL_doves_533 : decode cL_doves 533 = .ok (.invokestatic 133, 3) := by decide +kernel
