theorem dL_isSo_441 : decode cL_isSo 441 = .ok (.iconst 5, 1) := by decide +kernel
theorem dL_isSo_442 : decode cL_isSo 442 = .ok (.invokevirtual 114, 3) := by decide +kernel
theorem dL_isSo_445 : decode cL_isSo 445 = .ok (.aload_n 1, 1) := by decide +kernel
theorem dL_isSo_446 : decode cL_isSo 446 = .ok (.aload_n 2, 1) := by decide +kernel
theorem dL_isSo_447 : decode cL_isSo 447 = .ok (.bipush 24, 2) := by decide +kernel
theorem dL_isSo_449 : decode cL_isSo 449 = .ok (.bipush 24, 2) := by decide +kernel
theorem dL_isSo_451 : decode cL_isSo 451 = .ok (.invokestatic 102, 3) := by decide +kernel
theorem dL_isSo_454 : decode cL_isSo 454 = .ok (.if_icmp .ne 95, 3) := by decide +kernel
theorem dL_isSo_457 : decode cL_isSo 457 = .ok (.aload_n 0, 1) := by decide +kernel
theorem dL_isSo_458 : decode cL_isSo 458 = .ok (.bipush 6, 2) := by decide +kernel
theorem dL_isSo_460 : decode cL_isSo 460 = .ok (.invokevirtual 114, 3) := by decide +kernel
theorem dL_isSo_463 : decode cL_isSo 463 = .ok (.aload_n 1, 1) := by decide +kernel
theorem dL_isSo_464 : decode cL_isSo 464 = .ok (.aload_n 2, 1) := by decide +kernel
theorem dL_isSo_465 : decode cL_isSo 465 = .ok (.iconst (-1), 1) := by decide +kernel
theorem dL_isSo_466 : decode cL_isSo 466 = .ok (.iconst (-1), 1) := by decide +kernel
theorem dL_isSo_467 : decode cL_isSo 467 = .ok (.invokestatic 102, 3) := by decide +kernel
theorem dL_isSo_470 : decode cL_isSo 470 = .ok (.if_icmp .ne 79, 3) := by decide +kernel
theorem dL_isSo_473 : decode cL_isSo 473 = .ok (.aload_n 0, 1) := by decide +kernel
theorem dL_isSo_474 : decode cL_isSo 474 = .ok (.bipush 7, 2) := by decide +kernel
theorem dL_isSo_476 : decode cL_isSo 476 = .ok (.invokevirtual 114, 3) := by decide +kernel
theorem dL_isSo_479 : decode cL_isSo 479 = .ok (.iload 8, 2) := by decide +kernel
theorem dL_isSo_481 : decode cL_isSo 481 = .ok (.if_icmp .ne 68, 3) := by decide +kernel
theorem dL_isSo_484 : decode cL_isSo 484 = .ok (.aload_n 0, 1) := by decide +kernel
theorem dL_isSo_485 : decode cL_isSo 485 = .ok (.bipush 8, 2) := by decide +kernel
theorem dL_isSo_487 : decode cL_isSo 487 = .ok (.invokevirtual 114, 3) := by decide +kernel
theorem dL_isSo_490 : decode cL_isSo 490 = .ok (.iload 6, 2) := by decide +kernel
theorem dL_isSo_492 : decode cL_isSo 492 = .ok (.if_icmp .ne 57, 3) := by decide +kernel
theorem dL_isSo_495 : decode cL_isSo 495 = .ok (.aload_n 0, 1) := by decide +kernel
theorem dL_isSo_496 : decode cL_isSo 496 = .ok (.bipush 9, 2) := by decide +kernel
theorem dL_isSo_498 : decode cL_isSo 498 = .ok (.invokevirtual 114, 3) := by decide +kernel
theorem dL_isSo_501 : decode cL_isSo 501 = .ok (.aload_n 1, 1) := by decide +kernel
theorem dL_isSo_502 : decode cL_isSo 502 = .ok (.bipush 6, 2) := by decide +kernel
theorem dL_isSo_504 : decode cL_isSo 504 = .ok (.iaload, 1) := by decide +kernel
theorem dL_isSo_505 : decode cL_isSo 505 = .ok (.if_icmp .ne 44, 3) := by decide +kernel
theorem dL_isSo_508 : decode cL_isSo 508 = .ok (.aload_n 0, 1) := by decide +kernel
theorem dL_isSo_509 : decode cL_isSo 509 = .ok (.bipush 10, 2) := by decide +kernel
theorem dL_isSo_511 : decode cL_isSo 511 = .ok (.invokevirtual 114, 3) := by decide +kernel
theorem dL_isSo_514 : decode cL_isSo 514 = .ok (.aload_n 1, 1) := by decide +kernel
theorem dL_isSo_515 : decode cL_isSo 515 = .ok (.bipush 7, 2) := by decide +kernel
theorem dL_isSo_517 : decode cL_isSo 517 = .ok (.iaload, 1) := by decide +kernel
theorem dL_isSo_518 : decode cL_isSo 518 = .ok (.if_icmp .ne 31, 3) := by decide +kernel
theorem dL_isSo_521 : decode cL_isSo 521 = .ok (.aload_n 0, 1) := by decide +kernel
theorem dL_isSo_522 : decode cL_isSo 522 = .ok (.bipush 15, 2) := by decide +kernel
theorem dL_isSo_524 : decode cL_isSo 524 = .ok (.invokevirtual 114, 3) := by decide +kernel
theorem dL_isSo_527 : decode cL_isSo 527 = .ok (.aload_n 1, 1) := by decide +kernel
theorem dL_isSo_528 : decode cL_isSo 528 = .ok (.iconst 4, 1) := by decide +kernel
theorem dL_isSo_529 : decode cL_isSo 529 = .ok (.iaload, 1) := by decide +kernel
theorem dL_isSo_530 : decode cL_isSo 530 = .ok (.if_icmp .ne 19, 3) := by decide +kernel
theorem dL_isSo_533 : decode cL_isSo 533 = .ok (.aload_n 0, 1) := by decide +kernel
theorem dL_isSo_534 : decode cL_isSo 534 = .ok (.bipush 16, 2) := by decide +kernel
theorem dL_isSo_536 : decode cL_isSo 536 = .ok (.invokevirtual 114, 3) := by decide +kernel
theorem dL_isSo_539 : decode cL_isSo 539 = .ok (.aload_n 1, 1) := by decide +kernel
theorem dL_isSo_540 : decode cL_isSo 540 = .ok (.iconst 5, 1) := by decide +kernel
theorem dL_isSo_541 : decode cL_isSo 541 = .ok (.iaload, 1) := by decide +kernel
theorem dL_isSo_542 : decode cL_isSo 542 = .ok (.if_icmp .ne 7, 3) := by decide +kernel
theorem dL_isSo_545 : decode cL_isSo 545 = .ok (.iconst 1, 1) := by decide +kernel
theorem dL_isSo_546 : decode cL_isSo 546 = .ok (.goto 4, 3) := by decide +kernel
theorem dL_isSo_549 : decode cL_isSo 549 = .ok (.iconst 0, 1) := by decide +kernel
theorem dL_isSo_550 : decode cL_isSo 550 = .ok (.istore 11, 2) := by decide +kernel
theorem dL_isSo_552 : decode cL_isSo 552 = .ok (.iload 11, 2) := by decide +kernel
theorem dL_isSo_554 : decode cL_isSo 554 = .ok (.ifCond .eq 40, 3) := by decide +kernel
theorem dL_isSo_557 : decode cL_isSo 557 = .ok (.aload_n 0, 1) := by decide +kernel
theorem dL_isSo_558 : decode cL_isSo 558 = .ok (.invokevirtual 117, 3) := by decide +kernel
theorem dL_isSo_561 : decode cL_isSo 561 = .ok (.iload 9, 2) := by decide +kernel
theorem dL_isSo_563 : decode cL_isSo 563 = .ok (.if_icmp .ne 31, 3) := by decide +kernel
theorem dL_isSo_566 : decode cL_isSo 566 = .ok (.aload_n 0, 1) := by decide +kernel
theorem dL_isSo_567 : decode cL_isSo 567 = .ok (.invokevirtual 120, 3) := by decide +kernel
theorem dL_isSo_570 : decode cL_isSo 570 = .ok (.iload 5, 2) := by decide +kernel
theorem dL_isSo_572 : decode cL_isSo 572 = .ok (.ifCond .ne 7, 3) := by decide +kernel
theorem dL_isSo_575 : decode cL_isSo 575 = .ok (.dconst 1, 1) := by decide +kernel
theorem dL_isSo_576 : decode cL_isSo 576 = .ok (.goto 10, 3) := by decide +kernel
theorem dL_isSo_579 : decode cL_isSo 579 = .ok (.iload 7, 2) := by decide +kernel
theorem dL_isSo_581 : decode cL_isSo 581 = .ok (.i2d, 1) := by decide +kernel
theorem dL_isSo_582 : decode cL_isSo 582 = .ok (.iload 5, 2) := by decide +kernel
theorem dL_isSo_584 : decode cL_isSo 584 = .ok (.i2d, 1) := by decide +kernel
theorem dL_isSo_585 : decode cL_isSo 585 = .ok (.ddiv, 1) := by decide +kernel
theorem dL_isSo_586 : decode cL_isSo 586 = .ok (.dcmp .l, 1) := by decide +kernel
theorem dL_isSo_587 : decode cL_isSo 587 = .ok (.ifCond .ne 7, 3) := by decide +kernel
theorem dL_isSo_590 : decode cL_isSo 590 = .ok (.iconst 1, 1) := by decide +kernel
theorem dL_isSo_591 : decode cL_isSo 591 = .ok (.goto 4, 3) := by decide +kernel
theorem dL_isSo_594 : decode cL_isSo 594 = .ok (.iconst 0, 1) := by decide +kernel
theorem dL_isSo_595 : decode cL_isSo 595 = .ok (.ireturn, 1) := by decide +kernel
