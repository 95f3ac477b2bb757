theorem dL_doves_536 : decode cL_doves 536 = .ok (.imul, 1) := by decide +kernel
theorem dL_doves_537 : decode cL_doves 537 = .ok (.iload 10, 2) := by decide +kernel
theorem dL_doves_539 : decode cL_doves 539 = .ok (.if_icmp .ne 7, 3) := by decide +kernel
theorem dL_doves_542 : decode cL_doves 542 = .ok (.iconst 1, 1) := by decide +kernel
theorem dL_doves_543 : decode cL_doves 543 = .ok (.goto 4, 3) := by decide +kernel
theorem dL_doves_546 : decode cL_doves 546 = .ok (.iconst 0, 1) := by decide +kernel
theorem dL_doves_547 : decode cL_doves 547 = .ok (.ireturn, 1) := by decide +kernel
theorem dL_doves_548 : decode cL_doves 548 = .ok (.iload 6, 2) := by decide +kernel
theorem dL_doves_550 : decode cL_doves 550 = .ok (.bipush 10, 2) := by decide +kernel
theorem dL_doves_552 : decode cL_doves 552 = .ok (.if_icmp .ge 75, 3) := by decide +kernel
theorem dL_doves_555 : decode cL_doves 555 = .ok (.iload_n 2, 1) := by decide +kernel
theorem dL_doves_556 : decode cL_doves 556 = .ok (.bipush 24, 2) := by decide +kernel
theorem dL_doves_558 : decode cL_doves 558 = .ok (.invokestatic 124, 3) := by decide +kernel
theorem dL_doves_561 : decode cL_doves 561 = .ok (.istore 7, 2) := by decide +kernel
theorem dL_doves_563 : decode cL_doves 563 = .ok (.aload_n 3, 1) := by decide +kernel
theorem dL_doves_564 : decode cL_doves 564 = .ok (.aload 4, 2) := by decide +kernel
theorem dL_doves_566 : decode cL_doves 566 = .ok (.iload 7, 2) := by decide +kernel
theorem dL_doves_568 : decode cL_doves 568 = .ok (.invokestatic 74, 3) := by decide +kernel
theorem dL_doves_571 : decode cL_doves 571 = .ok (.ifCond .ge 15, 3) := by decide +kernel
theorem dL_doves_574 : decode cL_doves 574 = .ok (.aload_n 3, 1) := by decide +kernel
theorem dL_doves_575 : decode cL_doves 575 = .ok (.iconst 1, 1) := by decide +kernel
theorem dL_doves_576 : decode cL_doves 576 = .ok (.iaload, 1) := by decide +kernel
theorem dL_doves_577 : decode cL_doves 577 = .ok (.iload 7, 2) := by decide +kernel
theorem dL_doves_579 : decode cL_doves 579 = .ok (.ishr, 1) := by decide +kernel
theorem dL_doves_580 : decode cL_doves 580 = .ok (.iconst 1, 1) := by decide +kernel
theorem dL_doves_581 : decode cL_doves 581 = .ok (.iand, 1) := by decide +kernel
theorem dL_doves_582 : decode cL_doves 582 = .ok (.iconst 1, 1) := by decide +kernel
theorem dL_doves_583 : decode cL_doves 583 = .ok (.if_icmp .ne 31, 3) := by decide +kernel
theorem dL_doves_586 : decode cL_doves 586 = .ok (.aload_n 0, 1) := by decide +kernel
theorem dL_doves_587 : decode cL_doves 587 = .ok (.iload 7, 2) := by decide +kernel
theorem dL_doves_589 : decode cL_doves 589 = .ok (.invokestatic 135, 3) := by decide +kernel
theorem dL_doves_592 : decode cL_doves 592 = .ok (.bipush (-33), 2) := by decide +kernel
theorem dL_doves_594 : decode cL_doves 594 = .ok (.if_icmp .ne 18, 3) := by decide +kernel
theorem dL_doves_597 : decode cL_doves 597 = .ok (.aload_n 0, 1) := by decide +kernel
theorem dL_doves_598 : decode cL_doves 598 = .ok (.bipush 24, 2) := by decide +kernel
theorem dL_doves_600 : decode cL_doves 600 = .ok (.invokestatic 135, 3) := by decide +kernel
theorem dL_doves_603 : decode cL_doves 603 = .ok (.bipush (-31), 2) := by decide +kernel
theorem dL_doves_605 : decode cL_doves 605 = .ok (.if_icmp .ne 7, 3) := by decide +kernel
theorem dL_doves_608 : decode cL_doves 608 = .ok (.iconst 1, 1) := by decide +kernel
theorem dL_doves_609 : decode cL_doves 609 = .ok (.goto 4, 3) := by decide +kernel
theorem dL_doves_612 : decode cL_doves 612 = .ok (.iconst 0, 1) := by decide +kernel
theorem dL_doves_613 : decode cL_doves 613 = .ok (.ireturn, 1) := by decide +kernel
theorem dL_doves_614 : decode cL_doves 614 = .ok (.aload_n 3, 1) := by decide +kernel
theorem dL_doves_615 : decode cL_doves 615 = .ok (.iconst 1, 1) := by decide +kernel
theorem dL_doves_616 : decode cL_doves 616 = .ok (.dup2, 1) := by decide +kernel
theorem dL_doves_617 : decode cL_doves 617 = .ok (.iaload, 1) := by decide +kernel
theorem dL_doves_618 : decode cL_doves 618 = .ok (.iconst 1, 1) := by decide +kernel
theorem dL_doves_619 : decode cL_doves 619 = .ok (.iload 7, 2) := by decide +kernel
theorem dL_doves_621 : decode cL_doves 621 = .ok (.ishl, 1) := by decide +kernel
theorem dL_doves_622 : decode cL_doves 622 = .ok (.ior, 1) := by decide +kernel
theorem dL_doves_623 : decode cL_doves 623 = .ok (.iastore, 1) := by decide +kernel
theorem dL_doves_624 : decode cL_doves 624 = .ok (.goto 15, 3) := by decide +kernel
theorem dL_doves_627 : decode cL_doves 627 = .ok (.aload_n 3, 1) := by decide +kernel
theorem dL_doves_628 : decode cL_doves 628 = .ok (.iconst 1, 1) := by decide +kernel
theorem dL_doves_629 : decode cL_doves 629 = .ok (.dup2, 1) := by decide +kernel
theorem dL_doves_630 : decode cL_doves 630 = .ok (.iaload, 1) := by decide +kernel
theorem dL_doves_631 : decode cL_doves 631 = .ok (.iconst 1, 1) := by decide +kernel
theorem dL_doves_632 : decode cL_doves 632 = .ok (.iload 7, 2) := by decide +kernel
theorem dL_doves_634 : decode cL_doves 634 = .ok (.ishl, 1) := by decide +kernel
theorem dL_doves_635 : decode cL_doves 635 = .ok (.iconst (-1), 1) := by decide +kernel
theorem dL_doves_636 : decode cL_doves 636 = .ok (.ixor, 1) := by decide +kernel
theorem dL_doves_637 : decode cL_doves 637 = .ok (.iand, 1) := by decide +kernel
theorem dL_doves_638 : decode cL_doves 638 = .ok (.iastore, 1) := by decide +kernel
theorem dL_doves_639 : decode cL_doves 639 = .ok (.bipush 24, 2) := by decide +kernel
theorem dL_doves_641 : decode cL_doves 641 = .ok (.istore 9, 2) := by decide +kernel
theorem dL_doves_643 : decode cL_doves 643 = .ok (.iconst 0, 1) := by decide +kernel
theorem dL_doves_644 : decode cL_doves 644 = .ok (.istore 10, 2) := by decide +kernel
theorem dL_doves_646 : decode cL_doves 646 = .ok (.iload 10, 2) := by decide +kernel
theorem dL_doves_648 : decode cL_doves 648 = .ok (.bipush 24, 2) := by decide +kernel
theorem dL_doves_650 : decode cL_doves 650 = .ok (.if_icmp .ge 22, 3) := by decide +kernel
theorem dL_doves_653 : decode cL_doves 653 = .ok (.iload 9, 2) := by decide +kernel
theorem dL_doves_655 : decode cL_doves 655 = .ok (.aload_n 3, 1) := by decide +kernel
theorem dL_doves_656 : decode cL_doves 656 = .ok (.iconst 1, 1) := by decide +kernel
theorem dL_doves_657 : decode cL_doves 657 = .ok (.iaload, 1) := by decide +kernel
theorem dL_doves_658 : decode cL_doves 658 = .ok (.iload 10, 2) := by decide +kernel
theorem dL_doves_660 : decode cL_doves 660 = .ok (.ishr, 1) := by decide +kernel
theorem dL_doves_661 : decode cL_doves 661 = .ok (.iconst 1, 1) := by decide +kernel
theorem dL_doves_662 : decode cL_doves 662 = .ok (.iand, 1) := by decide +kernel
theorem dL_doves_663 : decode cL_doves 663 = .ok (.isub, 1) := by decide +kernel
theorem dL_doves_664 : decode cL_doves 664 = .ok (.istore 9, 2) := by decide +kernel
theorem dL_doves_666 : decode cL_doves 666 = .ok (.iinc 10 1, 3) := by decide +kernel
theorem dL_doves_669 : decode cL_doves 669 = .ok (.goto (-23), 3) := by decide +kernel
theorem dL_doves_672 : decode cL_doves 672 = .ok (.iload 6, 2) := by decide +kernel
theorem dL_doves_674 : decode cL_doves 674 = .ok (.bipush 10, 2) := by decide +kernel
theorem dL_doves_676 : decode cL_doves 676 = .ok (.if_icmp .ge 12, 3) := by decide +kernel
theorem dL_doves_679 : decode cL_doves 679 = .ok (.aload_n 0, 1) := by decide +kernel
theorem dL_doves_680 : decode cL_doves 680 = .ok (.iload 7, 2) := by decide +kernel
theorem dL_doves_682 : decode cL_doves 682 = .ok (.invokestatic 135, 3) := by decide +kernel
theorem dL_doves_685 : decode cL_doves 685 = .ok (.goto 9, 3) := by decide +kernel
theorem dL_doves_688 : decode cL_doves 688 = .ok (.aload_n 0, 1) := by decide +kernel
theorem dL_doves_689 : decode cL_doves 689 = .ok (.iload 7, 2) := by decide +kernel
theorem dL_doves_691 : decode cL_doves 691 = .ok (.invokestatic 137, 3) := by decide +kernel
theorem dL_doves_694 : decode cL_doves 694 = .ok (.iload 9, 2) := by decide +kernel
theorem dL_doves_696 : decode cL_doves 696 = .ok (.if_icmp .ne 17, 3) := by decide +kernel
theorem dL_doves_699 : decode cL_doves 699 = .ok (.aload_n 0, 1) := by decide +kernel
theorem dL_doves_700 : decode cL_doves 700 = .ok (.iconst (-1), 1) := by decide +kernel
theorem dL_doves_701 : decode cL_doves 701 = .ok (.invokestatic 137, 3) := by decide +kernel
theorem dL_doves_704 : decode cL_doves 704 = .ok (.bipush (-31), 2) := by decide +kernel
theorem dL_doves_706 : decode cL_doves 706 = .ok (.if_icmp .ne 7, 3) := by decide +kernel
theorem dL_doves_709 : decode cL_doves 709 = .ok (.iconst 1, 1) := by decide +kernel
theorem dL_doves_710 : decode cL_doves 710 = .ok (.goto 4, 3) := by decide +kernel
theorem dL_doves_713 : decode cL_doves 713 = .ok (.iconst 0, 1) := by decide +kernel
theorem dL_doves_714 : decode cL_doves 714 = .ok (.ireturn, 1) := by decide +kernel
