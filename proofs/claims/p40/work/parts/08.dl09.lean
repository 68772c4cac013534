theorem dL_isBest_497 : decode cL_isBest 497 = .ok (.iconst 0, 1) := by decide +kernel
theorem dL_isBest_498 : decode cL_isBest 498 = .ok (.iload 11, 2) := by decide +kernel
theorem dL_isBest_500 : decode cL_isBest 500 = .ok (.iload 12, 2) := by decide +kernel
theorem dL_isBest_502 : decode cL_isBest 502 = .ok (.iconst 0, 1) := by decide +kernel
theorem dL_isBest_503 : decode cL_isBest 503 = .ok (.invokevirtual 144, 3) := by decide +kernel
theorem dL_isBest_506 : decode cL_isBest 506 = .ok (.i2l, 1) := by decide +kernel
theorem dL_isBest_507 : decode cL_isBest 507 = .ok (.aload 13, 2) := by decide +kernel
theorem dL_isBest_509 : decode cL_isBest 509 = .ok (.ifnonnull 9, 3) := by decide +kernel
theorem dL_isBest_512 : decode cL_isBest 512 = .ok (.ldc2_w 148, 3) := by decide +kernel
theorem dL_isBest_515 : decode cL_isBest 515 = .ok (.goto 17, 3) := by decide +kernel
theorem dL_isBest_518 : decode cL_isBest 518 = .ok (.aload 13, 2) := by decide +kernel
theorem dL_isBest_520 : decode cL_isBest 520 = .ok (.iconst 0, 1) := by decide +kernel
theorem dL_isBest_521 : decode cL_isBest 521 = .ok (.laload, 1) := by decide +kernel
theorem dL_isBest_522 : decode cL_isBest 522 = .ok (.aload 13, 2) := by decide +kernel
theorem dL_isBest_524 : decode cL_isBest 524 = .ok (.iconst 1, 1) := by decide +kernel
theorem dL_isBest_525 : decode cL_isBest 525 = .ok (.laload, 1) := by decide +kernel
theorem dL_isBest_526 : decode cL_isBest 526 = .ok (.ladd, 1) := by decide +kernel
theorem dL_isBest_527 : decode cL_isBest 527 = .ok (.aload 13, 2) := by decide +kernel
theorem dL_isBest_529 : decode cL_isBest 529 = .ok (.iconst 2, 1) := by decide +kernel
theorem dL_isBest_530 : decode cL_isBest 530 = .ok (.laload, 1) := by decide +kernel
theorem dL_isBest_531 : decode cL_isBest 531 = .ok (.ladd, 1) := by decide +kernel
theorem dL_isBest_532 : decode cL_isBest 532 = .ok (.lcmp, 1) := by decide +kernel
theorem dL_isBest_533 : decode cL_isBest 533 = .ok (.ifCond .eq 5, 3) := by decide +kernel
theorem dL_isBest_536 : decode cL_isBest 536 = .ok (.iconst 0, 1) := by decide +kernel
theorem dL_isBest_537 : decode cL_isBest 537 = .ok (.ireturn, 1) := by decide +kernel
theorem dL_isBest_538 : decode cL_isBest 538 = .ok (.aload 13, 2) := by decide +kernel
theorem dL_isBest_540 : decode cL_isBest 540 = .ok (.ifnonnull 19, 3) := by decide +kernel
theorem dL_isBest_543 : decode cL_isBest 543 = .ok (.aload_n 0, 1) := by decide +kernel
theorem dL_isBest_544 : decode cL_isBest 544 = .ok (.iconst 0, 1) := by decide +kernel
theorem dL_isBest_545 : decode cL_isBest 545 = .ok (.iload 11, 2) := by decide +kernel
theorem dL_isBest_547 : decode cL_isBest 547 = .ok (.iload 12, 2) := by decide +kernel
theorem dL_isBest_549 : decode cL_isBest 549 = .ok (.invokevirtual 150, 3) := by decide +kernel
theorem dL_isBest_552 : decode cL_isBest 552 = .ok (.bipush (-2), 2) := by decide +kernel
theorem dL_isBest_554 : decode cL_isBest 554 = .ok (.if_icmp .eq 166, 3) := by decide +kernel
theorem dL_isBest_557 : decode cL_isBest 557 = .ok (.iconst 0, 1) := by decide +kernel
theorem dL_isBest_558 : decode cL_isBest 558 = .ok (.ireturn, 1) := by decide +kernel
theorem dL_isBest_559 : decode cL_isBest 559 = .ok (.iconst 0, 1) := by decide +kernel
theorem dL_isBest_560 : decode cL_isBest 560 = .ok (.istore 14, 2) := by decide +kernel
theorem dL_isBest_562 : decode cL_isBest 562 = .ok (.bipush (-60), 2) := by decide +kernel
theorem dL_isBest_564 : decode cL_isBest 564 = .ok (.istore 15, 2) := by decide +kernel
theorem dL_isBest_566 : decode cL_isBest 566 = .ok (.iload 15, 2) := by decide +kernel
theorem dL_isBest_568 : decode cL_isBest 568 = .ok (.bipush 60, 2) := by decide +kernel
theorem dL_isBest_570 : decode cL_isBest 570 = .ok (.if_icmp .gt 108, 3) := by decide +kernel
theorem dL_isBest_573 : decode cL_isBest 573 = .ok (.bipush (-60), 2) := by decide +kernel
theorem dL_isBest_575 : decode cL_isBest 575 = .ok (.iload 15, 2) := by decide +kernel
theorem dL_isBest_577 : decode cL_isBest 577 = .ok (.bipush 8, 2) := by decide +kernel
theorem dL_isBest_579 : decode cL_isBest 579 = .ok (.isub, 1) := by decide +kernel
theorem dL_isBest_580 : decode cL_isBest 580 = .ok (.invokestatic 94, 3) := by decide +kernel
theorem dL_isBest_583 : decode cL_isBest 583 = .ok (.istore 16, 2) := by decide +kernel
theorem dL_isBest_585 : decode cL_isBest 585 = .ok (.iload 16, 2) := by decide +kernel
theorem dL_isBest_587 : decode cL_isBest 587 = .ok (.bipush 60, 2) := by decide +kernel
theorem dL_isBest_589 : decode cL_isBest 589 = .ok (.iload 15, 2) := by decide +kernel
theorem dL_isBest_591 : decode cL_isBest 591 = .ok (.bipush 8, 2) := by decide +kernel
theorem dL_isBest_593 : decode cL_isBest 593 = .ok (.iadd, 1) := by decide +kernel
theorem dL_isBest_594 : decode cL_isBest 594 = .ok (.invokestatic 53, 3) := by decide +kernel
theorem dL_isBest_597 : decode cL_isBest 597 = .ok (.if_icmp .gt 75, 3) := by decide +kernel
theorem dL_isBest_600 : decode cL_isBest 600 = .ok (.aload_n 1, 1) := by decide +kernel
theorem dL_isBest_601 : decode cL_isBest 601 = .ok (.aload_n 2, 1) := by decide +kernel
theorem dL_isBest_602 : decode cL_isBest 602 = .ok (.aload 5, 2) := by decide +kernel
theorem dL_isBest_604 : decode cL_isBest 604 = .ok (.aload 4, 2) := by decide +kernel
theorem dL_isBest_606 : decode cL_isBest 606 = .ok (.iload 15, 2) := by decide +kernel
theorem dL_isBest_608 : decode cL_isBest 608 = .ok (.iload 16, 2) := by decide +kernel
theorem dL_isBest_610 : decode cL_isBest 610 = .ok (.invokestatic 121, 3) := by decide +kernel
theorem dL_isBest_613 : decode cL_isBest 613 = .ok (.astore 17, 2) := by decide +kernel
theorem dL_isBest_615 : decode cL_isBest 615 = .ok (.iload 14, 2) := by decide +kernel
theorem dL_isBest_617 : decode cL_isBest 617 = .ok (.aload 17, 2) := by decide +kernel
theorem dL_isBest_619 : decode cL_isBest 619 = .ok (.ifnull 43, 3) := by decide +kernel
theorem dL_isBest_622 : decode cL_isBest 622 = .ok (.iload 15, 2) := by decide +kernel
theorem dL_isBest_624 : decode cL_isBest 624 = .ok (.iload 11, 2) := by decide +kernel
theorem dL_isBest_626 : decode cL_isBest 626 = .ok (.if_icmp .ne 10, 3) := by decide +kernel
theorem dL_isBest_629 : decode cL_isBest 629 = .ok (.iload 16, 2) := by decide +kernel
theorem dL_isBest_631 : decode cL_isBest 631 = .ok (.iload 12, 2) := by decide +kernel
theorem dL_isBest_633 : decode cL_isBest 633 = .ok (.if_icmp .eq 29, 3) := by decide +kernel
theorem dL_isBest_636 : decode cL_isBest 636 = .ok (.aload 17, 2) := by decide +kernel
theorem dL_isBest_638 : decode cL_isBest 638 = .ok (.iload 15, 2) := by decide +kernel
theorem dL_isBest_640 : decode cL_isBest 640 = .ok (.iload 16, 2) := by decide +kernel
theorem dL_isBest_642 : decode cL_isBest 642 = .ok (.aload 13, 2) := by decide +kernel
theorem dL_isBest_644 : decode cL_isBest 644 = .ok (.iload 11, 2) := by decide +kernel
theorem dL_isBest_646 : decode cL_isBest 646 = .ok (.iload 12, 2) := by decide +kernel
theorem dL_isBest_648 : decode cL_isBest 648 = .ok (.aload 5, 2) := by decide +kernel
theorem dL_isBest_650 : decode cL_isBest 650 = .ok (.iconst 0, 1) := by decide +kernel
theorem dL_isBest_651 : decode cL_isBest 651 = .ok (.iaload, 1) := by decide +kernel
theorem dL_isBest_652 : decode cL_isBest 652 = .ok (.invokestatic 125, 3) := by decide +kernel
theorem dL_isBest_655 : decode cL_isBest 655 = .ok (.ifCond .eq 7, 3) := by decide +kernel
theorem dL_isBest_658 : decode cL_isBest 658 = .ok (.iconst 1, 1) := by decide +kernel
theorem dL_isBest_659 : decode cL_isBest 659 = .ok (.goto 4, 3) := by decide +kernel
theorem dL_isBest_662 : decode cL_isBest 662 = .ok (.iconst 0, 1) := by decide +kernel
theorem dL_isBest_663 : decode cL_isBest 663 = .ok (.iadd, 1) := by decide +kernel
theorem dL_isBest_664 : decode cL_isBest 664 = .ok (.istore 14, 2) := by decide +kernel
theorem dL_isBest_666 : decode cL_isBest 666 = .ok (.iinc 16 1, 3) := by decide +kernel
theorem dL_isBest_669 : decode cL_isBest 669 = .ok (.goto (-84), 3) := by decide +kernel
theorem dL_isBest_672 : decode cL_isBest 672 = .ok (.iinc 15 1, 3) := by decide +kernel
theorem dL_isBest_675 : decode cL_isBest 675 = .ok (.goto (-109), 3) := by decide +kernel
theorem dL_isBest_678 : decode cL_isBest 678 = .ok (.aload_n 0, 1) := by decide +kernel
theorem dL_isBest_679 : decode cL_isBest 679 = .ok (.iconst 0, 1) := by decide +kernel
theorem dL_isBest_680 : decode cL_isBest 680 = .ok (.iload 11, 2) := by decide +kernel
theorem dL_isBest_682 : decode cL_isBest 682 = .ok (.iload 12, 2) := by decide +kernel
theorem dL_isBest_684 : decode cL_isBest 684 = .ok (.invokevirtual 150, 3) := by decide +kernel
theorem dL_isBest_687 : decode cL_isBest 687 = .ok (.iload 14, 2) := by decide +kernel
theorem dL_isBest_689 : decode cL_isBest 689 = .ok (.if_icmp .ne 29, 3) := by decide +kernel
theorem dL_isBest_692 : decode cL_isBest 692 = .ok (.aload_n 0, 1) := by decide +kernel
theorem dL_isBest_693 : decode cL_isBest 693 = .ok (.iconst 0, 1) := by decide +kernel
theorem dL_isBest_694 : decode cL_isBest 694 = .ok (.iload 14, 2) := by decide +kernel
theorem dL_isBest_696 : decode cL_isBest 696 = .ok (.iconst 0, 1) := by decide +kernel
theorem dL_isBest_697 : decode cL_isBest 697 = .ok (.invokevirtual 154, 3) := by decide +kernel
theorem dL_isBest_700 : decode cL_isBest 700 = .ok (.iload 11, 2) := by decide +kernel
theorem dL_isBest_702 : decode cL_isBest 702 = .ok (.if_icmp .ne 16, 3) := by decide +kernel
theorem dL_isBest_705 : decode cL_isBest 705 = .ok (.aload_n 0, 1) := by decide +kernel
theorem dL_isBest_706 : decode cL_isBest 706 = .ok (.iconst 0, 1) := by decide +kernel
theorem dL_isBest_707 : decode cL_isBest 707 = .ok (.iload 14, 2) := by decide +kernel
theorem dL_isBest_709 : decode cL_isBest 709 = .ok (.iconst 1, 1) := by decide +kernel
theorem dL_isBest_710 : decode cL_isBest 710 = .ok (.invokevirtual 154, 3) := by decide +kernel
theorem dL_isBest_713 : decode cL_isBest 713 = .ok (.iload 12, 2) := by decide +kernel
theorem dL_isBest_715 : decode cL_isBest 715 = .ok (.if_icmp .eq 5, 3) := by decide +kernel
theorem dL_isBest_718 : decode cL_isBest 718 = .ok (.iconst 0, 1) := by decide +kernel
theorem dL_isBest_719 : decode cL_isBest 719 = .ok (.ireturn, 1) := by decide +kernel
theorem dL_isBest_720 : decode cL_isBest 720 = .ok (.iinc 10 1, 3) := by decide +kernel
theorem dL_isBest_723 : decode cL_isBest 723 = .ok (.goto (-316), 3) := by decide +kernel
theorem dL_isBest_726 : decode cL_isBest 726 = .ok (.aload_n 0, 1) := by decide +kernel
theorem dL_isBest_727 : decode cL_isBest 727 = .ok (.iconst 0, 1) := by decide +kernel
theorem dL_isBest_728 : decode cL_isBest 728 = .ok (.iload 8, 2) := by decide +kernel
theorem dL_isBest_730 : decode cL_isBest 730 = .ok (.iconst 0, 1) := by decide +kernel
theorem dL_isBest_731 : decode cL_isBest 731 = .ok (.invokevirtual 154, 3) := by decide +kernel
theorem dL_isBest_734 : decode cL_isBest 734 = .ok (.ldc 140, 2) := by decide +kernel
theorem dL_isBest_736 : decode cL_isBest 736 = .ok (.if_icmp .ne 7, 3) := by decide +kernel
theorem dL_isBest_739 : decode cL_isBest 739 = .ok (.iconst 1, 1) := by decide +kernel
theorem dL_isBest_740 : decode cL_isBest 740 = .ok (.goto 4, 3) := by decide +kernel
theorem dL_isBest_743 : decode cL_isBest 743 = .ok (.iconst 0, 1) := by decide +kernel
theorem dL_isBest_744 : decode cL_isBest 744 = .ok (.ireturn, 1) := by decide +kernel
theorem dL_law_0 : decode cL_law 0 = .ok (.new 32, 3) := by decide +kernel
