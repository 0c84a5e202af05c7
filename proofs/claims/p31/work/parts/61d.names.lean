theorem dL_isTold_444 : decode cL_isTold 444 = .ok (.iconst 0, 1) := by decide +kernel
theorem dL_isTold_445 : decode cL_isTold 445 = .ok (.istore 10, 2) := by decide +kernel
theorem dL_isTold_447 : decode cL_isTold 447 = .ok (.iload 10, 2) := by decide +kernel
theorem dL_isTold_449 : decode cL_isTold 449 = .ok (.bipush 64, 2) := by decide +kernel
theorem dL_isTold_451 : decode cL_isTold 451 = .ok (.aload_n 1, 1) := by decide +kernel
theorem dL_isTold_452 : decode cL_isTold 452 = .ok (.bipush 16, 2) := by decide +kernel
theorem dL_isTold_454 : decode cL_isTold 454 = .ok (.iaload, 1) := by decide +kernel
theorem dL_isTold_455 : decode cL_isTold 455 = .ok (.imul, 1) := by decide +kernel
theorem dL_isTold_456 : decode cL_isTold 456 = .ok (.if_icmp .ge 68, 3) := by decide +kernel
theorem dL_isTold_459 : decode cL_isTold 459 = .ok (.iload 10, 2) := by decide +kernel
theorem dL_isTold_461 : decode cL_isTold 461 = .ok (.bipush 8, 2) := by decide +kernel
theorem dL_isTold_463 : decode cL_isTold 463 = .ok (.idiv, 1) := by decide +kernel
theorem dL_isTold_464 : decode cL_isTold 464 = .ok (.bipush 8, 2) := by decide +kernel
theorem dL_isTold_466 : decode cL_isTold 466 = .ok (.irem, 1) := by decide +kernel
theorem dL_isTold_467 : decode cL_isTold 467 = .ok (.istore 11, 2) := by decide +kernel
theorem dL_isTold_469 : decode cL_isTold 469 = .ok (.iload 10, 2) := by decide +kernel
theorem dL_isTold_471 : decode cL_isTold 471 = .ok (.bipush 8, 2) := by decide +kernel
theorem dL_isTold_473 : decode cL_isTold 473 = .ok (.irem, 1) := by decide +kernel
theorem dL_isTold_474 : decode cL_isTold 474 = .ok (.istore 12, 2) := by decide +kernel
theorem dL_isTold_476 : decode cL_isTold 476 = .ok (.iload 11, 2) := by decide +kernel
theorem dL_isTold_478 : decode cL_isTold 478 = .ok (.aload_n 1, 1) := by decide +kernel
theorem dL_isTold_479 : decode cL_isTold 479 = .ok (.bipush 16, 2) := by decide +kernel
theorem dL_isTold_481 : decode cL_isTold 481 = .ok (.iaload, 1) := by decide +kernel
theorem dL_isTold_482 : decode cL_isTold 482 = .ok (.if_icmp .ge 36, 3) := by decide +kernel
theorem dL_isTold_485 : decode cL_isTold 485 = .ok (.iload 12, 2) := by decide +kernel
theorem dL_isTold_487 : decode cL_isTold 487 = .ok (.aload_n 1, 1) := by decide +kernel
theorem dL_isTold_488 : decode cL_isTold 488 = .ok (.bipush 16, 2) := by decide +kernel
theorem dL_isTold_490 : decode cL_isTold 490 = .ok (.iaload, 1) := by decide +kernel
theorem dL_isTold_491 : decode cL_isTold 491 = .ok (.if_icmp .ge 27, 3) := by decide +kernel
theorem dL_isTold_494 : decode cL_isTold 494 = .ok (.aload_n 1, 1) := by decide +kernel
theorem dL_isTold_495 : decode cL_isTold 495 = .ok (.iload 11, 2) := by decide +kernel
theorem dL_isTold_497 : decode cL_isTold 497 = .ok (.iload 12, 2) := by decide +kernel
theorem dL_isTold_499 : decode cL_isTold 499 = .ok (.invokestatic 63, 3) := by decide +kernel
theorem dL_isTold_502 : decode cL_isTold 502 = .ok (.ifCond .eq 16, 3) := by decide +kernel
theorem dL_isTold_505 : decode cL_isTold 505 = .ok (.aload 9, 2) := by decide +kernel
theorem dL_isTold_507 : decode cL_isTold 507 = .ok (.iload 11, 2) := by decide +kernel
theorem dL_isTold_509 : decode cL_isTold 509 = .ok (.dup2, 1) := by decide +kernel
theorem dL_isTold_510 : decode cL_isTold 510 = .ok (.iaload, 1) := by decide +kernel
theorem dL_isTold_511 : decode cL_isTold 511 = .ok (.aload 9, 2) := by decide +kernel
theorem dL_isTold_513 : decode cL_isTold 513 = .ok (.iload 12, 2) := by decide +kernel
theorem dL_isTold_515 : decode cL_isTold 515 = .ok (.iaload, 1) := by decide +kernel
theorem dL_isTold_516 : decode cL_isTold 516 = .ok (.ior, 1) := by decide +kernel
theorem dL_isTold_517 : decode cL_isTold 517 = .ok (.iastore, 1) := by decide +kernel
theorem dL_isTold_518 : decode cL_isTold 518 = .ok (.iinc 10 1, 3) := by decide +kernel
theorem dL_isTold_521 : decode cL_isTold 521 = .ok (.goto (-74), 3) := by decide +kernel
theorem dL_isTold_524 : decode cL_isTold 524 = .ok (.iconst 0, 1) := by decide +kernel
theorem dL_isTold_525 : decode cL_isTold 525 = .ok (.istore 10, 2) := by decide +kernel
theorem dL_isTold_527 : decode cL_isTold 527 = .ok (.iload 10, 2) := by decide +kernel
theorem dL_isTold_529 : decode cL_isTold 529 = .ok (.aload_n 1, 1) := by decide +kernel
theorem dL_isTold_530 : decode cL_isTold 530 = .ok (.bipush 16, 2) := by decide +kernel
theorem dL_isTold_532 : decode cL_isTold 532 = .ok (.iaload, 1) := by decide +kernel
theorem dL_isTold_533 : decode cL_isTold 533 = .ok (.if_icmp .ge 34, 3) := by decide +kernel
theorem dL_isTold_536 : decode cL_isTold 536 = .ok (.iload 7, 2) := by decide +kernel
theorem dL_isTold_538 : decode cL_isTold 538 = .ok (.aload 9, 2) := by decide +kernel
theorem dL_isTold_540 : decode cL_isTold 540 = .ok (.iload 10, 2) := by decide +kernel
theorem dL_isTold_542 : decode cL_isTold 542 = .ok (.iaload, 1) := by decide +kernel
theorem dL_isTold_543 : decode cL_isTold 543 = .ok (.iconst 1, 1) := by decide +kernel
theorem dL_isTold_544 : decode cL_isTold 544 = .ok (.iload 10, 2) := by decide +kernel
theorem dL_isTold_546 : decode cL_isTold 546 = .ok (.ishl, 1) := by decide +kernel
theorem dL_isTold_547 : decode cL_isTold 547 = .ok (.iconst 1, 1) := by decide +kernel
theorem dL_isTold_548 : decode cL_isTold 548 = .ok (.isub, 1) := by decide +kernel
theorem dL_isTold_549 : decode cL_isTold 549 = .ok (.iand, 1) := by decide +kernel
theorem dL_isTold_550 : decode cL_isTold 550 = .ok (.ifCond .ne 7, 3) := by decide +kernel
theorem dL_isTold_553 : decode cL_isTold 553 = .ok (.iconst 1, 1) := by decide +kernel
theorem dL_isTold_554 : decode cL_isTold 554 = .ok (.goto 4, 3) := by decide +kernel
theorem dL_isTold_557 : decode cL_isTold 557 = .ok (.iconst 0, 1) := by decide +kernel
theorem dL_isTold_558 : decode cL_isTold 558 = .ok (.iadd, 1) := by decide +kernel
theorem dL_isTold_559 : decode cL_isTold 559 = .ok (.istore 7, 2) := by decide +kernel
theorem dL_isTold_561 : decode cL_isTold 561 = .ok (.iinc 10 1, 3) := by decide +kernel
theorem dL_isTold_564 : decode cL_isTold 564 = .ok (.goto (-37), 3) := by decide +kernel
theorem dL_isTold_567 : decode cL_isTold 567 = .ok (.aload_n 0, 1) := by decide +kernel
theorem dL_isTold_568 : decode cL_isTold 568 = .ok (.invokevirtual 73, 3) := by decide +kernel
theorem dL_isTold_571 : decode cL_isTold 571 = .ok (.iload 7, 2) := by decide +kernel
theorem dL_isTold_573 : decode cL_isTold 573 = .ok (.if_icmp .ne 62, 3) := by decide +kernel
theorem dL_isTold_576 : decode cL_isTold 576 = .ok (.aload_n 0, 1) := by decide +kernel
theorem dL_isTold_577 : decode cL_isTold 577 = .ok (.invokevirtual 77, 3) := by decide +kernel
theorem dL_isTold_580 : decode cL_isTold 580 = .ok (.iload 8, 2) := by decide +kernel
theorem dL_isTold_582 : decode cL_isTold 582 = .ok (.if_icmp .ne 53, 3) := by decide +kernel
theorem dL_isTold_585 : decode cL_isTold 585 = .ok (.aload_n 0, 1) := by decide +kernel
theorem dL_isTold_586 : decode cL_isTold 586 = .ok (.iconst 0, 1) := by decide +kernel
theorem dL_isTold_587 : decode cL_isTold 587 = .ok (.invokevirtual 48, 3) := by decide +kernel
theorem dL_isTold_590 : decode cL_isTold 590 = .ok (.aload_n 1, 1) := by decide +kernel
theorem dL_isTold_591 : decode cL_isTold 591 = .ok (.bipush 16, 2) := by decide +kernel
theorem dL_isTold_593 : decode cL_isTold 593 = .ok (.iaload, 1) := by decide +kernel
theorem dL_isTold_594 : decode cL_isTold 594 = .ok (.if_icmp .ne 41, 3) := by decide +kernel
theorem dL_isTold_597 : decode cL_isTold 597 = .ok (.aload_n 0, 1) := by decide +kernel
theorem dL_isTold_598 : decode cL_isTold 598 = .ok (.iconst 1, 1) := by decide +kernel
theorem dL_isTold_599 : decode cL_isTold 599 = .ok (.invokevirtual 48, 3) := by decide +kernel
theorem dL_isTold_602 : decode cL_isTold 602 = .ok (.iload 4, 2) := by decide +kernel
theorem dL_isTold_604 : decode cL_isTold 604 = .ok (.if_icmp .ne 31, 3) := by decide +kernel
theorem dL_isTold_607 : decode cL_isTold 607 = .ok (.aload_n 0, 1) := by decide +kernel
theorem dL_isTold_608 : decode cL_isTold 608 = .ok (.iconst 2, 1) := by decide +kernel
theorem dL_isTold_609 : decode cL_isTold 609 = .ok (.invokevirtual 48, 3) := by decide +kernel
theorem dL_isTold_612 : decode cL_isTold 612 = .ok (.aload_n 1, 1) := by decide +kernel
theorem dL_isTold_613 : decode cL_isTold 613 = .ok (.bipush 17, 2) := by decide +kernel
theorem dL_isTold_615 : decode cL_isTold 615 = .ok (.iaload, 1) := by decide +kernel
theorem dL_isTold_616 : decode cL_isTold 616 = .ok (.if_icmp .ne 19, 3) := by decide +kernel
theorem dL_isTold_619 : decode cL_isTold 619 = .ok (.aload_n 0, 1) := by decide +kernel
theorem dL_isTold_620 : decode cL_isTold 620 = .ok (.iconst 3, 1) := by decide +kernel
theorem dL_isTold_621 : decode cL_isTold 621 = .ok (.invokevirtual 48, 3) := by decide +kernel
theorem dL_isTold_624 : decode cL_isTold 624 = .ok (.aload_n 1, 1) := by decide +kernel
theorem dL_isTold_625 : decode cL_isTold 625 = .ok (.bipush 18, 2) := by decide +kernel
theorem dL_isTold_627 : decode cL_isTold 627 = .ok (.iaload, 1) := by decide +kernel
theorem dL_isTold_628 : decode cL_isTold 628 = .ok (.if_icmp .ne 7, 3) := by decide +kernel
theorem dL_isTold_631 : decode cL_isTold 631 = .ok (.iconst 1, 1) := by decide +kernel
theorem dL_isTold_632 : decode cL_isTold 632 = .ok (.goto 4, 3) := by decide +kernel
theorem dL_isTold_635 : decode cL_isTold 635 = .ok (.iconst 0, 1) := by decide +kernel
theorem dL_isTold_636 : decode cL_isTold 636 = .ok (.istore 10, 2) := by decide +kernel
theorem dL_isTold_638 : decode cL_isTold 638 = .ok (.iload 10, 2) := by decide +kernel
theorem dL_isTold_640 : decode cL_isTold 640 = .ok (.ifCond .eq 50, 3) := by decide +kernel
theorem dL_isTold_643 : decode cL_isTold 643 = .ok (.aload_n 0, 1) := by decide +kernel
theorem dL_isTold_644 : decode cL_isTold 644 = .ok (.iconst 4, 1) := by decide +kernel
theorem dL_isTold_645 : decode cL_isTold 645 = .ok (.invokevirtual 48, 3) := by decide +kernel
theorem dL_isTold_648 : decode cL_isTold 648 = .ok (.iload_n 2, 1) := by decide +kernel
theorem dL_isTold_649 : decode cL_isTold 649 = .ok (.if_icmp .ne 41, 3) := by decide +kernel
theorem dL_isTold_652 : decode cL_isTold 652 = .ok (.aload_n 0, 1) := by decide +kernel
theorem dL_isTold_653 : decode cL_isTold 653 = .ok (.iconst 5, 1) := by decide +kernel
theorem dL_isTold_654 : decode cL_isTold 654 = .ok (.invokevirtual 48, 3) := by decide +kernel
theorem dL_isTold_657 : decode cL_isTold 657 = .ok (.iload_n 3, 1) := by decide +kernel
theorem dL_isTold_658 : decode cL_isTold 658 = .ok (.if_icmp .ne 32, 3) := by decide +kernel
theorem dL_isTold_661 : decode cL_isTold 661 = .ok (.aload_n 0, 1) := by decide +kernel
theorem dL_isTold_662 : decode cL_isTold 662 = .ok (.bipush 8, 2) := by decide +kernel
theorem dL_isTold_664 : decode cL_isTold 664 = .ok (.invokevirtual 48, 3) := by decide +kernel
theorem dL_isTold_667 : decode cL_isTold 667 = .ok (.iload 5, 2) := by decide +kernel
theorem dL_isTold_669 : decode cL_isTold 669 = .ok (.if_icmp .ne 21, 3) := by decide +kernel
theorem dL_isTold_672 : decode cL_isTold 672 = .ok (.aload_n 0, 1) := by decide +kernel
theorem dL_isTold_673 : decode cL_isTold 673 = .ok (.aload_n 1, 1) := by decide +kernel
theorem dL_isTold_674 : decode cL_isTold 674 = .ok (.bipush 16, 2) := by decide +kernel
theorem dL_isTold_676 : decode cL_isTold 676 = .ok (.iaload, 1) := by decide +kernel
theorem dL_isTold_677 : decode cL_isTold 677 = .ok (.iconst 0, 1) := by decide +kernel
theorem dL_isTold_678 : decode cL_isTold 678 = .ok (.invokevirtual 66, 3) := by decide +kernel
theorem dL_isTold_681 : decode cL_isTold 681 = .ok (.bipush (-2), 2) := by decide +kernel
theorem dL_isTold_683 : decode cL_isTold 683 = .ok (.if_icmp .ne 7, 3) := by decide +kernel
theorem dL_isTold_686 : decode cL_isTold 686 = .ok (.iconst 1, 1) := by decide +kernel
theorem dL_isTold_687 : decode cL_isTold 687 = .ok (.goto 4, 3) := by decide +kernel
theorem dL_isTold_690 : decode cL_isTold 690 = .ok (.iconst 0, 1) := by decide +kernel
theorem dL_isTold_691 : decode cL_isTold 691 = .ok (.ireturn, 1) := by decide +kernel
theorem dL_changes_0 : decode cL_changes 0 = .ok (.iload_n 2, 1) := by decide +kernel
theorem dL_changes_1 : decode cL_changes 1 = .ok (.aload_n 1, 1) := by decide +kernel
theorem dL_changes_2 : decode cL_changes 2 = .ok (.bipush 16, 2) := by decide +kernel
theorem dL_changes_4 : decode cL_changes 4 = .ok (.iaload, 1) := by decide +kernel
theorem dL_changes_5 : decode cL_changes 5 = .ok (.invokestatic 26, 3) := by decide +kernel
theorem dL_changes_8 : decode cL_changes 8 = .ok (.istore 4, 2) := by decide +kernel
theorem dL_changes_10 : decode cL_changes 10 = .ok (.iload_n 2, 1) := by decide +kernel
theorem dL_changes_11 : decode cL_changes 11 = .ok (.iconst 4, 1) := by decide +kernel
theorem dL_changes_12 : decode cL_changes 12 = .ok (.ishr, 1) := by decide +kernel
theorem dL_changes_13 : decode cL_changes 13 = .ok (.aload_n 1, 1) := by decide +kernel
theorem dL_changes_14 : decode cL_changes 14 = .ok (.bipush 16, 2) := by decide +kernel
theorem dL_changes_16 : decode cL_changes 16 = .ok (.iaload, 1) := by decide +kernel
theorem dL_changes_17 : decode cL_changes 17 = .ok (.invokestatic 26, 3) := by decide +kernel
theorem dL_changes_20 : decode cL_changes 20 = .ok (.istore 5, 2) := by decide +kernel
theorem dL_changes_22 : decode cL_changes 22 = .ok (.iload_n 3, 1) := by decide +kernel
theorem dL_changes_23 : decode cL_changes 23 = .ok (.bipush 20, 2) := by decide +kernel
theorem dL_changes_25 : decode cL_changes 25 = .ok (.ishr, 1) := by decide +kernel
theorem dL_changes_26 : decode cL_changes 26 = .ok (.bipush 6, 2) := by decide +kernel
theorem dL_changes_28 : decode cL_changes 28 = .ok (.invokestatic 26, 3) := by decide +kernel
theorem dL_changes_31 : decode cL_changes 31 = .ok (.tableswitch 482 0 4 #[33, 98, 175, 295, 434], 33) := by decide +kernel
theorem dL_changes_64 : decode cL_changes 64 = .ok (.aload_n 1, 1) := by decide +kernel
theorem dL_changes_65 : decode cL_changes 65 = .ok (.iload 4, 2) := by decide +kernel
theorem dL_changes_67 : decode cL_changes 67 = .ok (.iaload, 1) := by decide +kernel
theorem dL_changes_68 : decode cL_changes 68 = .ok (.istore 6, 2) := by decide +kernel
theorem dL_changes_70 : decode cL_changes 70 = .ok (.aload_n 1, 1) := by decide +kernel
theorem dL_changes_71 : decode cL_changes 71 = .ok (.iload 4, 2) := by decide +kernel
theorem dL_changes_73 : decode cL_changes 73 = .ok (.iload_n 3, 1) := by decide +kernel
theorem dL_changes_74 : decode cL_changes 74 = .ok (.bipush 100, 2) := by decide +kernel
theorem dL_changes_76 : decode cL_changes 76 = .ok (.invokestatic 26, 3) := by decide +kernel
theorem dL_changes_79 : decode cL_changes 79 = .ok (.iastore, 1) := by decide +kernel
theorem dL_changes_80 : decode cL_changes 80 = .ok (.aload_n 0, 1) := by decide +kernel
theorem dL_changes_81 : decode cL_changes 81 = .ok (.iload 4, 2) := by decide +kernel
theorem dL_changes_83 : decode cL_changes 83 = .ok (.aload_n 1, 1) := by decide +kernel
theorem dL_changes_84 : decode cL_changes 84 = .ok (.iload 4, 2) := by decide +kernel
theorem dL_changes_86 : decode cL_changes 86 = .ok (.iaload, 1) := by decide +kernel
theorem dL_changes_87 : decode cL_changes 87 = .ok (.invokevirtual 42, 3) := by decide +kernel
theorem dL_changes_90 : decode cL_changes 90 = .ok (.iload 6, 2) := by decide +kernel
theorem dL_changes_92 : decode cL_changes 92 = .ok (.if_icmp .ne 35, 3) := by decide +kernel
theorem dL_changes_95 : decode cL_changes 95 = .ok (.aload_n 0, 1) := by decide +kernel
theorem dL_changes_96 : decode cL_changes 96 = .ok (.iload 4, 2) := by decide +kernel
theorem dL_changes_98 : decode cL_changes 98 = .ok (.sipush 1000, 3) := by decide +kernel
theorem dL_changes_101 : decode cL_changes 101 = .ok (.invokevirtual 42, 3) := by decide +kernel
theorem dL_changes_104 : decode cL_changes 104 = .ok (.bipush (-2), 2) := by decide +kernel
theorem dL_changes_106 : decode cL_changes 106 = .ok (.if_icmp .ne 21, 3) := by decide +kernel
theorem dL_changes_109 : decode cL_changes 109 = .ok (.aload_n 0, 1) := by decide +kernel
theorem dL_changes_110 : decode cL_changes 110 = .ok (.aload_n 1, 1) := by decide +kernel
theorem dL_changes_111 : decode cL_changes 111 = .ok (.bipush 16, 2) := by decide +kernel
theorem dL_changes_113 : decode cL_changes 113 = .ok (.iaload, 1) := by decide +kernel
theorem dL_changes_114 : decode cL_changes 114 = .ok (.iconst 0, 1) := by decide +kernel
theorem dL_changes_115 : decode cL_changes 115 = .ok (.invokevirtual 42, 3) := by decide +kernel
theorem dL_changes_118 : decode cL_changes 118 = .ok (.bipush (-2), 2) := by decide +kernel
theorem dL_changes_120 : decode cL_changes 120 = .ok (.if_icmp .ne 7, 3) := by decide +kernel
theorem dL_changes_123 : decode cL_changes 123 = .ok (.iconst 1, 1) := by decide +kernel
theorem dL_changes_124 : decode cL_changes 124 = .ok (.goto 4, 3) := by decide +kernel
theorem dL_changes_127 : decode cL_changes 127 = .ok (.iconst 0, 1) := by decide +kernel
theorem dL_changes_128 : decode cL_changes 128 = .ok (.ireturn, 1) := by decide +kernel
theorem dL_changes_129 : decode cL_changes 129 = .ok (.aload_n 1, 1) := by decide +kernel
theorem dL_changes_130 : decode cL_changes 130 = .ok (.bipush 8, 2) := by decide +kernel
theorem dL_changes_132 : decode cL_changes 132 = .ok (.iload 4, 2) := by decide +kernel
theorem dL_changes_134 : decode cL_changes 134 = .ok (.iadd, 1) := by decide +kernel
theorem dL_changes_135 : decode cL_changes 135 = .ok (.iaload, 1) := by decide +kernel
theorem dL_changes_136 : decode cL_changes 136 = .ok (.istore 6, 2) := by decide +kernel
theorem dL_changes_138 : decode cL_changes 138 = .ok (.aload_n 1, 1) := by decide +kernel
theorem dL_changes_139 : decode cL_changes 139 = .ok (.bipush 8, 2) := by decide +kernel
theorem dL_changes_141 : decode cL_changes 141 = .ok (.iload 4, 2) := by decide +kernel
theorem dL_changes_143 : decode cL_changes 143 = .ok (.iadd, 1) := by decide +kernel
theorem dL_changes_144 : decode cL_changes 144 = .ok (.iload_n 3, 1) := by decide +kernel
theorem dL_changes_145 : decode cL_changes 145 = .ok (.iconst 2, 1) := by decide +kernel
theorem dL_changes_146 : decode cL_changes 146 = .ok (.invokestatic 26, 3) := by decide +kernel
theorem dL_changes_149 : decode cL_changes 149 = .ok (.ifCond .ne 7, 3) := by decide +kernel
theorem dL_changes_152 : decode cL_changes 152 = .ok (.iconst 0, 1) := by decide +kernel
theorem dL_changes_153 : decode cL_changes 153 = .ok (.goto 14, 3) := by decide +kernel
theorem dL_changes_156 : decode cL_changes 156 = .ok (.iconst 1, 1) := by decide +kernel
theorem dL_changes_157 : decode cL_changes 157 = .ok (.iload_n 3, 1) := by decide +kernel
theorem dL_changes_158 : decode cL_changes 158 = .ok (.iconst 2, 1) := by decide +kernel
theorem dL_changes_159 : decode cL_changes 159 = .ok (.ishr, 1) := by decide +kernel
theorem dL_changes_160 : decode cL_changes 160 = .ok (.sipush 200, 3) := by decide +kernel
theorem dL_changes_163 : decode cL_changes 163 = .ok (.invokestatic 26, 3) := by decide +kernel
theorem dL_changes_166 : decode cL_changes 166 = .ok (.iadd, 1) := by decide +kernel
theorem dL_changes_167 : decode cL_changes 167 = .ok (.iastore, 1) := by decide +kernel
theorem dL_changes_168 : decode cL_changes 168 = .ok (.aload_n 0, 1) := by decide +kernel
theorem dL_changes_169 : decode cL_changes 169 = .ok (.iload 4, 2) := by decide +kernel
theorem dL_changes_171 : decode cL_changes 171 = .ok (.aload_n 1, 1) := by decide +kernel
theorem dL_changes_172 : decode cL_changes 172 = .ok (.bipush 8, 2) := by decide +kernel
theorem dL_changes_174 : decode cL_changes 174 = .ok (.iload 4, 2) := by decide +kernel
theorem dL_changes_176 : decode cL_changes 176 = .ok (.iadd, 1) := by decide +kernel
theorem dL_changes_177 : decode cL_changes 177 = .ok (.iaload, 1) := by decide +kernel
theorem dL_changes_178 : decode cL_changes 178 = .ok (.invokevirtual 45, 3) := by decide +kernel
theorem dL_changes_181 : decode cL_changes 181 = .ok (.iload 6, 2) := by decide +kernel
theorem dL_changes_183 : decode cL_changes 183 = .ok (.if_icmp .ne 21, 3) := by decide +kernel
theorem dL_changes_186 : decode cL_changes 186 = .ok (.aload_n 0, 1) := by decide +kernel
theorem dL_changes_187 : decode cL_changes 187 = .ok (.iload 4, 2) := by decide +kernel
theorem dL_changes_189 : decode cL_changes 189 = .ok (.sipush 201, 3) := by decide +kernel
theorem dL_changes_192 : decode cL_changes 192 = .ok (.invokevirtual 45, 3) := by decide +kernel
theorem dL_changes_195 : decode cL_changes 195 = .ok (.bipush (-2), 2) := by decide +kernel
theorem dL_changes_197 : decode cL_changes 197 = .ok (.if_icmp .ne 7, 3) := by decide +kernel
theorem dL_changes_200 : decode cL_changes 200 = .ok (.iconst 1, 1) := by decide +kernel
theorem dL_changes_201 : decode cL_changes 201 = .ok (.goto 4, 3) := by decide +kernel
theorem dL_changes_204 : decode cL_changes 204 = .ok (.iconst 0, 1) := by decide +kernel
theorem dL_changes_205 : decode cL_changes 205 = .ok (.ireturn, 1) := by decide +kernel
theorem dL_changes_206 : decode cL_changes 206 = .ok (.iload 5, 2) := by decide +kernel
theorem dL_changes_208 : decode cL_changes 208 = .ok (.iload 4, 2) := by decide +kernel
theorem dL_changes_210 : decode cL_changes 210 = .ok (.if_icmp .gt 22, 3) := by decide +kernel
theorem dL_changes_213 : decode cL_changes 213 = .ok (.aload_n 0, 1) := by decide +kernel
theorem dL_changes_214 : decode cL_changes 214 = .ok (.iload 4, 2) := by decide +kernel
theorem dL_changes_216 : decode cL_changes 216 = .ok (.iload 5, 2) := by decide +kernel
theorem dL_changes_218 : decode cL_changes 218 = .ok (.invokevirtual 80, 3) := by decide +kernel
theorem dL_changes_221 : decode cL_changes 221 = .ok (.bipush (-2), 2) := by decide +kernel
theorem dL_changes_223 : decode cL_changes 223 = .ok (.if_icmp .ne 7, 3) := by decide +kernel
theorem dL_changes_226 : decode cL_changes 226 = .ok (.iconst 1, 1) := by decide +kernel
theorem dL_changes_227 : decode cL_changes 227 = .ok (.goto 4, 3) := by decide +kernel
theorem dL_changes_230 : decode cL_changes 230 = .ok (.iconst 0, 1) := by decide +kernel
theorem dL_changes_231 : decode cL_changes 231 = .ok (.ireturn, 1) := by decide +kernel
theorem dL_changes_232 : decode cL_changes 232 = .ok (.iconst 0, 1) := by decide +kernel
theorem dL_changes_233 : decode cL_changes 233 = .ok (.istore 7, 2) := by decide +kernel
theorem dL_changes_235 : decode cL_changes 235 = .ok (.iload 4, 2) := by decide +kernel
theorem dL_changes_237 : decode cL_changes 237 = .ok (.iconst 1, 1) := by decide +kernel
theorem dL_changes_238 : decode cL_changes 238 = .ok (.iadd, 1) := by decide +kernel
theorem dL_changes_239 : decode cL_changes 239 = .ok (.istore 8, 2) := by decide +kernel
theorem dL_changes_241 : decode cL_changes 241 = .ok (.iload 8, 2) := by decide +kernel
theorem dL_changes_243 : decode cL_changes 243 = .ok (.iload 5, 2) := by decide +kernel
theorem dL_changes_245 : decode cL_changes 245 = .ok (.if_icmp .ge 62, 3) := by decide +kernel
theorem dL_changes_248 : decode cL_changes 248 = .ok (.aload_n 1, 1) := by decide +kernel
theorem dL_changes_249 : decode cL_changes 249 = .ok (.iload 4, 2) := by decide +kernel
theorem dL_changes_251 : decode cL_changes 251 = .ok (.iaload, 1) := by decide +kernel
theorem dL_changes_252 : decode cL_changes 252 = .ok (.aload_n 1, 1) := by decide +kernel
theorem dL_changes_253 : decode cL_changes 253 = .ok (.iload 5, 2) := by decide +kernel
theorem dL_changes_255 : decode cL_changes 255 = .ok (.iaload, 1) := by decide +kernel
theorem dL_changes_256 : decode cL_changes 256 = .ok (.aload_n 1, 1) := by decide +kernel
theorem dL_changes_257 : decode cL_changes 257 = .ok (.iload 4, 2) := by decide +kernel
theorem dL_changes_259 : decode cL_changes 259 = .ok (.iaload, 1) := by decide +kernel
theorem dL_changes_260 : decode cL_changes 260 = .ok (.isub, 1) := by decide +kernel
theorem dL_changes_261 : decode cL_changes 261 = .ok (.iload 8, 2) := by decide +kernel
theorem dL_changes_263 : decode cL_changes 263 = .ok (.iload 4, 2) := by decide +kernel
theorem dL_changes_265 : decode cL_changes 265 = .ok (.isub, 1) := by decide +kernel
theorem dL_changes_266 : decode cL_changes 266 = .ok (.imul, 1) := by decide +kernel
theorem dL_changes_267 : decode cL_changes 267 = .ok (.iload 5, 2) := by decide +kernel
theorem dL_changes_269 : decode cL_changes 269 = .ok (.iload 4, 2) := by decide +kernel
theorem dL_changes_271 : decode cL_changes 271 = .ok (.isub, 1) := by decide +kernel
