theorem d_AckBookLaw_law_877 : decode c_AckBookLaw_law 877 = .ok (.ifCond .eq (5), 3) := by decide +kernel
theorem d_AckBookLaw_law_882 : decode c_AckBookLaw_law 882 = .ok (.goto (277), 3) := by decide +kernel
theorem d_AckBookLaw_law_880 : decode c_AckBookLaw_law 880 = .ok (.iconst (0), 1) := by decide +kernel
theorem d_AckBookLaw_law_881 : decode c_AckBookLaw_law 881 = .ok (.ireturn, 1) := by decide +kernel
theorem d_AckBookLaw_law_813 : decode c_AckBookLaw_law 813 = .ok (.lcmp, 1) := by decide +kernel
theorem d_AckBookLaw_law_814 : decode c_AckBookLaw_law 814 = .ok (.ifCond .eq (5), 3) := by decide +kernel
theorem d_AckBookLaw_law_819 : decode c_AckBookLaw_law 819 = .ok (.goto (340), 3) := by decide +kernel
theorem d_AckBookLaw_law_817 : decode c_AckBookLaw_law 817 = .ok (.iconst (0), 1) := by decide +kernel
theorem d_AckBookLaw_law_818 : decode c_AckBookLaw_law 818 = .ok (.ireturn, 1) := by decide +kernel
theorem d_AckBookLaw_law_779 : decode c_AckBookLaw_law 779 = .ok (.invokevirtual 112, 3) := by decide +kernel
theorem d_AckBookLaw_law_782 : decode c_AckBookLaw_law 782 = .ok (.istore 6, 2) := by decide +kernel
theorem d_AckBookLaw_law_784 : decode c_AckBookLaw_law 784 = .ok (.aload_n 2, 1) := by decide +kernel
theorem d_AckBookLaw_law_785 : decode c_AckBookLaw_law 785 = .ok (.invokevirtual 71, 3) := by decide +kernel
theorem d_AckBookLaw_law_788 : decode c_AckBookLaw_law 788 = .ok (.iload 5, 2) := by decide +kernel
theorem d_AckBookLaw_law_790 : decode c_AckBookLaw_law 790 = .ok (.if_icmp .eq (5), 3) := by decide +kernel
theorem d_AckBookLaw_law_795 : decode c_AckBookLaw_law 795 = .ok (.iload 5, 2) := by decide +kernel
theorem d_AckBookLaw_law_797 : decode c_AckBookLaw_law 797 = .ok (.ifCond .ne (22), 3) := by decide +kernel
theorem d_AckBookLaw_law_800 : decode c_AckBookLaw_law 800 = .ok (.aload_n 3, 1) := by decide +kernel
theorem d_AckBookLaw_law_801 : decode c_AckBookLaw_law 801 = .ok (.iconst (0), 1) := by decide +kernel
theorem d_AckBookLaw_law_802 : decode c_AckBookLaw_law 802 = .ok (.laload, 1) := by decide +kernel
theorem d_AckBookLaw_law_803 : decode c_AckBookLaw_law 803 = .ok (.iload 6, 2) := by decide +kernel
theorem d_AckBookLaw_law_805 : decode c_AckBookLaw_law 805 = .ok (.ifCond .eq (7), 3) := by decide +kernel
theorem d_AckBookLaw_law_812 : decode c_AckBookLaw_law 812 = .ok (.lconst 0, 1) := by decide +kernel
theorem d_AckBookLaw_law_808 : decode c_AckBookLaw_law 808 = .ok (.lconst 1, 1) := by decide +kernel
theorem d_AckBookLaw_law_809 : decode c_AckBookLaw_law 809 = .ok (.goto (4), 3) := by decide +kernel
theorem d_AckBookLaw_law_793 : decode c_AckBookLaw_law 793 = .ok (.iconst (0), 1) := by decide +kernel
theorem d_AckBookLaw_law_794 : decode c_AckBookLaw_law 794 = .ok (.ireturn, 1) := by decide +kernel
theorem d_AckBookLaw_law_730 : decode c_AckBookLaw_law 730 = .ok (.aload_n 3, 1) := by decide +kernel
theorem d_AckBookLaw_law_731 : decode c_AckBookLaw_law 731 = .ok (.invokestatic 109, 3) := by decide +kernel
theorem d_AckBookLaw_law_734 : decode c_AckBookLaw_law 734 = .ok (.istore 5, 2) := by decide +kernel
theorem d_AckBookLaw_law_736 : decode c_AckBookLaw_law 736 = .ok (.aload_n 2, 1) := by decide +kernel
theorem d_AckBookLaw_law_737 : decode c_AckBookLaw_law 737 = .ok (.aload_n 0, 1) := by decide +kernel
theorem d_AckBookLaw_law_738 : decode c_AckBookLaw_law 738 = .ok (.iload 4, 2) := by decide +kernel
theorem d_AckBookLaw_law_740 : decode c_AckBookLaw_law 740 = .ok (.iconst (1), 1) := by decide +kernel
theorem d_AckBookLaw_law_741 : decode c_AckBookLaw_law 741 = .ok (.iadd, 1) := by decide +kernel
theorem d_AckBookLaw_law_742 : decode c_AckBookLaw_law 742 = .ok (.iaload, 1) := by decide +kernel
theorem d_AckBookLaw_law_743 : decode c_AckBookLaw_law 743 = .ok (.aload_n 0, 1) := by decide +kernel
theorem d_AckBookLaw_law_744 : decode c_AckBookLaw_law 744 = .ok (.iload 4, 2) := by decide +kernel
theorem d_AckBookLaw_law_746 : decode c_AckBookLaw_law 746 = .ok (.iconst (2), 1) := by decide +kernel
theorem d_AckBookLaw_law_747 : decode c_AckBookLaw_law 747 = .ok (.iadd, 1) := by decide +kernel
theorem d_AckBookLaw_law_748 : decode c_AckBookLaw_law 748 = .ok (.iaload, 1) := by decide +kernel
theorem d_AckBookLaw_law_749 : decode c_AckBookLaw_law 749 = .ok (.i2l, 1) := by decide +kernel
theorem d_AckBookLaw_law_750 : decode c_AckBookLaw_law 750 = .ok (.bipush (32), 2) := by decide +kernel
theorem d_AckBookLaw_law_752 : decode c_AckBookLaw_law 752 = .ok (.lshl, 1) := by decide +kernel
theorem d_AckBookLaw_law_753 : decode c_AckBookLaw_law 753 = .ok (.aload_n 0, 1) := by decide +kernel
theorem d_AckBookLaw_law_754 : decode c_AckBookLaw_law 754 = .ok (.iload 4, 2) := by decide +kernel
theorem d_AckBookLaw_law_756 : decode c_AckBookLaw_law 756 = .ok (.iconst (3), 1) := by decide +kernel
theorem d_AckBookLaw_law_757 : decode c_AckBookLaw_law 757 = .ok (.iadd, 1) := by decide +kernel
theorem d_AckBookLaw_law_758 : decode c_AckBookLaw_law 758 = .ok (.iaload, 1) := by decide +kernel
theorem d_AckBookLaw_law_759 : decode c_AckBookLaw_law 759 = .ok (.i2l, 1) := by decide +kernel
theorem d_AckBookLaw_law_760 : decode c_AckBookLaw_law 760 = .ok (.ldc2_w 75, 3) := by decide +kernel
theorem d_AckBookLaw_law_763 : decode c_AckBookLaw_law 763 = .ok (.land, 1) := by decide +kernel
theorem d_AckBookLaw_law_764 : decode c_AckBookLaw_law 764 = .ok (.lor, 1) := by decide +kernel
theorem d_AckBookLaw_law_765 : decode c_AckBookLaw_law 765 = .ok (.aload_n 0, 1) := by decide +kernel
theorem d_AckBookLaw_law_766 : decode c_AckBookLaw_law 766 = .ok (.iload 4, 2) := by decide +kernel
theorem d_AckBookLaw_law_768 : decode c_AckBookLaw_law 768 = .ok (.iconst (4), 1) := by decide +kernel
theorem d_AckBookLaw_law_769 : decode c_AckBookLaw_law 769 = .ok (.iadd, 1) := by decide +kernel
theorem d_AckBookLaw_law_770 : decode c_AckBookLaw_law 770 = .ok (.iaload, 1) := by decide +kernel
theorem d_AckBookLaw_law_771 : decode c_AckBookLaw_law 771 = .ok (.ifCond .eq (7), 3) := by decide +kernel
theorem d_AckBookLaw_law_778 : decode c_AckBookLaw_law 778 = .ok (.iconst (0), 1) := by decide +kernel
theorem d_AckBookLaw_law_774 : decode c_AckBookLaw_law 774 = .ok (.iconst (1), 1) := by decide +kernel
theorem d_AckBookLaw_law_775 : decode c_AckBookLaw_law 775 = .ok (.goto (4), 3) := by decide +kernel
theorem d_AckBookLaw_law_583 : decode c_AckBookLaw_law 583 = .ok (.invokevirtual 105, 3) := by decide +kernel
theorem d_AckBookLaw_law_586 : decode c_AckBookLaw_law 586 = .ok (.istore 6, 2) := by decide +kernel
theorem d_AckBookLaw_law_588 : decode c_AckBookLaw_law 588 = .ok (.aload_n 2, 1) := by decide +kernel
theorem d_AckBookLaw_law_589 : decode c_AckBookLaw_law 589 = .ok (.invokevirtual 71, 3) := by decide +kernel
theorem d_AckBookLaw_law_592 : decode c_AckBookLaw_law 592 = .ok (.iload 5, 2) := by decide +kernel
theorem d_AckBookLaw_law_594 : decode c_AckBookLaw_law 594 = .ok (.if_icmp .eq (5), 3) := by decide +kernel
theorem d_AckBookLaw_law_599 : decode c_AckBookLaw_law 599 = .ok (.iload 5, 2) := by decide +kernel
theorem d_AckBookLaw_law_601 : decode c_AckBookLaw_law 601 = .ok (.ifCond .ne (15), 3) := by decide +kernel
theorem d_AckBookLaw_law_604 : decode c_AckBookLaw_law 604 = .ok (.aload_n 3, 1) := by decide +kernel
theorem d_AckBookLaw_law_605 : decode c_AckBookLaw_law 605 = .ok (.iconst (0), 1) := by decide +kernel
theorem d_AckBookLaw_law_606 : decode c_AckBookLaw_law 606 = .ok (.laload, 1) := by decide +kernel
theorem d_AckBookLaw_law_607 : decode c_AckBookLaw_law 607 = .ok (.iload 6, 2) := by decide +kernel
theorem d_AckBookLaw_law_609 : decode c_AckBookLaw_law 609 = .ok (.i2l, 1) := by decide +kernel
theorem d_AckBookLaw_law_610 : decode c_AckBookLaw_law 610 = .ok (.lcmp, 1) := by decide +kernel
theorem d_AckBookLaw_law_611 : decode c_AckBookLaw_law 611 = .ok (.ifCond .eq (5), 3) := by decide +kernel
theorem d_AckBookLaw_law_616 : decode c_AckBookLaw_law 616 = .ok (.goto (543), 3) := by decide +kernel
theorem d_AckBookLaw_law_614 : decode c_AckBookLaw_law 614 = .ok (.iconst (0), 1) := by decide +kernel
theorem d_AckBookLaw_law_615 : decode c_AckBookLaw_law 615 = .ok (.ireturn, 1) := by decide +kernel
theorem d_AckBookLaw_law_597 : decode c_AckBookLaw_law 597 = .ok (.iconst (0), 1) := by decide +kernel
theorem d_AckBookLaw_law_598 : decode c_AckBookLaw_law 598 = .ok (.ireturn, 1) := by decide +kernel
theorem d_AckBookLaw_law_556 : decode c_AckBookLaw_law 556 = .ok (.aload_n 3, 1) := by decide +kernel
theorem d_AckBookLaw_law_557 : decode c_AckBookLaw_law 557 = .ok (.invokestatic 102, 3) := by decide +kernel
theorem d_AckBookLaw_law_560 : decode c_AckBookLaw_law 560 = .ok (.istore 5, 2) := by decide +kernel
theorem d_AckBookLaw_law_562 : decode c_AckBookLaw_law 562 = .ok (.aload_n 2, 1) := by decide +kernel
theorem d_AckBookLaw_law_563 : decode c_AckBookLaw_law 563 = .ok (.aload_n 0, 1) := by decide +kernel
theorem d_AckBookLaw_law_564 : decode c_AckBookLaw_law 564 = .ok (.iload 4, 2) := by decide +kernel
theorem d_AckBookLaw_law_566 : decode c_AckBookLaw_law 566 = .ok (.iconst (1), 1) := by decide +kernel
theorem d_AckBookLaw_law_567 : decode c_AckBookLaw_law 567 = .ok (.iadd, 1) := by decide +kernel
theorem d_AckBookLaw_law_568 : decode c_AckBookLaw_law 568 = .ok (.iaload, 1) := by decide +kernel
theorem d_AckBookLaw_law_569 : decode c_AckBookLaw_law 569 = .ok (.aload_n 0, 1) := by decide +kernel
theorem d_AckBookLaw_law_570 : decode c_AckBookLaw_law 570 = .ok (.iload 4, 2) := by decide +kernel
theorem d_AckBookLaw_law_572 : decode c_AckBookLaw_law 572 = .ok (.iconst (2), 1) := by decide +kernel
theorem d_AckBookLaw_law_573 : decode c_AckBookLaw_law 573 = .ok (.iadd, 1) := by decide +kernel
theorem d_AckBookLaw_law_574 : decode c_AckBookLaw_law 574 = .ok (.iaload, 1) := by decide +kernel
theorem d_AckBookLaw_law_575 : decode c_AckBookLaw_law 575 = .ok (.ifCond .eq (7), 3) := by decide +kernel
theorem d_AckBookLaw_law_582 : decode c_AckBookLaw_law 582 = .ok (.iconst (0), 1) := by decide +kernel
theorem d_AckBookLaw_law_578 : decode c_AckBookLaw_law 578 = .ok (.iconst (1), 1) := by decide +kernel
theorem d_AckBookLaw_law_579 : decode c_AckBookLaw_law 579 = .ok (.goto (4), 3) := by decide +kernel
theorem d_AckBookLaw_law_529 : decode c_AckBookLaw_law 529 = .ok (.invokevirtual 101, 3) := by decide +kernel
theorem d_AckBookLaw_law_532 : decode c_AckBookLaw_law 532 = .ok (.goto (627), 3) := by decide +kernel
theorem d_AckBookLaw_law_511 : decode c_AckBookLaw_law 511 = .ok (.invokevirtual 97, 3) := by decide +kernel
theorem d_AckBookLaw_law_514 : decode c_AckBookLaw_law 514 = .ok (.aload_n 2, 1) := by decide +kernel
theorem d_AckBookLaw_law_515 : decode c_AckBookLaw_law 515 = .ok (.aload_n 0, 1) := by decide +kernel
theorem d_AckBookLaw_law_516 : decode c_AckBookLaw_law 516 = .ok (.iload 4, 2) := by decide +kernel
theorem d_AckBookLaw_law_518 : decode c_AckBookLaw_law 518 = .ok (.iconst (1), 1) := by decide +kernel
theorem d_AckBookLaw_law_519 : decode c_AckBookLaw_law 519 = .ok (.iadd, 1) := by decide +kernel
theorem d_AckBookLaw_law_520 : decode c_AckBookLaw_law 520 = .ok (.iaload, 1) := by decide +kernel
theorem d_AckBookLaw_law_521 : decode c_AckBookLaw_law 521 = .ok (.ifCond .eq (7), 3) := by decide +kernel
theorem d_AckBookLaw_law_528 : decode c_AckBookLaw_law 528 = .ok (.iconst (0), 1) := by decide +kernel
theorem d_AckBookLaw_law_524 : decode c_AckBookLaw_law 524 = .ok (.iconst (1), 1) := by decide +kernel
theorem d_AckBookLaw_law_525 : decode c_AckBookLaw_law 525 = .ok (.goto (4), 3) := by decide +kernel
theorem d_AckBookLaw_law_200 : decode c_AckBookLaw_law 200 = .ok (.invokevirtual 70, 3) := by decide +kernel
theorem d_AckBookLaw_law_203 : decode c_AckBookLaw_law 203 = .ok (.istore 6, 2) := by decide +kernel
theorem d_AckBookLaw_law_205 : decode c_AckBookLaw_law 205 = .ok (.aload_n 2, 1) := by decide +kernel
theorem d_AckBookLaw_law_206 : decode c_AckBookLaw_law 206 = .ok (.invokevirtual 71, 3) := by decide +kernel
theorem d_AckBookLaw_law_209 : decode c_AckBookLaw_law 209 = .ok (.iload 5, 2) := by decide +kernel
theorem d_AckBookLaw_law_211 : decode c_AckBookLaw_law 211 = .ok (.if_icmp .eq (5), 3) := by decide +kernel
theorem d_AckBookLaw_law_216 : decode c_AckBookLaw_law 216 = .ok (.iload 5, 2) := by decide +kernel
