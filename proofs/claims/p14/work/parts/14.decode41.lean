theorem d_AckBookLaw_law_569 : decode c_AckBookLaw_law 569 = .ok (.iadd, 1) := by decide +kernel
theorem d_AckBookLaw_law_570 : decode c_AckBookLaw_law 570 = .ok (.iaload, 1) := by decide +kernel
theorem d_AckBookLaw_law_571 : decode c_AckBookLaw_law 571 = .ok (.ifCond .eq (7), 3) := by decide +kernel
theorem d_AckBookLaw_law_578 : decode c_AckBookLaw_law 578 = .ok (.iconst (0), 1) := by decide +kernel
theorem d_AckBookLaw_law_574 : decode c_AckBookLaw_law 574 = .ok (.iconst (1), 1) := by decide +kernel
theorem d_AckBookLaw_law_575 : decode c_AckBookLaw_law 575 = .ok (.goto (4), 3) := by decide +kernel
theorem d_AckBookLaw_law_636 : decode c_AckBookLaw_law 636 = .ok (.aload_n 1, 1) := by decide +kernel
theorem d_AckBookLaw_law_637 : decode c_AckBookLaw_law 637 = .ok (.aload_n 0, 1) := by decide +kernel
theorem d_AckBookLaw_law_638 : decode c_AckBookLaw_law 638 = .ok (.iload 4, 2) := by decide +kernel
theorem d_AckBookLaw_law_640 : decode c_AckBookLaw_law 640 = .ok (.iconst (1), 1) := by decide +kernel
theorem d_AckBookLaw_law_641 : decode c_AckBookLaw_law 641 = .ok (.iadd, 1) := by decide +kernel
theorem d_AckBookLaw_law_642 : decode c_AckBookLaw_law 642 = .ok (.iaload, 1) := by decide +kernel
theorem d_AckBookLaw_law_643 : decode c_AckBookLaw_law 643 = .ok (.aload_n 3, 1) := by decide +kernel
theorem d_AckBookLaw_law_644 : decode c_AckBookLaw_law 644 = .ok (.invokestatic 110, 3) := by decide +kernel
theorem d_AckBookLaw_law_647 : decode c_AckBookLaw_law 647 = .ok (.istore 5, 2) := by decide +kernel
theorem d_AckBookLaw_law_649 : decode c_AckBookLaw_law 649 = .ok (.aload_n 2, 1) := by decide +kernel
theorem d_AckBookLaw_law_650 : decode c_AckBookLaw_law 650 = .ok (.aload_n 0, 1) := by decide +kernel
theorem d_AckBookLaw_law_651 : decode c_AckBookLaw_law 651 = .ok (.iload 4, 2) := by decide +kernel
theorem d_AckBookLaw_law_653 : decode c_AckBookLaw_law 653 = .ok (.iconst (1), 1) := by decide +kernel
theorem d_AckBookLaw_law_654 : decode c_AckBookLaw_law 654 = .ok (.iadd, 1) := by decide +kernel
theorem d_AckBookLaw_law_655 : decode c_AckBookLaw_law 655 = .ok (.iaload, 1) := by decide +kernel
theorem d_AckBookLaw_law_656 : decode c_AckBookLaw_law 656 = .ok (.invokevirtual 113, 3) := by decide +kernel
theorem d_AckBookLaw_law_659 : decode c_AckBookLaw_law 659 = .ok (.istore 6, 2) := by decide +kernel
theorem d_AckBookLaw_law_661 : decode c_AckBookLaw_law 661 = .ok (.goto (194), 3) := by decide +kernel
theorem d_AckBookLaw_law_664 : decode c_AckBookLaw_law 664 = .ok (.aload_n 1, 1) := by decide +kernel
theorem d_AckBookLaw_law_665 : decode c_AckBookLaw_law 665 = .ok (.aload_n 0, 1) := by decide +kernel
theorem d_AckBookLaw_law_666 : decode c_AckBookLaw_law 666 = .ok (.iload 4, 2) := by decide +kernel
theorem d_AckBookLaw_law_668 : decode c_AckBookLaw_law 668 = .ok (.iconst (1), 1) := by decide +kernel
theorem d_AckBookLaw_law_669 : decode c_AckBookLaw_law 669 = .ok (.iadd, 1) := by decide +kernel
theorem d_AckBookLaw_law_670 : decode c_AckBookLaw_law 670 = .ok (.iaload, 1) := by decide +kernel
theorem d_AckBookLaw_law_671 : decode c_AckBookLaw_law 671 = .ok (.aload_n 3, 1) := by decide +kernel
theorem d_AckBookLaw_law_672 : decode c_AckBookLaw_law 672 = .ok (.invokestatic 114, 3) := by decide +kernel
theorem d_AckBookLaw_law_675 : decode c_AckBookLaw_law 675 = .ok (.istore 5, 2) := by decide +kernel
theorem d_AckBookLaw_law_677 : decode c_AckBookLaw_law 677 = .ok (.aload_n 2, 1) := by decide +kernel
theorem d_AckBookLaw_law_678 : decode c_AckBookLaw_law 678 = .ok (.aload_n 0, 1) := by decide +kernel
theorem d_AckBookLaw_law_679 : decode c_AckBookLaw_law 679 = .ok (.iload 4, 2) := by decide +kernel
theorem d_AckBookLaw_law_681 : decode c_AckBookLaw_law 681 = .ok (.iconst (1), 1) := by decide +kernel
theorem d_AckBookLaw_law_682 : decode c_AckBookLaw_law 682 = .ok (.iadd, 1) := by decide +kernel
theorem d_AckBookLaw_law_683 : decode c_AckBookLaw_law 683 = .ok (.iaload, 1) := by decide +kernel
theorem d_AckBookLaw_law_684 : decode c_AckBookLaw_law 684 = .ok (.invokevirtual 116, 3) := by decide +kernel
theorem d_AckBookLaw_law_687 : decode c_AckBookLaw_law 687 = .ok (.istore 6, 2) := by decide +kernel
theorem d_AckBookLaw_law_689 : decode c_AckBookLaw_law 689 = .ok (.goto (166), 3) := by decide +kernel
theorem d_AckBookLaw_law_692 : decode c_AckBookLaw_law 692 = .ok (.aload_n 1, 1) := by decide +kernel
theorem d_AckBookLaw_law_693 : decode c_AckBookLaw_law 693 = .ok (.aload_n 0, 1) := by decide +kernel
theorem d_AckBookLaw_law_694 : decode c_AckBookLaw_law 694 = .ok (.iload 4, 2) := by decide +kernel
theorem d_AckBookLaw_law_696 : decode c_AckBookLaw_law 696 = .ok (.iconst (1), 1) := by decide +kernel
theorem d_AckBookLaw_law_697 : decode c_AckBookLaw_law 697 = .ok (.iadd, 1) := by decide +kernel
theorem d_AckBookLaw_law_698 : decode c_AckBookLaw_law 698 = .ok (.iaload, 1) := by decide +kernel
theorem d_AckBookLaw_law_699 : decode c_AckBookLaw_law 699 = .ok (.aload_n 0, 1) := by decide +kernel
theorem d_AckBookLaw_law_700 : decode c_AckBookLaw_law 700 = .ok (.iload 4, 2) := by decide +kernel
theorem d_AckBookLaw_law_702 : decode c_AckBookLaw_law 702 = .ok (.iconst (2), 1) := by decide +kernel
theorem d_AckBookLaw_law_703 : decode c_AckBookLaw_law 703 = .ok (.iadd, 1) := by decide +kernel
theorem d_AckBookLaw_law_704 : decode c_AckBookLaw_law 704 = .ok (.iaload, 1) := by decide +kernel
theorem d_AckBookLaw_law_705 : decode c_AckBookLaw_law 705 = .ok (.aload_n 0, 1) := by decide +kernel
theorem d_AckBookLaw_law_706 : decode c_AckBookLaw_law 706 = .ok (.iload 4, 2) := by decide +kernel
theorem d_AckBookLaw_law_708 : decode c_AckBookLaw_law 708 = .ok (.iconst (3), 1) := by decide +kernel
theorem d_AckBookLaw_law_709 : decode c_AckBookLaw_law 709 = .ok (.iadd, 1) := by decide +kernel
theorem d_AckBookLaw_law_710 : decode c_AckBookLaw_law 710 = .ok (.iaload, 1) := by decide +kernel
theorem d_AckBookLaw_law_711 : decode c_AckBookLaw_law 711 = .ok (.ifCond .eq (7), 3) := by decide +kernel
theorem d_AckBookLaw_law_718 : decode c_AckBookLaw_law 718 = .ok (.iconst (0), 1) := by decide +kernel
theorem d_AckBookLaw_law_714 : decode c_AckBookLaw_law 714 = .ok (.iconst (1), 1) := by decide +kernel
theorem d_AckBookLaw_law_715 : decode c_AckBookLaw_law 715 = .ok (.goto (4), 3) := by decide +kernel
theorem d_AckBookLaw_law_787 : decode c_AckBookLaw_law 787 = .ok (.aload_n 1, 1) := by decide +kernel
theorem d_AckBookLaw_law_788 : decode c_AckBookLaw_law 788 = .ok (.aload_n 0, 1) := by decide +kernel
theorem d_AckBookLaw_law_789 : decode c_AckBookLaw_law 789 = .ok (.iload 4, 2) := by decide +kernel
theorem d_AckBookLaw_law_791 : decode c_AckBookLaw_law 791 = .ok (.iconst (1), 1) := by decide +kernel
theorem d_AckBookLaw_law_792 : decode c_AckBookLaw_law 792 = .ok (.iadd, 1) := by decide +kernel
theorem d_AckBookLaw_law_793 : decode c_AckBookLaw_law 793 = .ok (.iaload, 1) := by decide +kernel
theorem d_AckBookLaw_law_794 : decode c_AckBookLaw_law 794 = .ok (.aload_n 3, 1) := by decide +kernel
theorem d_AckBookLaw_law_795 : decode c_AckBookLaw_law 795 = .ok (.invokestatic 124, 3) := by decide +kernel
theorem d_AckBookLaw_law_798 : decode c_AckBookLaw_law 798 = .ok (.istore 5, 2) := by decide +kernel
theorem d_AckBookLaw_law_800 : decode c_AckBookLaw_law 800 = .ok (.aload_n 2, 1) := by decide +kernel
theorem d_AckBookLaw_law_801 : decode c_AckBookLaw_law 801 = .ok (.aload_n 0, 1) := by decide +kernel
theorem d_AckBookLaw_law_802 : decode c_AckBookLaw_law 802 = .ok (.iload 4, 2) := by decide +kernel
theorem d_AckBookLaw_law_804 : decode c_AckBookLaw_law 804 = .ok (.iconst (1), 1) := by decide +kernel
theorem d_AckBookLaw_law_805 : decode c_AckBookLaw_law 805 = .ok (.iadd, 1) := by decide +kernel
theorem d_AckBookLaw_law_806 : decode c_AckBookLaw_law 806 = .ok (.iaload, 1) := by decide +kernel
theorem d_AckBookLaw_law_807 : decode c_AckBookLaw_law 807 = .ok (.invokevirtual 126, 3) := by decide +kernel
theorem d_AckBookLaw_law_810 : decode c_AckBookLaw_law 810 = .ok (.istore 6, 2) := by decide +kernel
theorem d_AckBookLaw_law_812 : decode c_AckBookLaw_law 812 = .ok (.goto (43), 3) := by decide +kernel
theorem d_AckBookLaw_law_815 : decode c_AckBookLaw_law 815 = .ok (.aload_n 1, 1) := by decide +kernel
theorem d_AckBookLaw_law_816 : decode c_AckBookLaw_law 816 = .ok (.aload_n 0, 1) := by decide +kernel
theorem d_AckBookLaw_law_817 : decode c_AckBookLaw_law 817 = .ok (.iload 4, 2) := by decide +kernel
theorem d_AckBookLaw_law_819 : decode c_AckBookLaw_law 819 = .ok (.iconst (1), 1) := by decide +kernel
theorem d_AckBookLaw_law_820 : decode c_AckBookLaw_law 820 = .ok (.iadd, 1) := by decide +kernel
theorem d_AckBookLaw_law_821 : decode c_AckBookLaw_law 821 = .ok (.iaload, 1) := by decide +kernel
theorem d_AckBookLaw_law_822 : decode c_AckBookLaw_law 822 = .ok (.aload_n 0, 1) := by decide +kernel
theorem d_AckBookLaw_law_823 : decode c_AckBookLaw_law 823 = .ok (.iload 4, 2) := by decide +kernel
theorem d_AckBookLaw_law_825 : decode c_AckBookLaw_law 825 = .ok (.iconst (2), 1) := by decide +kernel
theorem d_AckBookLaw_law_826 : decode c_AckBookLaw_law 826 = .ok (.iadd, 1) := by decide +kernel
theorem d_AckBookLaw_law_827 : decode c_AckBookLaw_law 827 = .ok (.iaload, 1) := by decide +kernel
theorem d_AckBookLaw_law_828 : decode c_AckBookLaw_law 828 = .ok (.aload_n 3, 1) := by decide +kernel
theorem d_AckBookLaw_law_829 : decode c_AckBookLaw_law 829 = .ok (.invokestatic 127, 3) := by decide +kernel
theorem d_AckBookLaw_law_832 : decode c_AckBookLaw_law 832 = .ok (.istore 5, 2) := by decide +kernel
theorem d_AckBookLaw_law_834 : decode c_AckBookLaw_law 834 = .ok (.aload_n 2, 1) := by decide +kernel
theorem d_AckBookLaw_law_835 : decode c_AckBookLaw_law 835 = .ok (.aload_n 0, 1) := by decide +kernel
theorem d_AckBookLaw_law_836 : decode c_AckBookLaw_law 836 = .ok (.iload 4, 2) := by decide +kernel
theorem d_AckBookLaw_law_838 : decode c_AckBookLaw_law 838 = .ok (.iconst (1), 1) := by decide +kernel
theorem d_AckBookLaw_law_839 : decode c_AckBookLaw_law 839 = .ok (.iadd, 1) := by decide +kernel
theorem d_AckBookLaw_law_840 : decode c_AckBookLaw_law 840 = .ok (.iaload, 1) := by decide +kernel
theorem d_AckBookLaw_law_841 : decode c_AckBookLaw_law 841 = .ok (.aload_n 0, 1) := by decide +kernel
theorem d_AckBookLaw_law_842 : decode c_AckBookLaw_law 842 = .ok (.iload 4, 2) := by decide +kernel
theorem d_AckBookLaw_law_844 : decode c_AckBookLaw_law 844 = .ok (.iconst (2), 1) := by decide +kernel
theorem d_AckBookLaw_law_845 : decode c_AckBookLaw_law 845 = .ok (.iadd, 1) := by decide +kernel
theorem d_AckBookLaw_law_846 : decode c_AckBookLaw_law 846 = .ok (.iaload, 1) := by decide +kernel
theorem d_AckBookLaw_law_847 : decode c_AckBookLaw_law 847 = .ok (.invokevirtual 129, 3) := by decide +kernel
theorem d_AckBookLaw_law_850 : decode c_AckBookLaw_law 850 = .ok (.lstore 6, 2) := by decide +kernel
theorem d_AckBookLaw_law_852 : decode c_AckBookLaw_law 852 = .ok (.goto (3), 3) := by decide +kernel
theorem d_AckBookLaw_law_0 : decode c_AckBookLaw_law 0 = .ok (.new 8, 3) := by decide +kernel
theorem d_AckBookLaw_law_3 : decode c_AckBookLaw_law 3 = .ok (.dup, 1) := by decide +kernel
theorem d_AckBookLaw_law_4 : decode c_AckBookLaw_law 4 = .ok (.invokespecial 61, 3) := by decide +kernel
theorem d_AckBookLaw_law_7 : decode c_AckBookLaw_law 7 = .ok (.astore_n 1, 1) := by decide +kernel
theorem d_AckBookLaw_law_8 : decode c_AckBookLaw_law 8 = .ok (.new 62, 3) := by decide +kernel
theorem d_AckBookLaw_law_11 : decode c_AckBookLaw_law 11 = .ok (.dup, 1) := by decide +kernel
theorem d_AckBookLaw_law_12 : decode c_AckBookLaw_law 12 = .ok (.invokespecial 64, 3) := by decide +kernel
theorem d_AckBookLaw_law_15 : decode c_AckBookLaw_law 15 = .ok (.astore_n 2, 1) := by decide +kernel
theorem d_AckBookLaw_law_16 : decode c_AckBookLaw_law 16 = .ok (.iconst (1), 1) := by decide +kernel
theorem d_AckBookLaw_law_17 : decode c_AckBookLaw_law 17 = .ok (.newarray .long, 2) := by decide +kernel
theorem d_AckBookLaw_law_19 : decode c_AckBookLaw_law 19 = .ok (.astore_n 3, 1) := by decide +kernel
theorem d_AckBookLaw_law_20 : decode c_AckBookLaw_law 20 = .ok (.iconst (0), 1) := by decide +kernel
