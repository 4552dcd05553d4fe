theorem d_AckBookLaw_law_654 : decode c_AckBookLaw_law 654 = .ok (.iadd, 1) := by decide +kernel
theorem d_AckBookLaw_law_655 : decode c_AckBookLaw_law 655 = .ok (.iaload, 1) := by decide +kernel
theorem d_AckBookLaw_law_656 : decode c_AckBookLaw_law 656 = .ok (.invokevirtual 113, 3) := by decide +kernel
theorem d_AckBookLaw_law_659 : decode c_AckBookLaw_law 659 = .ok (.istore 6, 2) := by decide +kernel
theorem d_AckBookLaw_law_661 : decode c_AckBookLaw_law 661 = .ok (.goto (167), 3) := by decide +kernel
theorem d_AckBookLaw_law_664 : decode c_AckBookLaw_law 664 = .ok (.aload_n 1, 1) := by decide +kernel
theorem d_AckBookLaw_law_665 : decode c_AckBookLaw_law 665 = .ok (.aload_n 0, 1) := by decide +kernel
theorem d_AckBookLaw_law_666 : decode c_AckBookLaw_law 666 = .ok (.iload 4, 2) := by decide +kernel
theorem d_AckBookLaw_law_668 : decode c_AckBookLaw_law 668 = .ok (.iconst (1), 1) := by decide +kernel
theorem d_AckBookLaw_law_669 : decode c_AckBookLaw_law 669 = .ok (.iadd, 1) := by decide +kernel
theorem d_AckBookLaw_law_670 : decode c_AckBookLaw_law 670 = .ok (.iaload, 1) := by decide +kernel
theorem d_AckBookLaw_law_671 : decode c_AckBookLaw_law 671 = .ok (.aload_n 3, 1) := by decide +kernel
theorem d_AckBookLaw_law_672 : decode c_AckBookLaw_law 672 = .ok (.invokestatic 114, 3) := by decide +kernel
theorem d_AckBookLaw_law_675 : decode c_AckBookLaw_law 675 = .ok (.istore 5, 2) := by decide +kernel
theorem d_AckBookLaw_law_677 : decode c_AckBookLaw_law 677 = .ok (.aload_n 2, 1) := by decide +kernel
theorem d_AckBookLaw_law_678 : decode c_AckBookLaw_law 678 = .ok (.aload_n 0, 1) := by decide +kernel
theorem d_AckBookLaw_law_679 : decode c_AckBookLaw_law 679 = .ok (.iload 4, 2) := by decide +kernel
theorem d_AckBookLaw_law_681 : decode c_AckBookLaw_law 681 = .ok (.iconst (1), 1) := by decide +kernel
theorem d_AckBookLaw_law_682 : decode c_AckBookLaw_law 682 = .ok (.iadd, 1) := by decide +kernel
theorem d_AckBookLaw_law_683 : decode c_AckBookLaw_law 683 = .ok (.iaload, 1) := by decide +kernel
theorem d_AckBookLaw_law_684 : decode c_AckBookLaw_law 684 = .ok (.invokevirtual 116, 3) := by decide +kernel
theorem d_AckBookLaw_law_687 : decode c_AckBookLaw_law 687 = .ok (.istore 6, 2) := by decide +kernel
theorem d_AckBookLaw_law_689 : decode c_AckBookLaw_law 689 = .ok (.goto (139), 3) := by decide +kernel
theorem d_AckBookLaw_law_692 : decode c_AckBookLaw_law 692 = .ok (.aload_n 1, 1) := by decide +kernel
theorem d_AckBookLaw_law_693 : decode c_AckBookLaw_law 693 = .ok (.aload_n 0, 1) := by decide +kernel
theorem d_AckBookLaw_law_694 : decode c_AckBookLaw_law 694 = .ok (.iload 4, 2) := by decide +kernel
theorem d_AckBookLaw_law_696 : decode c_AckBookLaw_law 696 = .ok (.iconst (1), 1) := by decide +kernel
theorem d_AckBookLaw_law_697 : decode c_AckBookLaw_law 697 = .ok (.iadd, 1) := by decide +kernel
theorem d_AckBookLaw_law_698 : decode c_AckBookLaw_law 698 = .ok (.iaload, 1) := by decide +kernel
theorem d_AckBookLaw_law_699 : decode c_AckBookLaw_law 699 = .ok (.aload_n 0, 1) := by decide +kernel
theorem d_AckBookLaw_law_700 : decode c_AckBookLaw_law 700 = .ok (.iload 4, 2) := by decide +kernel
theorem d_AckBookLaw_law_702 : decode c_AckBookLaw_law 702 = .ok (.iconst (2), 1) := by decide +kernel
theorem d_AckBookLaw_law_703 : decode c_AckBookLaw_law 703 = .ok (.iadd, 1) := by decide +kernel
theorem d_AckBookLaw_law_704 : decode c_AckBookLaw_law 704 = .ok (.iaload, 1) := by decide +kernel
theorem d_AckBookLaw_law_705 : decode c_AckBookLaw_law 705 = .ok (.aload_n 0, 1) := by decide +kernel
theorem d_AckBookLaw_law_706 : decode c_AckBookLaw_law 706 = .ok (.iload 4, 2) := by decide +kernel
theorem d_AckBookLaw_law_708 : decode c_AckBookLaw_law 708 = .ok (.iconst (3), 1) := by decide +kernel
theorem d_AckBookLaw_law_709 : decode c_AckBookLaw_law 709 = .ok (.iadd, 1) := by decide +kernel
theorem d_AckBookLaw_law_710 : decode c_AckBookLaw_law 710 = .ok (.iaload, 1) := by decide +kernel
theorem d_AckBookLaw_law_711 : decode c_AckBookLaw_law 711 = .ok (.ifCond .eq (7), 3) := by decide +kernel
theorem d_AckBookLaw_law_718 : decode c_AckBookLaw_law 718 = .ok (.iconst (0), 1) := by decide +kernel
theorem d_AckBookLaw_law_714 : decode c_AckBookLaw_law 714 = .ok (.iconst (1), 1) := by decide +kernel
theorem d_AckBookLaw_law_715 : decode c_AckBookLaw_law 715 = .ok (.goto (4), 3) := by decide +kernel
theorem d_AckBookLaw_law_760 : decode c_AckBookLaw_law 760 = .ok (.aload_n 1, 1) := by decide +kernel
theorem d_AckBookLaw_law_761 : decode c_AckBookLaw_law 761 = .ok (.aload_n 0, 1) := by decide +kernel
theorem d_AckBookLaw_law_762 : decode c_AckBookLaw_law 762 = .ok (.iload 4, 2) := by decide +kernel
theorem d_AckBookLaw_law_764 : decode c_AckBookLaw_law 764 = .ok (.iconst (1), 1) := by decide +kernel
theorem d_AckBookLaw_law_765 : decode c_AckBookLaw_law 765 = .ok (.iadd, 1) := by decide +kernel
theorem d_AckBookLaw_law_766 : decode c_AckBookLaw_law 766 = .ok (.iaload, 1) := by decide +kernel
theorem d_AckBookLaw_law_767 : decode c_AckBookLaw_law 767 = .ok (.aload_n 3, 1) := by decide +kernel
theorem d_AckBookLaw_law_768 : decode c_AckBookLaw_law 768 = .ok (.invokestatic 121, 3) := by decide +kernel
theorem d_AckBookLaw_law_771 : decode c_AckBookLaw_law 771 = .ok (.istore 5, 2) := by decide +kernel
theorem d_AckBookLaw_law_773 : decode c_AckBookLaw_law 773 = .ok (.aload_n 2, 1) := by decide +kernel
theorem d_AckBookLaw_law_774 : decode c_AckBookLaw_law 774 = .ok (.aload_n 0, 1) := by decide +kernel
theorem d_AckBookLaw_law_775 : decode c_AckBookLaw_law 775 = .ok (.iload 4, 2) := by decide +kernel
theorem d_AckBookLaw_law_777 : decode c_AckBookLaw_law 777 = .ok (.iconst (1), 1) := by decide +kernel
theorem d_AckBookLaw_law_778 : decode c_AckBookLaw_law 778 = .ok (.iadd, 1) := by decide +kernel
theorem d_AckBookLaw_law_779 : decode c_AckBookLaw_law 779 = .ok (.iaload, 1) := by decide +kernel
theorem d_AckBookLaw_law_780 : decode c_AckBookLaw_law 780 = .ok (.invokevirtual 123, 3) := by decide +kernel
theorem d_AckBookLaw_law_783 : decode c_AckBookLaw_law 783 = .ok (.istore 6, 2) := by decide +kernel
theorem d_AckBookLaw_law_785 : decode c_AckBookLaw_law 785 = .ok (.goto (43), 3) := by decide +kernel
theorem d_AckBookLaw_law_788 : decode c_AckBookLaw_law 788 = .ok (.aload_n 1, 1) := by decide +kernel
theorem d_AckBookLaw_law_789 : decode c_AckBookLaw_law 789 = .ok (.aload_n 0, 1) := by decide +kernel
theorem d_AckBookLaw_law_790 : decode c_AckBookLaw_law 790 = .ok (.iload 4, 2) := by decide +kernel
theorem d_AckBookLaw_law_792 : decode c_AckBookLaw_law 792 = .ok (.iconst (1), 1) := by decide +kernel
theorem d_AckBookLaw_law_793 : decode c_AckBookLaw_law 793 = .ok (.iadd, 1) := by decide +kernel
theorem d_AckBookLaw_law_794 : decode c_AckBookLaw_law 794 = .ok (.iaload, 1) := by decide +kernel
theorem d_AckBookLaw_law_795 : decode c_AckBookLaw_law 795 = .ok (.aload_n 0, 1) := by decide +kernel
theorem d_AckBookLaw_law_796 : decode c_AckBookLaw_law 796 = .ok (.iload 4, 2) := by decide +kernel
theorem d_AckBookLaw_law_798 : decode c_AckBookLaw_law 798 = .ok (.iconst (2), 1) := by decide +kernel
theorem d_AckBookLaw_law_799 : decode c_AckBookLaw_law 799 = .ok (.iadd, 1) := by decide +kernel
theorem d_AckBookLaw_law_800 : decode c_AckBookLaw_law 800 = .ok (.iaload, 1) := by decide +kernel
theorem d_AckBookLaw_law_801 : decode c_AckBookLaw_law 801 = .ok (.aload_n 3, 1) := by decide +kernel
theorem d_AckBookLaw_law_802 : decode c_AckBookLaw_law 802 = .ok (.invokestatic 124, 3) := by decide +kernel
theorem d_AckBookLaw_law_805 : decode c_AckBookLaw_law 805 = .ok (.istore 5, 2) := by decide +kernel
theorem d_AckBookLaw_law_807 : decode c_AckBookLaw_law 807 = .ok (.aload_n 2, 1) := by decide +kernel
theorem d_AckBookLaw_law_808 : decode c_AckBookLaw_law 808 = .ok (.aload_n 0, 1) := by decide +kernel
theorem d_AckBookLaw_law_809 : decode c_AckBookLaw_law 809 = .ok (.iload 4, 2) := by decide +kernel
theorem d_AckBookLaw_law_811 : decode c_AckBookLaw_law 811 = .ok (.iconst (1), 1) := by decide +kernel
theorem d_AckBookLaw_law_812 : decode c_AckBookLaw_law 812 = .ok (.iadd, 1) := by decide +kernel
theorem d_AckBookLaw_law_813 : decode c_AckBookLaw_law 813 = .ok (.iaload, 1) := by decide +kernel
theorem d_AckBookLaw_law_814 : decode c_AckBookLaw_law 814 = .ok (.aload_n 0, 1) := by decide +kernel
theorem d_AckBookLaw_law_815 : decode c_AckBookLaw_law 815 = .ok (.iload 4, 2) := by decide +kernel
theorem d_AckBookLaw_law_817 : decode c_AckBookLaw_law 817 = .ok (.iconst (2), 1) := by decide +kernel
theorem d_AckBookLaw_law_818 : decode c_AckBookLaw_law 818 = .ok (.iadd, 1) := by decide +kernel
theorem d_AckBookLaw_law_819 : decode c_AckBookLaw_law 819 = .ok (.iaload, 1) := by decide +kernel
theorem d_AckBookLaw_law_820 : decode c_AckBookLaw_law 820 = .ok (.invokevirtual 126, 3) := by decide +kernel
theorem d_AckBookLaw_law_823 : decode c_AckBookLaw_law 823 = .ok (.lstore 6, 2) := by decide +kernel
theorem d_AckBookLaw_law_825 : decode c_AckBookLaw_law 825 = .ok (.goto (3), 3) := by decide +kernel
theorem d_AckBookLaw_law_0 : decode c_AckBookLaw_law 0 = .ok (.new 8, 3) := by decide +kernel
theorem d_AckBookLaw_law_3 : decode c_AckBookLaw_law 3 = .ok (.dup, 1) := by decide +kernel
theorem d_AckBookLaw_law_4 : decode c_AckBookLaw_law 4 = .ok (.invokespecial 61, 3) := by decide +kernel
theorem d_AckBookLaw_law_7 : decode c_AckBookLaw_law 7 = .ok (.astore_n 1, 1) := by decide +kernel
theorem d_AckBookLaw_law_8 : decode c_AckBookLaw_law 8 = .ok (.new 62, 3) := by decide +kernel
theorem d_AckBookLaw_law_11 : decode c_AckBookLaw_law 11 = .ok (.dup, 1) := by decide +kernel
theorem d_AckBookLaw_law_12 : decode c_AckBookLaw_law 12 = .ok (.invokespecial 64, 3) := by decide +kernel
theorem d_AckBookLaw_law_15 : decode c_AckBookLaw_law 15 = .ok (.astore_n 2, 1) := by decide +kernel
theorem d_AckBookLaw_law_16 : decode c_AckBookLaw_law 16 = .ok (.iconst (1), 1) := by decide +kernel
theorem d_AckBookLaw_law_17 : decode c_AckBookLaw_law 17 = .ok (.newarray .long, 2) := by decide +kernel
theorem d_AckBookLaw_law_19 : decode c_AckBookLaw_law 19 = .ok (.astore_n 3, 1) := by decide +kernel
theorem d_AckBookLaw_law_20 : decode c_AckBookLaw_law 20 = .ok (.iconst (0), 1) := by decide +kernel
theorem d_AckBookLaw_law_21 : decode c_AckBookLaw_law 21 = .ok (.istore 4, 2) := by decide +kernel
