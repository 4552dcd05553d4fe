theorem d_AckBookLaw_law_596 : decode c_AckBookLaw_law 596 = .ok (.iconst (4), 1) := by decide +kernel
theorem d_AckBookLaw_law_597 : decode c_AckBookLaw_law 597 = .ok (.iadd, 1) := by decide +kernel
theorem d_AckBookLaw_law_598 : decode c_AckBookLaw_law 598 = .ok (.iaload, 1) := by decide +kernel
theorem d_AckBookLaw_law_599 : decode c_AckBookLaw_law 599 = .ok (.ifCond .eq (7), 3) := by decide +kernel
theorem d_AckBookLaw_law_606 : decode c_AckBookLaw_law 606 = .ok (.iconst (0), 1) := by decide +kernel
theorem d_AckBookLaw_law_602 : decode c_AckBookLaw_law 602 = .ok (.iconst (1), 1) := by decide +kernel
theorem d_AckBookLaw_law_603 : decode c_AckBookLaw_law 603 = .ok (.goto (4), 3) := by decide +kernel
theorem d_AckBookLaw_law_664 : decode c_AckBookLaw_law 664 = .ok (.aload_n 1, 1) := by decide +kernel
theorem d_AckBookLaw_law_665 : decode c_AckBookLaw_law 665 = .ok (.aload_n 0, 1) := by decide +kernel
theorem d_AckBookLaw_law_666 : decode c_AckBookLaw_law 666 = .ok (.iload 4, 2) := by decide +kernel
theorem d_AckBookLaw_law_668 : decode c_AckBookLaw_law 668 = .ok (.iconst (1), 1) := by decide +kernel
theorem d_AckBookLaw_law_669 : decode c_AckBookLaw_law 669 = .ok (.iadd, 1) := by decide +kernel
theorem d_AckBookLaw_law_670 : decode c_AckBookLaw_law 670 = .ok (.iaload, 1) := by decide +kernel
theorem d_AckBookLaw_law_671 : decode c_AckBookLaw_law 671 = .ok (.aload_n 3, 1) := by decide +kernel
theorem d_AckBookLaw_law_672 : decode c_AckBookLaw_law 672 = .ok (.invokestatic 113, 3) := by decide +kernel
theorem d_AckBookLaw_law_675 : decode c_AckBookLaw_law 675 = .ok (.istore 5, 2) := by decide +kernel
theorem d_AckBookLaw_law_677 : decode c_AckBookLaw_law 677 = .ok (.aload_n 2, 1) := by decide +kernel
theorem d_AckBookLaw_law_678 : decode c_AckBookLaw_law 678 = .ok (.aload_n 0, 1) := by decide +kernel
theorem d_AckBookLaw_law_679 : decode c_AckBookLaw_law 679 = .ok (.iload 4, 2) := by decide +kernel
theorem d_AckBookLaw_law_681 : decode c_AckBookLaw_law 681 = .ok (.iconst (1), 1) := by decide +kernel
theorem d_AckBookLaw_law_682 : decode c_AckBookLaw_law 682 = .ok (.iadd, 1) := by decide +kernel
theorem d_AckBookLaw_law_683 : decode c_AckBookLaw_law 683 = .ok (.iaload, 1) := by decide +kernel
theorem d_AckBookLaw_law_684 : decode c_AckBookLaw_law 684 = .ok (.invokevirtual 116, 3) := by decide +kernel
theorem d_AckBookLaw_law_687 : decode c_AckBookLaw_law 687 = .ok (.istore 6, 2) := by decide +kernel
theorem d_AckBookLaw_law_689 : decode c_AckBookLaw_law 689 = .ok (.goto (167), 3) := by decide +kernel
theorem d_AckBookLaw_law_692 : decode c_AckBookLaw_law 692 = .ok (.aload_n 1, 1) := by decide +kernel
theorem d_AckBookLaw_law_693 : decode c_AckBookLaw_law 693 = .ok (.aload_n 0, 1) := by decide +kernel
theorem d_AckBookLaw_law_694 : decode c_AckBookLaw_law 694 = .ok (.iload 4, 2) := by decide +kernel
theorem d_AckBookLaw_law_696 : decode c_AckBookLaw_law 696 = .ok (.iconst (1), 1) := by decide +kernel
theorem d_AckBookLaw_law_697 : decode c_AckBookLaw_law 697 = .ok (.iadd, 1) := by decide +kernel
theorem d_AckBookLaw_law_698 : decode c_AckBookLaw_law 698 = .ok (.iaload, 1) := by decide +kernel
theorem d_AckBookLaw_law_699 : decode c_AckBookLaw_law 699 = .ok (.aload_n 3, 1) := by decide +kernel
theorem d_AckBookLaw_law_700 : decode c_AckBookLaw_law 700 = .ok (.invokestatic 117, 3) := by decide +kernel
theorem d_AckBookLaw_law_703 : decode c_AckBookLaw_law 703 = .ok (.istore 5, 2) := by decide +kernel
theorem d_AckBookLaw_law_705 : decode c_AckBookLaw_law 705 = .ok (.aload_n 2, 1) := by decide +kernel
theorem d_AckBookLaw_law_706 : decode c_AckBookLaw_law 706 = .ok (.aload_n 0, 1) := by decide +kernel
theorem d_AckBookLaw_law_707 : decode c_AckBookLaw_law 707 = .ok (.iload 4, 2) := by decide +kernel
theorem d_AckBookLaw_law_709 : decode c_AckBookLaw_law 709 = .ok (.iconst (1), 1) := by decide +kernel
theorem d_AckBookLaw_law_710 : decode c_AckBookLaw_law 710 = .ok (.iadd, 1) := by decide +kernel
theorem d_AckBookLaw_law_711 : decode c_AckBookLaw_law 711 = .ok (.iaload, 1) := by decide +kernel
theorem d_AckBookLaw_law_712 : decode c_AckBookLaw_law 712 = .ok (.invokevirtual 119, 3) := by decide +kernel
theorem d_AckBookLaw_law_715 : decode c_AckBookLaw_law 715 = .ok (.istore 6, 2) := by decide +kernel
theorem d_AckBookLaw_law_717 : decode c_AckBookLaw_law 717 = .ok (.goto (139), 3) := by decide +kernel
theorem d_AckBookLaw_law_720 : decode c_AckBookLaw_law 720 = .ok (.aload_n 1, 1) := by decide +kernel
theorem d_AckBookLaw_law_721 : decode c_AckBookLaw_law 721 = .ok (.aload_n 0, 1) := by decide +kernel
theorem d_AckBookLaw_law_722 : decode c_AckBookLaw_law 722 = .ok (.iload 4, 2) := by decide +kernel
theorem d_AckBookLaw_law_724 : decode c_AckBookLaw_law 724 = .ok (.iconst (1), 1) := by decide +kernel
theorem d_AckBookLaw_law_725 : decode c_AckBookLaw_law 725 = .ok (.iadd, 1) := by decide +kernel
theorem d_AckBookLaw_law_726 : decode c_AckBookLaw_law 726 = .ok (.iaload, 1) := by decide +kernel
theorem d_AckBookLaw_law_727 : decode c_AckBookLaw_law 727 = .ok (.aload_n 0, 1) := by decide +kernel
theorem d_AckBookLaw_law_728 : decode c_AckBookLaw_law 728 = .ok (.iload 4, 2) := by decide +kernel
theorem d_AckBookLaw_law_730 : decode c_AckBookLaw_law 730 = .ok (.iconst (2), 1) := by decide +kernel
theorem d_AckBookLaw_law_731 : decode c_AckBookLaw_law 731 = .ok (.iadd, 1) := by decide +kernel
theorem d_AckBookLaw_law_732 : decode c_AckBookLaw_law 732 = .ok (.iaload, 1) := by decide +kernel
theorem d_AckBookLaw_law_733 : decode c_AckBookLaw_law 733 = .ok (.aload_n 0, 1) := by decide +kernel
theorem d_AckBookLaw_law_734 : decode c_AckBookLaw_law 734 = .ok (.iload 4, 2) := by decide +kernel
theorem d_AckBookLaw_law_736 : decode c_AckBookLaw_law 736 = .ok (.iconst (3), 1) := by decide +kernel
theorem d_AckBookLaw_law_737 : decode c_AckBookLaw_law 737 = .ok (.iadd, 1) := by decide +kernel
theorem d_AckBookLaw_law_738 : decode c_AckBookLaw_law 738 = .ok (.iaload, 1) := by decide +kernel
theorem d_AckBookLaw_law_739 : decode c_AckBookLaw_law 739 = .ok (.ifCond .eq (7), 3) := by decide +kernel
theorem d_AckBookLaw_law_746 : decode c_AckBookLaw_law 746 = .ok (.iconst (0), 1) := by decide +kernel
theorem d_AckBookLaw_law_742 : decode c_AckBookLaw_law 742 = .ok (.iconst (1), 1) := by decide +kernel
theorem d_AckBookLaw_law_743 : decode c_AckBookLaw_law 743 = .ok (.goto (4), 3) := by decide +kernel
theorem d_AckBookLaw_law_788 : decode c_AckBookLaw_law 788 = .ok (.aload_n 1, 1) := by decide +kernel
theorem d_AckBookLaw_law_789 : decode c_AckBookLaw_law 789 = .ok (.aload_n 0, 1) := by decide +kernel
theorem d_AckBookLaw_law_790 : decode c_AckBookLaw_law 790 = .ok (.iload 4, 2) := by decide +kernel
theorem d_AckBookLaw_law_792 : decode c_AckBookLaw_law 792 = .ok (.iconst (1), 1) := by decide +kernel
theorem d_AckBookLaw_law_793 : decode c_AckBookLaw_law 793 = .ok (.iadd, 1) := by decide +kernel
theorem d_AckBookLaw_law_794 : decode c_AckBookLaw_law 794 = .ok (.iaload, 1) := by decide +kernel
theorem d_AckBookLaw_law_795 : decode c_AckBookLaw_law 795 = .ok (.aload_n 3, 1) := by decide +kernel
theorem d_AckBookLaw_law_796 : decode c_AckBookLaw_law 796 = .ok (.invokestatic 124, 3) := by decide +kernel
theorem d_AckBookLaw_law_799 : decode c_AckBookLaw_law 799 = .ok (.istore 5, 2) := by decide +kernel
theorem d_AckBookLaw_law_801 : decode c_AckBookLaw_law 801 = .ok (.aload_n 2, 1) := by decide +kernel
theorem d_AckBookLaw_law_802 : decode c_AckBookLaw_law 802 = .ok (.aload_n 0, 1) := by decide +kernel
theorem d_AckBookLaw_law_803 : decode c_AckBookLaw_law 803 = .ok (.iload 4, 2) := by decide +kernel
theorem d_AckBookLaw_law_805 : decode c_AckBookLaw_law 805 = .ok (.iconst (1), 1) := by decide +kernel
theorem d_AckBookLaw_law_806 : decode c_AckBookLaw_law 806 = .ok (.iadd, 1) := by decide +kernel
theorem d_AckBookLaw_law_807 : decode c_AckBookLaw_law 807 = .ok (.iaload, 1) := by decide +kernel
theorem d_AckBookLaw_law_808 : decode c_AckBookLaw_law 808 = .ok (.invokevirtual 126, 3) := by decide +kernel
theorem d_AckBookLaw_law_811 : decode c_AckBookLaw_law 811 = .ok (.istore 6, 2) := by decide +kernel
theorem d_AckBookLaw_law_813 : decode c_AckBookLaw_law 813 = .ok (.goto (43), 3) := by decide +kernel
theorem d_AckBookLaw_law_816 : decode c_AckBookLaw_law 816 = .ok (.aload_n 1, 1) := by decide +kernel
theorem d_AckBookLaw_law_817 : decode c_AckBookLaw_law 817 = .ok (.aload_n 0, 1) := by decide +kernel
theorem d_AckBookLaw_law_818 : decode c_AckBookLaw_law 818 = .ok (.iload 4, 2) := by decide +kernel
theorem d_AckBookLaw_law_820 : decode c_AckBookLaw_law 820 = .ok (.iconst (1), 1) := by decide +kernel
theorem d_AckBookLaw_law_821 : decode c_AckBookLaw_law 821 = .ok (.iadd, 1) := by decide +kernel
theorem d_AckBookLaw_law_822 : decode c_AckBookLaw_law 822 = .ok (.iaload, 1) := by decide +kernel
theorem d_AckBookLaw_law_823 : decode c_AckBookLaw_law 823 = .ok (.aload_n 0, 1) := by decide +kernel
theorem d_AckBookLaw_law_824 : decode c_AckBookLaw_law 824 = .ok (.iload 4, 2) := by decide +kernel
theorem d_AckBookLaw_law_826 : decode c_AckBookLaw_law 826 = .ok (.iconst (2), 1) := by decide +kernel
theorem d_AckBookLaw_law_827 : decode c_AckBookLaw_law 827 = .ok (.iadd, 1) := by decide +kernel
theorem d_AckBookLaw_law_828 : decode c_AckBookLaw_law 828 = .ok (.iaload, 1) := by decide +kernel
theorem d_AckBookLaw_law_829 : decode c_AckBookLaw_law 829 = .ok (.aload_n 3, 1) := by decide +kernel
theorem d_AckBookLaw_law_830 : decode c_AckBookLaw_law 830 = .ok (.invokestatic 127, 3) := by decide +kernel
theorem d_AckBookLaw_law_833 : decode c_AckBookLaw_law 833 = .ok (.istore 5, 2) := by decide +kernel
theorem d_AckBookLaw_law_835 : decode c_AckBookLaw_law 835 = .ok (.aload_n 2, 1) := by decide +kernel
theorem d_AckBookLaw_law_836 : decode c_AckBookLaw_law 836 = .ok (.aload_n 0, 1) := by decide +kernel
theorem d_AckBookLaw_law_837 : decode c_AckBookLaw_law 837 = .ok (.iload 4, 2) := by decide +kernel
theorem d_AckBookLaw_law_839 : decode c_AckBookLaw_law 839 = .ok (.iconst (1), 1) := by decide +kernel
theorem d_AckBookLaw_law_840 : decode c_AckBookLaw_law 840 = .ok (.iadd, 1) := by decide +kernel
theorem d_AckBookLaw_law_841 : decode c_AckBookLaw_law 841 = .ok (.iaload, 1) := by decide +kernel
theorem d_AckBookLaw_law_842 : decode c_AckBookLaw_law 842 = .ok (.aload_n 0, 1) := by decide +kernel
theorem d_AckBookLaw_law_843 : decode c_AckBookLaw_law 843 = .ok (.iload 4, 2) := by decide +kernel
theorem d_AckBookLaw_law_845 : decode c_AckBookLaw_law 845 = .ok (.iconst (2), 1) := by decide +kernel
theorem d_AckBookLaw_law_846 : decode c_AckBookLaw_law 846 = .ok (.iadd, 1) := by decide +kernel
theorem d_AckBookLaw_law_847 : decode c_AckBookLaw_law 847 = .ok (.iaload, 1) := by decide +kernel
theorem d_AckBookLaw_law_848 : decode c_AckBookLaw_law 848 = .ok (.invokevirtual 129, 3) := by decide +kernel
theorem d_AckBookLaw_law_851 : decode c_AckBookLaw_law 851 = .ok (.lstore 6, 2) := by decide +kernel
theorem d_AckBookLaw_law_853 : decode c_AckBookLaw_law 853 = .ok (.goto (3), 3) := by decide +kernel
theorem d_AckBookLaw_law_0 : decode c_AckBookLaw_law 0 = .ok (.new 8, 3) := by decide +kernel
theorem d_AckBookLaw_law_3 : decode c_AckBookLaw_law 3 = .ok (.dup, 1) := by decide +kernel
theorem d_AckBookLaw_law_4 : decode c_AckBookLaw_law 4 = .ok (.invokespecial 61, 3) := by decide +kernel
theorem d_AckBookLaw_law_7 : decode c_AckBookLaw_law 7 = .ok (.astore_n 1, 1) := by decide +kernel
theorem d_AckBookLaw_law_8 : decode c_AckBookLaw_law 8 = .ok (.new 62, 3) := by decide +kernel
theorem d_AckBookLaw_law_11 : decode c_AckBookLaw_law 11 = .ok (.dup, 1) := by decide +kernel
theorem d_AckBookLaw_law_12 : decode c_AckBookLaw_law 12 = .ok (.invokespecial 64, 3) := by decide +kernel
theorem d_AckBookLaw_law_15 : decode c_AckBookLaw_law 15 = .ok (.astore_n 2, 1) := by decide +kernel
theorem d_AckBookLaw_law_16 : decode c_AckBookLaw_law 16 = .ok (.iconst (1), 1) := by decide +kernel
theorem d_AckBookLaw_law_17 : decode c_AckBookLaw_law 17 = .ok (.newarray .long, 2) := by decide +kernel
theorem d_AckBookLaw_law_19 : decode c_AckBookLaw_law 19 = .ok (.astore_n 3, 1) := by decide +kernel
