theorem d_AckBookLaw_law_642 : decode c_AckBookLaw_law 642 = .ok (.iaload, 1) := by decide +kernel
theorem d_AckBookLaw_law_643 : decode c_AckBookLaw_law 643 = .ok (.aload_n 3, 1) := by decide +kernel
theorem d_AckBookLaw_law_644 : decode c_AckBookLaw_law 644 = .ok (.invokestatic 110, 3) := by decide +kernel
theorem d_AckBookLaw_law_647 : decode c_AckBookLaw_law 647 = .ok (.istore 5, 2) := by decide +kernel
theorem d_AckBookLaw_law_649 : decode c_AckBookLaw_law 649 = .ok (.aload_n 2, 1) := by decide +kernel
theorem d_AckBookLaw_law_650 : decode c_AckBookLaw_law 650 = .ok (.aload_n 0, 1) := by decide +kernel
theorem d_AckBookLaw_law_651 : decode c_AckBookLaw_law 651 = .ok (.iload 4, 2) := by decide +kernel
theorem d_AckBookLaw_law_653 : decode c_AckBookLaw_law 653 = .ok (.iconst (1), 1) := by decide +kernel
theorem d_AckBookLaw_law_654 : decode c_AckBookLaw_law 654 = .ok (.iadd, 1) := by decide +kernel
theorem d_AckBookLaw_law_655 : decode c_AckBookLaw_law 655 = .ok (.iaload, 1) := by decide +kernel
theorem d_AckBookLaw_law_656 : decode c_AckBookLaw_law 656 = .ok (.invokevirtual 113, 3) := by decide +kernel
theorem d_AckBookLaw_law_659 : decode c_AckBookLaw_law 659 = .ok (.istore 6, 2) := by decide +kernel
theorem d_AckBookLaw_law_661 : decode c_AckBookLaw_law 661 = .ok (.aload_n 2, 1) := by decide +kernel
theorem d_AckBookLaw_law_662 : decode c_AckBookLaw_law 662 = .ok (.invokevirtual 114, 3) := by decide +kernel
theorem d_AckBookLaw_law_665 : decode c_AckBookLaw_law 665 = .ok (.iload 5, 2) := by decide +kernel
theorem d_AckBookLaw_law_667 : decode c_AckBookLaw_law 667 = .ok (.if_icmp .eq (5), 3) := by decide +kernel
theorem d_AckBookLaw_law_672 : decode c_AckBookLaw_law 672 = .ok (.iload 5, 2) := by decide +kernel
theorem d_AckBookLaw_law_674 : decode c_AckBookLaw_law 674 = .ok (.ifCond .ne (22), 3) := by decide +kernel
theorem d_AckBookLaw_law_677 : decode c_AckBookLaw_law 677 = .ok (.aload_n 3, 1) := by decide +kernel
theorem d_AckBookLaw_law_678 : decode c_AckBookLaw_law 678 = .ok (.iconst (0), 1) := by decide +kernel
theorem d_AckBookLaw_law_679 : decode c_AckBookLaw_law 679 = .ok (.laload, 1) := by decide +kernel
theorem d_AckBookLaw_law_680 : decode c_AckBookLaw_law 680 = .ok (.iload 6, 2) := by decide +kernel
theorem d_AckBookLaw_law_682 : decode c_AckBookLaw_law 682 = .ok (.ifCond .eq (7), 3) := by decide +kernel
theorem d_AckBookLaw_law_689 : decode c_AckBookLaw_law 689 = .ok (.lconst 0, 1) := by decide +kernel
theorem d_AckBookLaw_law_685 : decode c_AckBookLaw_law 685 = .ok (.lconst 1, 1) := by decide +kernel
theorem d_AckBookLaw_law_686 : decode c_AckBookLaw_law 686 = .ok (.goto (4), 3) := by decide +kernel
theorem d_AckBookLaw_law_670 : decode c_AckBookLaw_law 670 = .ok (.iconst (0), 1) := by decide +kernel
theorem d_AckBookLaw_law_671 : decode c_AckBookLaw_law 671 = .ok (.ireturn, 1) := by decide +kernel
theorem d_AckBookLaw_law_699 : decode c_AckBookLaw_law 699 = .ok (.aload_n 1, 1) := by decide +kernel
theorem d_AckBookLaw_law_700 : decode c_AckBookLaw_law 700 = .ok (.aload_n 0, 1) := by decide +kernel
theorem d_AckBookLaw_law_701 : decode c_AckBookLaw_law 701 = .ok (.iload 4, 2) := by decide +kernel
theorem d_AckBookLaw_law_703 : decode c_AckBookLaw_law 703 = .ok (.iconst (1), 1) := by decide +kernel
theorem d_AckBookLaw_law_704 : decode c_AckBookLaw_law 704 = .ok (.iadd, 1) := by decide +kernel
theorem d_AckBookLaw_law_705 : decode c_AckBookLaw_law 705 = .ok (.iaload, 1) := by decide +kernel
theorem d_AckBookLaw_law_706 : decode c_AckBookLaw_law 706 = .ok (.aload_n 3, 1) := by decide +kernel
theorem d_AckBookLaw_law_707 : decode c_AckBookLaw_law 707 = .ok (.invokestatic 117, 3) := by decide +kernel
theorem d_AckBookLaw_law_710 : decode c_AckBookLaw_law 710 = .ok (.istore 5, 2) := by decide +kernel
theorem d_AckBookLaw_law_712 : decode c_AckBookLaw_law 712 = .ok (.aload_n 2, 1) := by decide +kernel
theorem d_AckBookLaw_law_713 : decode c_AckBookLaw_law 713 = .ok (.aload_n 0, 1) := by decide +kernel
theorem d_AckBookLaw_law_714 : decode c_AckBookLaw_law 714 = .ok (.iload 4, 2) := by decide +kernel
theorem d_AckBookLaw_law_716 : decode c_AckBookLaw_law 716 = .ok (.iconst (1), 1) := by decide +kernel
theorem d_AckBookLaw_law_717 : decode c_AckBookLaw_law 717 = .ok (.iadd, 1) := by decide +kernel
theorem d_AckBookLaw_law_718 : decode c_AckBookLaw_law 718 = .ok (.iaload, 1) := by decide +kernel
theorem d_AckBookLaw_law_719 : decode c_AckBookLaw_law 719 = .ok (.invokevirtual 119, 3) := by decide +kernel
theorem d_AckBookLaw_law_722 : decode c_AckBookLaw_law 722 = .ok (.istore 6, 2) := by decide +kernel
theorem d_AckBookLaw_law_724 : decode c_AckBookLaw_law 724 = .ok (.goto (139), 3) := by decide +kernel
theorem d_AckBookLaw_law_727 : decode c_AckBookLaw_law 727 = .ok (.aload_n 1, 1) := by decide +kernel
theorem d_AckBookLaw_law_728 : decode c_AckBookLaw_law 728 = .ok (.aload_n 0, 1) := by decide +kernel
theorem d_AckBookLaw_law_729 : decode c_AckBookLaw_law 729 = .ok (.iload 4, 2) := by decide +kernel
theorem d_AckBookLaw_law_731 : decode c_AckBookLaw_law 731 = .ok (.iconst (1), 1) := by decide +kernel
theorem d_AckBookLaw_law_732 : decode c_AckBookLaw_law 732 = .ok (.iadd, 1) := by decide +kernel
theorem d_AckBookLaw_law_733 : decode c_AckBookLaw_law 733 = .ok (.iaload, 1) := by decide +kernel
theorem d_AckBookLaw_law_734 : decode c_AckBookLaw_law 734 = .ok (.aload_n 0, 1) := by decide +kernel
theorem d_AckBookLaw_law_735 : decode c_AckBookLaw_law 735 = .ok (.iload 4, 2) := by decide +kernel
theorem d_AckBookLaw_law_737 : decode c_AckBookLaw_law 737 = .ok (.iconst (2), 1) := by decide +kernel
theorem d_AckBookLaw_law_738 : decode c_AckBookLaw_law 738 = .ok (.iadd, 1) := by decide +kernel
theorem d_AckBookLaw_law_739 : decode c_AckBookLaw_law 739 = .ok (.iaload, 1) := by decide +kernel
theorem d_AckBookLaw_law_740 : decode c_AckBookLaw_law 740 = .ok (.aload_n 0, 1) := by decide +kernel
theorem d_AckBookLaw_law_741 : decode c_AckBookLaw_law 741 = .ok (.iload 4, 2) := by decide +kernel
theorem d_AckBookLaw_law_743 : decode c_AckBookLaw_law 743 = .ok (.iconst (3), 1) := by decide +kernel
theorem d_AckBookLaw_law_744 : decode c_AckBookLaw_law 744 = .ok (.iadd, 1) := by decide +kernel
theorem d_AckBookLaw_law_745 : decode c_AckBookLaw_law 745 = .ok (.iaload, 1) := by decide +kernel
theorem d_AckBookLaw_law_746 : decode c_AckBookLaw_law 746 = .ok (.ifCond .eq (7), 3) := by decide +kernel
theorem d_AckBookLaw_law_753 : decode c_AckBookLaw_law 753 = .ok (.iconst (0), 1) := by decide +kernel
theorem d_AckBookLaw_law_749 : decode c_AckBookLaw_law 749 = .ok (.iconst (1), 1) := by decide +kernel
theorem d_AckBookLaw_law_750 : decode c_AckBookLaw_law 750 = .ok (.goto (4), 3) := by decide +kernel
theorem d_AckBookLaw_law_795 : decode c_AckBookLaw_law 795 = .ok (.aload_n 1, 1) := by decide +kernel
theorem d_AckBookLaw_law_796 : decode c_AckBookLaw_law 796 = .ok (.aload_n 0, 1) := by decide +kernel
theorem d_AckBookLaw_law_797 : decode c_AckBookLaw_law 797 = .ok (.iload 4, 2) := by decide +kernel
theorem d_AckBookLaw_law_799 : decode c_AckBookLaw_law 799 = .ok (.iconst (1), 1) := by decide +kernel
theorem d_AckBookLaw_law_800 : decode c_AckBookLaw_law 800 = .ok (.iadd, 1) := by decide +kernel
theorem d_AckBookLaw_law_801 : decode c_AckBookLaw_law 801 = .ok (.iaload, 1) := by decide +kernel
theorem d_AckBookLaw_law_802 : decode c_AckBookLaw_law 802 = .ok (.aload_n 3, 1) := by decide +kernel
theorem d_AckBookLaw_law_803 : decode c_AckBookLaw_law 803 = .ok (.invokestatic 124, 3) := by decide +kernel
theorem d_AckBookLaw_law_806 : decode c_AckBookLaw_law 806 = .ok (.istore 5, 2) := by decide +kernel
theorem d_AckBookLaw_law_808 : decode c_AckBookLaw_law 808 = .ok (.aload_n 2, 1) := by decide +kernel
theorem d_AckBookLaw_law_809 : decode c_AckBookLaw_law 809 = .ok (.aload_n 0, 1) := by decide +kernel
theorem d_AckBookLaw_law_810 : decode c_AckBookLaw_law 810 = .ok (.iload 4, 2) := by decide +kernel
theorem d_AckBookLaw_law_812 : decode c_AckBookLaw_law 812 = .ok (.iconst (1), 1) := by decide +kernel
theorem d_AckBookLaw_law_813 : decode c_AckBookLaw_law 813 = .ok (.iadd, 1) := by decide +kernel
theorem d_AckBookLaw_law_814 : decode c_AckBookLaw_law 814 = .ok (.iaload, 1) := by decide +kernel
theorem d_AckBookLaw_law_815 : decode c_AckBookLaw_law 815 = .ok (.invokevirtual 126, 3) := by decide +kernel
theorem d_AckBookLaw_law_818 : decode c_AckBookLaw_law 818 = .ok (.istore 6, 2) := by decide +kernel
theorem d_AckBookLaw_law_820 : decode c_AckBookLaw_law 820 = .ok (.goto (43), 3) := by decide +kernel
theorem d_AckBookLaw_law_823 : decode c_AckBookLaw_law 823 = .ok (.aload_n 1, 1) := by decide +kernel
theorem d_AckBookLaw_law_824 : decode c_AckBookLaw_law 824 = .ok (.aload_n 0, 1) := by decide +kernel
theorem d_AckBookLaw_law_825 : decode c_AckBookLaw_law 825 = .ok (.iload 4, 2) := by decide +kernel
theorem d_AckBookLaw_law_827 : decode c_AckBookLaw_law 827 = .ok (.iconst (1), 1) := by decide +kernel
theorem d_AckBookLaw_law_828 : decode c_AckBookLaw_law 828 = .ok (.iadd, 1) := by decide +kernel
theorem d_AckBookLaw_law_829 : decode c_AckBookLaw_law 829 = .ok (.iaload, 1) := by decide +kernel
theorem d_AckBookLaw_law_830 : decode c_AckBookLaw_law 830 = .ok (.aload_n 0, 1) := by decide +kernel
theorem d_AckBookLaw_law_831 : decode c_AckBookLaw_law 831 = .ok (.iload 4, 2) := by decide +kernel
theorem d_AckBookLaw_law_833 : decode c_AckBookLaw_law 833 = .ok (.iconst (2), 1) := by decide +kernel
theorem d_AckBookLaw_law_834 : decode c_AckBookLaw_law 834 = .ok (.iadd, 1) := by decide +kernel
theorem d_AckBookLaw_law_835 : decode c_AckBookLaw_law 835 = .ok (.iaload, 1) := by decide +kernel
theorem d_AckBookLaw_law_836 : decode c_AckBookLaw_law 836 = .ok (.aload_n 3, 1) := by decide +kernel
theorem d_AckBookLaw_law_837 : decode c_AckBookLaw_law 837 = .ok (.invokestatic 127, 3) := by decide +kernel
theorem d_AckBookLaw_law_840 : decode c_AckBookLaw_law 840 = .ok (.istore 5, 2) := by decide +kernel
theorem d_AckBookLaw_law_842 : decode c_AckBookLaw_law 842 = .ok (.aload_n 2, 1) := by decide +kernel
theorem d_AckBookLaw_law_843 : decode c_AckBookLaw_law 843 = .ok (.aload_n 0, 1) := by decide +kernel
theorem d_AckBookLaw_law_844 : decode c_AckBookLaw_law 844 = .ok (.iload 4, 2) := by decide +kernel
theorem d_AckBookLaw_law_846 : decode c_AckBookLaw_law 846 = .ok (.iconst (1), 1) := by decide +kernel
theorem d_AckBookLaw_law_847 : decode c_AckBookLaw_law 847 = .ok (.iadd, 1) := by decide +kernel
theorem d_AckBookLaw_law_848 : decode c_AckBookLaw_law 848 = .ok (.iaload, 1) := by decide +kernel
theorem d_AckBookLaw_law_849 : decode c_AckBookLaw_law 849 = .ok (.aload_n 0, 1) := by decide +kernel
theorem d_AckBookLaw_law_850 : decode c_AckBookLaw_law 850 = .ok (.iload 4, 2) := by decide +kernel
theorem d_AckBookLaw_law_852 : decode c_AckBookLaw_law 852 = .ok (.iconst (2), 1) := by decide +kernel
theorem d_AckBookLaw_law_853 : decode c_AckBookLaw_law 853 = .ok (.iadd, 1) := by decide +kernel
theorem d_AckBookLaw_law_854 : decode c_AckBookLaw_law 854 = .ok (.iaload, 1) := by decide +kernel
theorem d_AckBookLaw_law_855 : decode c_AckBookLaw_law 855 = .ok (.invokevirtual 129, 3) := by decide +kernel
theorem d_AckBookLaw_law_858 : decode c_AckBookLaw_law 858 = .ok (.lstore 6, 2) := by decide +kernel
theorem d_AckBookLaw_law_860 : decode c_AckBookLaw_law 860 = .ok (.goto (3), 3) := by decide +kernel
theorem d_AckBookLaw_law_0 : decode c_AckBookLaw_law 0 = .ok (.new 8, 3) := by decide +kernel
theorem d_AckBookLaw_law_3 : decode c_AckBookLaw_law 3 = .ok (.dup, 1) := by decide +kernel
theorem d_AckBookLaw_law_4 : decode c_AckBookLaw_law 4 = .ok (.invokespecial 61, 3) := by decide +kernel
theorem d_AckBookLaw_law_7 : decode c_AckBookLaw_law 7 = .ok (.astore_n 1, 1) := by decide +kernel
theorem d_AckBookLaw_law_8 : decode c_AckBookLaw_law 8 = .ok (.new 62, 3) := by decide +kernel
theorem d_AckBookLaw_law_11 : decode c_AckBookLaw_law 11 = .ok (.dup, 1) := by decide +kernel
theorem d_AckBookLaw_law_12 : decode c_AckBookLaw_law 12 = .ok (.invokespecial 64, 3) := by decide +kernel
theorem d_AckBookLaw_law_15 : decode c_AckBookLaw_law 15 = .ok (.astore_n 2, 1) := by decide +kernel
