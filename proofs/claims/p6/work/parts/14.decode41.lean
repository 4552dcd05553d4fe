theorem d_AckBookLaw_law_652 : decode c_AckBookLaw_law 652 = .ok (.iadd, 1) := by decide +kernel
theorem d_AckBookLaw_law_653 : decode c_AckBookLaw_law 653 = .ok (.iaload, 1) := by decide +kernel
theorem d_AckBookLaw_law_654 : decode c_AckBookLaw_law 654 = .ok (.aload_n 3, 1) := by decide +kernel
theorem d_AckBookLaw_law_655 : decode c_AckBookLaw_law 655 = .ok (.invokestatic 113, 3) := by decide +kernel
theorem d_AckBookLaw_law_658 : decode c_AckBookLaw_law 658 = .ok (.istore 5, 2) := by decide +kernel
theorem d_AckBookLaw_law_660 : decode c_AckBookLaw_law 660 = .ok (.aload_n 2, 1) := by decide +kernel
theorem d_AckBookLaw_law_661 : decode c_AckBookLaw_law 661 = .ok (.aload_n 0, 1) := by decide +kernel
theorem d_AckBookLaw_law_662 : decode c_AckBookLaw_law 662 = .ok (.iload 4, 2) := by decide +kernel
theorem d_AckBookLaw_law_664 : decode c_AckBookLaw_law 664 = .ok (.iconst (1), 1) := by decide +kernel
theorem d_AckBookLaw_law_665 : decode c_AckBookLaw_law 665 = .ok (.iadd, 1) := by decide +kernel
theorem d_AckBookLaw_law_666 : decode c_AckBookLaw_law 666 = .ok (.iaload, 1) := by decide +kernel
theorem d_AckBookLaw_law_667 : decode c_AckBookLaw_law 667 = .ok (.invokevirtual 116, 3) := by decide +kernel
theorem d_AckBookLaw_law_670 : decode c_AckBookLaw_law 670 = .ok (.istore 6, 2) := by decide +kernel
theorem d_AckBookLaw_law_672 : decode c_AckBookLaw_law 672 = .ok (.goto (167), 3) := by decide +kernel
theorem d_AckBookLaw_law_675 : decode c_AckBookLaw_law 675 = .ok (.aload_n 1, 1) := by decide +kernel
theorem d_AckBookLaw_law_676 : decode c_AckBookLaw_law 676 = .ok (.aload_n 0, 1) := by decide +kernel
theorem d_AckBookLaw_law_677 : decode c_AckBookLaw_law 677 = .ok (.iload 4, 2) := by decide +kernel
theorem d_AckBookLaw_law_679 : decode c_AckBookLaw_law 679 = .ok (.iconst (1), 1) := by decide +kernel
theorem d_AckBookLaw_law_680 : decode c_AckBookLaw_law 680 = .ok (.iadd, 1) := by decide +kernel
theorem d_AckBookLaw_law_681 : decode c_AckBookLaw_law 681 = .ok (.iaload, 1) := by decide +kernel
theorem d_AckBookLaw_law_682 : decode c_AckBookLaw_law 682 = .ok (.aload_n 3, 1) := by decide +kernel
theorem d_AckBookLaw_law_683 : decode c_AckBookLaw_law 683 = .ok (.invokestatic 117, 3) := by decide +kernel
theorem d_AckBookLaw_law_686 : decode c_AckBookLaw_law 686 = .ok (.istore 5, 2) := by decide +kernel
theorem d_AckBookLaw_law_688 : decode c_AckBookLaw_law 688 = .ok (.aload_n 2, 1) := by decide +kernel
theorem d_AckBookLaw_law_689 : decode c_AckBookLaw_law 689 = .ok (.aload_n 0, 1) := by decide +kernel
theorem d_AckBookLaw_law_690 : decode c_AckBookLaw_law 690 = .ok (.iload 4, 2) := by decide +kernel
theorem d_AckBookLaw_law_692 : decode c_AckBookLaw_law 692 = .ok (.iconst (1), 1) := by decide +kernel
theorem d_AckBookLaw_law_693 : decode c_AckBookLaw_law 693 = .ok (.iadd, 1) := by decide +kernel
theorem d_AckBookLaw_law_694 : decode c_AckBookLaw_law 694 = .ok (.iaload, 1) := by decide +kernel
theorem d_AckBookLaw_law_695 : decode c_AckBookLaw_law 695 = .ok (.invokevirtual 119, 3) := by decide +kernel
theorem d_AckBookLaw_law_698 : decode c_AckBookLaw_law 698 = .ok (.istore 6, 2) := by decide +kernel
theorem d_AckBookLaw_law_700 : decode c_AckBookLaw_law 700 = .ok (.goto (139), 3) := by decide +kernel
theorem d_AckBookLaw_law_703 : decode c_AckBookLaw_law 703 = .ok (.aload_n 1, 1) := by decide +kernel
theorem d_AckBookLaw_law_704 : decode c_AckBookLaw_law 704 = .ok (.aload_n 0, 1) := by decide +kernel
theorem d_AckBookLaw_law_705 : decode c_AckBookLaw_law 705 = .ok (.iload 4, 2) := by decide +kernel
theorem d_AckBookLaw_law_707 : decode c_AckBookLaw_law 707 = .ok (.iconst (1), 1) := by decide +kernel
theorem d_AckBookLaw_law_708 : decode c_AckBookLaw_law 708 = .ok (.iadd, 1) := by decide +kernel
theorem d_AckBookLaw_law_709 : decode c_AckBookLaw_law 709 = .ok (.iaload, 1) := by decide +kernel
theorem d_AckBookLaw_law_710 : decode c_AckBookLaw_law 710 = .ok (.aload_n 0, 1) := by decide +kernel
theorem d_AckBookLaw_law_711 : decode c_AckBookLaw_law 711 = .ok (.iload 4, 2) := by decide +kernel
theorem d_AckBookLaw_law_713 : decode c_AckBookLaw_law 713 = .ok (.iconst (2), 1) := by decide +kernel
theorem d_AckBookLaw_law_714 : decode c_AckBookLaw_law 714 = .ok (.iadd, 1) := by decide +kernel
theorem d_AckBookLaw_law_715 : decode c_AckBookLaw_law 715 = .ok (.iaload, 1) := by decide +kernel
theorem d_AckBookLaw_law_716 : decode c_AckBookLaw_law 716 = .ok (.aload_n 0, 1) := by decide +kernel
theorem d_AckBookLaw_law_717 : decode c_AckBookLaw_law 717 = .ok (.iload 4, 2) := by decide +kernel
theorem d_AckBookLaw_law_719 : decode c_AckBookLaw_law 719 = .ok (.iconst (3), 1) := by decide +kernel
theorem d_AckBookLaw_law_720 : decode c_AckBookLaw_law 720 = .ok (.iadd, 1) := by decide +kernel
theorem d_AckBookLaw_law_721 : decode c_AckBookLaw_law 721 = .ok (.iaload, 1) := by decide +kernel
theorem d_AckBookLaw_law_722 : decode c_AckBookLaw_law 722 = .ok (.ifCond .eq (7), 3) := by decide +kernel
theorem d_AckBookLaw_law_729 : decode c_AckBookLaw_law 729 = .ok (.iconst (0), 1) := by decide +kernel
theorem d_AckBookLaw_law_725 : decode c_AckBookLaw_law 725 = .ok (.iconst (1), 1) := by decide +kernel
theorem d_AckBookLaw_law_726 : decode c_AckBookLaw_law 726 = .ok (.goto (4), 3) := by decide +kernel
theorem d_AckBookLaw_law_771 : decode c_AckBookLaw_law 771 = .ok (.aload_n 1, 1) := by decide +kernel
theorem d_AckBookLaw_law_772 : decode c_AckBookLaw_law 772 = .ok (.aload_n 0, 1) := by decide +kernel
theorem d_AckBookLaw_law_773 : decode c_AckBookLaw_law 773 = .ok (.iload 4, 2) := by decide +kernel
theorem d_AckBookLaw_law_775 : decode c_AckBookLaw_law 775 = .ok (.iconst (1), 1) := by decide +kernel
theorem d_AckBookLaw_law_776 : decode c_AckBookLaw_law 776 = .ok (.iadd, 1) := by decide +kernel
theorem d_AckBookLaw_law_777 : decode c_AckBookLaw_law 777 = .ok (.iaload, 1) := by decide +kernel
theorem d_AckBookLaw_law_778 : decode c_AckBookLaw_law 778 = .ok (.aload_n 3, 1) := by decide +kernel
theorem d_AckBookLaw_law_779 : decode c_AckBookLaw_law 779 = .ok (.invokestatic 124, 3) := by decide +kernel
theorem d_AckBookLaw_law_782 : decode c_AckBookLaw_law 782 = .ok (.istore 5, 2) := by decide +kernel
theorem d_AckBookLaw_law_784 : decode c_AckBookLaw_law 784 = .ok (.aload_n 2, 1) := by decide +kernel
theorem d_AckBookLaw_law_785 : decode c_AckBookLaw_law 785 = .ok (.aload_n 0, 1) := by decide +kernel
theorem d_AckBookLaw_law_786 : decode c_AckBookLaw_law 786 = .ok (.iload 4, 2) := by decide +kernel
theorem d_AckBookLaw_law_788 : decode c_AckBookLaw_law 788 = .ok (.iconst (1), 1) := by decide +kernel
theorem d_AckBookLaw_law_789 : decode c_AckBookLaw_law 789 = .ok (.iadd, 1) := by decide +kernel
theorem d_AckBookLaw_law_790 : decode c_AckBookLaw_law 790 = .ok (.iaload, 1) := by decide +kernel
theorem d_AckBookLaw_law_791 : decode c_AckBookLaw_law 791 = .ok (.invokevirtual 126, 3) := by decide +kernel
theorem d_AckBookLaw_law_794 : decode c_AckBookLaw_law 794 = .ok (.istore 6, 2) := by decide +kernel
theorem d_AckBookLaw_law_796 : decode c_AckBookLaw_law 796 = .ok (.goto (43), 3) := by decide +kernel
theorem d_AckBookLaw_law_799 : decode c_AckBookLaw_law 799 = .ok (.aload_n 1, 1) := by decide +kernel
theorem d_AckBookLaw_law_800 : decode c_AckBookLaw_law 800 = .ok (.aload_n 0, 1) := by decide +kernel
theorem d_AckBookLaw_law_801 : decode c_AckBookLaw_law 801 = .ok (.iload 4, 2) := by decide +kernel
theorem d_AckBookLaw_law_803 : decode c_AckBookLaw_law 803 = .ok (.iconst (1), 1) := by decide +kernel
theorem d_AckBookLaw_law_804 : decode c_AckBookLaw_law 804 = .ok (.iadd, 1) := by decide +kernel
theorem d_AckBookLaw_law_805 : decode c_AckBookLaw_law 805 = .ok (.iaload, 1) := by decide +kernel
theorem d_AckBookLaw_law_806 : decode c_AckBookLaw_law 806 = .ok (.aload_n 0, 1) := by decide +kernel
theorem d_AckBookLaw_law_807 : decode c_AckBookLaw_law 807 = .ok (.iload 4, 2) := by decide +kernel
theorem d_AckBookLaw_law_809 : decode c_AckBookLaw_law 809 = .ok (.iconst (2), 1) := by decide +kernel
theorem d_AckBookLaw_law_810 : decode c_AckBookLaw_law 810 = .ok (.iadd, 1) := by decide +kernel
theorem d_AckBookLaw_law_811 : decode c_AckBookLaw_law 811 = .ok (.iaload, 1) := by decide +kernel
theorem d_AckBookLaw_law_812 : decode c_AckBookLaw_law 812 = .ok (.aload_n 3, 1) := by decide +kernel
theorem d_AckBookLaw_law_813 : decode c_AckBookLaw_law 813 = .ok (.invokestatic 127, 3) := by decide +kernel
theorem d_AckBookLaw_law_816 : decode c_AckBookLaw_law 816 = .ok (.istore 5, 2) := by decide +kernel
theorem d_AckBookLaw_law_818 : decode c_AckBookLaw_law 818 = .ok (.aload_n 2, 1) := by decide +kernel
theorem d_AckBookLaw_law_819 : decode c_AckBookLaw_law 819 = .ok (.aload_n 0, 1) := by decide +kernel
theorem d_AckBookLaw_law_820 : decode c_AckBookLaw_law 820 = .ok (.iload 4, 2) := by decide +kernel
theorem d_AckBookLaw_law_822 : decode c_AckBookLaw_law 822 = .ok (.iconst (1), 1) := by decide +kernel
theorem d_AckBookLaw_law_823 : decode c_AckBookLaw_law 823 = .ok (.iadd, 1) := by decide +kernel
theorem d_AckBookLaw_law_824 : decode c_AckBookLaw_law 824 = .ok (.iaload, 1) := by decide +kernel
theorem d_AckBookLaw_law_825 : decode c_AckBookLaw_law 825 = .ok (.aload_n 0, 1) := by decide +kernel
theorem d_AckBookLaw_law_826 : decode c_AckBookLaw_law 826 = .ok (.iload 4, 2) := by decide +kernel
theorem d_AckBookLaw_law_828 : decode c_AckBookLaw_law 828 = .ok (.iconst (2), 1) := by decide +kernel
theorem d_AckBookLaw_law_829 : decode c_AckBookLaw_law 829 = .ok (.iadd, 1) := by decide +kernel
theorem d_AckBookLaw_law_830 : decode c_AckBookLaw_law 830 = .ok (.iaload, 1) := by decide +kernel
theorem d_AckBookLaw_law_831 : decode c_AckBookLaw_law 831 = .ok (.invokevirtual 129, 3) := by decide +kernel
theorem d_AckBookLaw_law_834 : decode c_AckBookLaw_law 834 = .ok (.lstore 6, 2) := by decide +kernel
theorem d_AckBookLaw_law_836 : decode c_AckBookLaw_law 836 = .ok (.goto (3), 3) := by decide +kernel
theorem d_AckBookLaw_law_0 : decode c_AckBookLaw_law 0 = .ok (.new 8, 3) := by decide +kernel
theorem d_AckBookLaw_law_3 : decode c_AckBookLaw_law 3 = .ok (.dup, 1) := by decide +kernel
theorem d_AckBookLaw_law_4 : decode c_AckBookLaw_law 4 = .ok (.invokespecial 61, 3) := by decide +kernel
theorem d_AckBookLaw_law_7 : decode c_AckBookLaw_law 7 = .ok (.astore_n 1, 1) := by decide +kernel
theorem d_AckBookLaw_law_8 : decode c_AckBookLaw_law 8 = .ok (.new 62, 3) := by decide +kernel
theorem d_AckBookLaw_law_11 : decode c_AckBookLaw_law 11 = .ok (.dup, 1) := by decide +kernel
theorem d_AckBookLaw_law_12 : decode c_AckBookLaw_law 12 = .ok (.invokespecial 64, 3) := by decide +kernel
theorem d_AckBookLaw_law_15 : decode c_AckBookLaw_law 15 = .ok (.astore_n 2, 1) := by decide +kernel
theorem d_AckBookLaw_law_16 : decode c_AckBookLaw_law 16 = .ok (.iconst (1), 1) := by decide +kernel
theorem d_AckBookLaw_law_17 : decode c_AckBookLaw_law 17 = .ok (.newarray .long, 2) := by decide +kernel
theorem d_AckBookLaw_law_19 : decode c_AckBookLaw_law 19 = .ok (.astore_n 3, 1) := by decide +kernel
theorem d_AckBookLaw_law_20 : decode c_AckBookLaw_law 20 = .ok (.iconst (0), 1) := by decide +kernel
theorem d_AckBookLaw_law_21 : decode c_AckBookLaw_law 21 = .ok (.istore 4, 2) := by decide +kernel
