theorem d_AckBookModel_space_107 : decode c_AckBookModel_space 107 = .ok (.lreturn, 1) := by decide +kernel
theorem d_AckBookModel_space_108 : decode c_AckBookModel_space 108 = .ok (.aload_n 0, 1) := by decide +kernel
theorem d_AckBookModel_space_109 : decode c_AckBookModel_space 109 = .ok (.getfield 38, 3) := by decide +kernel
theorem d_AckBookModel_space_112 : decode c_AckBookModel_space 112 = .ok (.iload_n 1, 1) := by decide +kernel
theorem d_AckBookModel_space_113 : decode c_AckBookModel_space 113 = .ok (.iaload, 1) := by decide +kernel
theorem d_AckBookModel_space_114 : decode c_AckBookModel_space 114 = .ok (.i2l, 1) := by decide +kernel
theorem d_AckBookModel_space_115 : decode c_AckBookModel_space 115 = .ok (.lreturn, 1) := by decide +kernel
theorem d_AckBookModel_space_116 : decode c_AckBookModel_space 116 = .ok (.aload_n 0, 1) := by decide +kernel
theorem d_AckBookModel_space_117 : decode c_AckBookModel_space 117 = .ok (.iload_n 1, 1) := by decide +kernel
theorem d_AckBookModel_space_118 : decode c_AckBookModel_space 118 = .ok (.invokevirtual 192, 3) := by decide +kernel
theorem d_AckBookModel_space_121 : decode c_AckBookModel_space 121 = .ok (.i2l, 1) := by decide +kernel
theorem d_AckBookModel_space_122 : decode c_AckBookModel_space 122 = .ok (.lreturn, 1) := by decide +kernel
theorem d_AckBookModel_space_123 : decode c_AckBookModel_space 123 = .ok (.aload_n 0, 1) := by decide +kernel
theorem d_AckBookModel_space_124 : decode c_AckBookModel_space 124 = .ok (.iload_n 1, 1) := by decide +kernel
theorem d_AckBookModel_space_125 : decode c_AckBookModel_space 125 = .ok (.iconst (1), 1) := by decide +kernel
theorem d_AckBookModel_space_126 : decode c_AckBookModel_space 126 = .ok (.invokevirtual 121, 3) := by decide +kernel
theorem d_AckBookModel_space_129 : decode c_AckBookModel_space 129 = .ok (.i2l, 1) := by decide +kernel
theorem d_AckBookModel_space_130 : decode c_AckBookModel_space 130 = .ok (.lreturn, 1) := by decide +kernel
theorem d_AckBookModel_space_131 : decode c_AckBookModel_space 131 = .ok (.aload_n 0, 1) := by decide +kernel
theorem d_AckBookModel_space_132 : decode c_AckBookModel_space 132 = .ok (.iload_n 1, 1) := by decide +kernel
theorem d_AckBookModel_space_133 : decode c_AckBookModel_space 133 = .ok (.iconst (0), 1) := by decide +kernel
theorem d_AckBookModel_space_134 : decode c_AckBookModel_space 134 = .ok (.invokevirtual 121, 3) := by decide +kernel
theorem d_AckBookModel_space_137 : decode c_AckBookModel_space 137 = .ok (.i2l, 1) := by decide +kernel
theorem d_AckBookModel_space_138 : decode c_AckBookModel_space 138 = .ok (.lreturn, 1) := by decide +kernel
theorem d_AckBookModel_space_139 : decode c_AckBookModel_space 139 = .ok (.aload_n 0, 1) := by decide +kernel
theorem d_AckBookModel_space_140 : decode c_AckBookModel_space 140 = .ok (.getfield 79, 3) := by decide +kernel
theorem d_AckBookModel_space_143 : decode c_AckBookModel_space 143 = .ok (.iload_n 1, 1) := by decide +kernel
theorem d_AckBookModel_space_144 : decode c_AckBookModel_space 144 = .ok (.iaload, 1) := by decide +kernel
theorem d_AckBookModel_space_145 : decode c_AckBookModel_space 145 = .ok (.i2l, 1) := by decide +kernel
theorem d_AckBookModel_space_146 : decode c_AckBookModel_space 146 = .ok (.lreturn, 1) := by decide +kernel
theorem d_AckBookModel_space_147 : decode c_AckBookModel_space 147 = .ok (.aload_n 0, 1) := by decide +kernel
theorem d_AckBookModel_space_148 : decode c_AckBookModel_space 148 = .ok (.getfield 94, 3) := by decide +kernel
theorem d_AckBookModel_space_151 : decode c_AckBookModel_space 151 = .ok (.iload_n 1, 1) := by decide +kernel
theorem d_AckBookModel_space_152 : decode c_AckBookModel_space 152 = .ok (.iaload, 1) := by decide +kernel
theorem d_AckBookModel_space_153 : decode c_AckBookModel_space 153 = .ok (.i2l, 1) := by decide +kernel
theorem d_AckBookModel_space_154 : decode c_AckBookModel_space 154 = .ok (.lreturn, 1) := by decide +kernel
theorem d_AckBookModel_space_155 : decode c_AckBookModel_space 155 = .ok (.aload_n 0, 1) := by decide +kernel
theorem d_AckBookModel_space_156 : decode c_AckBookModel_space 156 = .ok (.iload_n 1, 1) := by decide +kernel
theorem d_AckBookModel_space_157 : decode c_AckBookModel_space 157 = .ok (.invokevirtual 125, 3) := by decide +kernel
theorem d_AckBookModel_space_160 : decode c_AckBookModel_space 160 = .ok (.i2l, 1) := by decide +kernel
theorem d_AckBookModel_space_161 : decode c_AckBookModel_space 161 = .ok (.lreturn, 1) := by decide +kernel
theorem d_AckBookModel_space_162 : decode c_AckBookModel_space 162 = .ok (.aload_n 0, 1) := by decide +kernel
theorem d_AckBookModel_space_163 : decode c_AckBookModel_space 163 = .ok (.getfield 32, 3) := by decide +kernel
theorem d_AckBookModel_space_166 : decode c_AckBookModel_space 166 = .ok (.iload_n 1, 1) := by decide +kernel
theorem d_AckBookModel_space_167 : decode c_AckBookModel_space 167 = .ok (.baload, 1) := by decide +kernel
theorem d_AckBookModel_space_168 : decode c_AckBookModel_space 168 = .ok (.ifCond .eq (7), 3) := by decide +kernel
theorem d_AckBookModel_space_175 : decode c_AckBookModel_space 175 = .ok (.lconst 0, 1) := by decide +kernel
theorem d_AckBookModel_space_176 : decode c_AckBookModel_space 176 = .ok (.lreturn, 1) := by decide +kernel
theorem d_AckBookModel_space_171 : decode c_AckBookModel_space 171 = .ok (.lconst 1, 1) := by decide +kernel
theorem d_AckBookModel_space_172 : decode c_AckBookModel_space 172 = .ok (.goto (4), 3) := by decide +kernel
theorem d_AckBookModel_space_177 : decode c_AckBookModel_space 177 = .ok (.aload_n 0, 1) := by decide +kernel
theorem d_AckBookModel_space_178 : decode c_AckBookModel_space 178 = .ok (.getfield 88, 3) := by decide +kernel
theorem d_AckBookModel_space_181 : decode c_AckBookModel_space 181 = .ok (.iload_n 1, 1) := by decide +kernel
theorem d_AckBookModel_space_182 : decode c_AckBookModel_space 182 = .ok (.laload, 1) := by decide +kernel
theorem d_AckBookModel_space_183 : decode c_AckBookModel_space 183 = .ok (.lreturn, 1) := by decide +kernel
theorem d_AckBookModel_space_35 : decode c_AckBookModel_space 35 = .ok (.lconst 0, 1) := by decide +kernel
theorem d_AckBookModel_space_36 : decode c_AckBookModel_space 36 = .ok (.lreturn, 1) := by decide +kernel
theorem d_AckBookModel_space_23 : decode c_AckBookModel_space 23 = .ok (.iconst (1), 1) := by decide +kernel
theorem d_AckBookModel_space_24 : decode c_AckBookModel_space 24 = .ok (.goto (4), 3) := by decide +kernel
theorem d_AckBookModel_space_0 : decode c_AckBookModel_space 0 = .ok (.aload_n 0, 1) := by decide +kernel
theorem d_AckBookModel_space_1 : decode c_AckBookModel_space 1 = .ok (.iload_n 1, 1) := by decide +kernel
theorem d_AckBookModel_space_2 : decode c_AckBookModel_space 2 = .ok (.invokestatic 142, 3) := by decide +kernel
theorem d_AckBookModel_space_5 : decode c_AckBookModel_space 5 = .ok (.iconst (1), 1) := by decide +kernel
theorem d_AckBookModel_space_6 : decode c_AckBookModel_space 6 = .ok (.invokevirtual 146, 3) := by decide +kernel
theorem d_AckBookModel_space_9 : decode c_AckBookModel_space 9 = .ok (.ifCond .ne (26), 3) := by decide +kernel
theorem d_AckBookModel_space_12 : decode c_AckBookModel_space 12 = .ok (.aload_n 0, 1) := by decide +kernel
theorem d_AckBookModel_space_13 : decode c_AckBookModel_space 13 = .ok (.iload_n 2, 1) := by decide +kernel
theorem d_AckBookModel_space_14 : decode c_AckBookModel_space 14 = .ok (.ifCond .lt (9), 3) := by decide +kernel
theorem d_AckBookModel_space_17 : decode c_AckBookModel_space 17 = .ok (.iload_n 2, 1) := by decide +kernel
theorem d_AckBookModel_space_18 : decode c_AckBookModel_space 18 = .ok (.bipush (10), 2) := by decide +kernel
theorem d_AckBookModel_space_20 : decode c_AckBookModel_space 20 = .ok (.if_icmp .le (7), 3) := by decide +kernel
theorem d_AckBookModel_space_27 : decode c_AckBookModel_space 27 = .ok (.iconst (0), 1) := by decide +kernel
theorem d_AckBookLaw_law_752 : decode c_AckBookLaw_law 752 = .ok (.invokevirtual 120, 3) := by decide +kernel
theorem d_AckBookLaw_law_755 : decode c_AckBookLaw_law 755 = .ok (.lstore 6, 2) := by decide +kernel
theorem d_AckBookLaw_law_757 : decode c_AckBookLaw_law 757 = .ok (.goto (71), 3) := by decide +kernel
theorem d_AckBookLaw_law_828 : decode c_AckBookLaw_law 828 = .ok (.iinc 4 (5), 3) := by decide +kernel
theorem d_AckBookLaw_law_831 : decode c_AckBookLaw_law 831 = .ok (.goto (-808), 3) := by decide +kernel
theorem d_AckBookLaw_law_719 : decode c_AckBookLaw_law 719 = .ok (.aload_n 3, 1) := by decide +kernel
theorem d_AckBookLaw_law_720 : decode c_AckBookLaw_law 720 = .ok (.invokestatic 117, 3) := by decide +kernel
theorem d_AckBookLaw_law_723 : decode c_AckBookLaw_law 723 = .ok (.istore 5, 2) := by decide +kernel
theorem d_AckBookLaw_law_725 : decode c_AckBookLaw_law 725 = .ok (.aload_n 2, 1) := by decide +kernel
theorem d_AckBookLaw_law_726 : decode c_AckBookLaw_law 726 = .ok (.aload_n 0, 1) := by decide +kernel
theorem d_AckBookLaw_law_727 : decode c_AckBookLaw_law 727 = .ok (.iload 4, 2) := by decide +kernel
theorem d_AckBookLaw_law_729 : decode c_AckBookLaw_law 729 = .ok (.iconst (1), 1) := by decide +kernel
theorem d_AckBookLaw_law_730 : decode c_AckBookLaw_law 730 = .ok (.iadd, 1) := by decide +kernel
theorem d_AckBookLaw_law_731 : decode c_AckBookLaw_law 731 = .ok (.iaload, 1) := by decide +kernel
theorem d_AckBookLaw_law_732 : decode c_AckBookLaw_law 732 = .ok (.aload_n 0, 1) := by decide +kernel
theorem d_AckBookLaw_law_733 : decode c_AckBookLaw_law 733 = .ok (.iload 4, 2) := by decide +kernel
theorem d_AckBookLaw_law_735 : decode c_AckBookLaw_law 735 = .ok (.iconst (2), 1) := by decide +kernel
theorem d_AckBookLaw_law_736 : decode c_AckBookLaw_law 736 = .ok (.iadd, 1) := by decide +kernel
theorem d_AckBookLaw_law_737 : decode c_AckBookLaw_law 737 = .ok (.iaload, 1) := by decide +kernel
theorem d_AckBookLaw_law_738 : decode c_AckBookLaw_law 738 = .ok (.aload_n 0, 1) := by decide +kernel
theorem d_AckBookLaw_law_739 : decode c_AckBookLaw_law 739 = .ok (.iload 4, 2) := by decide +kernel
theorem d_AckBookLaw_law_741 : decode c_AckBookLaw_law 741 = .ok (.iconst (3), 1) := by decide +kernel
theorem d_AckBookLaw_law_742 : decode c_AckBookLaw_law 742 = .ok (.iadd, 1) := by decide +kernel
theorem d_AckBookLaw_law_743 : decode c_AckBookLaw_law 743 = .ok (.iaload, 1) := by decide +kernel
theorem d_AckBookLaw_law_744 : decode c_AckBookLaw_law 744 = .ok (.ifCond .eq (7), 3) := by decide +kernel
theorem d_AckBookLaw_law_751 : decode c_AckBookLaw_law 751 = .ok (.iconst (0), 1) := by decide +kernel
theorem d_AckBookLaw_law_747 : decode c_AckBookLaw_law 747 = .ok (.iconst (1), 1) := by decide +kernel
theorem d_AckBookLaw_law_748 : decode c_AckBookLaw_law 748 = .ok (.goto (4), 3) := by decide +kernel
theorem d_AckBookLaw_law_628 : decode c_AckBookLaw_law 628 = .ok (.invokevirtual 109, 3) := by decide +kernel
theorem d_AckBookLaw_law_631 : decode c_AckBookLaw_law 631 = .ok (.istore 6, 2) := by decide +kernel
theorem d_AckBookLaw_law_633 : decode c_AckBookLaw_law 633 = .ok (.goto (195), 3) := by decide +kernel
theorem d_AckBookLaw_law_579 : decode c_AckBookLaw_law 579 = .ok (.aload_n 3, 1) := by decide +kernel
theorem d_AckBookLaw_law_580 : decode c_AckBookLaw_law 580 = .ok (.invokestatic 106, 3) := by decide +kernel
theorem d_AckBookLaw_law_583 : decode c_AckBookLaw_law 583 = .ok (.istore 5, 2) := by decide +kernel
theorem d_AckBookLaw_law_585 : decode c_AckBookLaw_law 585 = .ok (.aload_n 2, 1) := by decide +kernel
theorem d_AckBookLaw_law_586 : decode c_AckBookLaw_law 586 = .ok (.aload_n 0, 1) := by decide +kernel
theorem d_AckBookLaw_law_587 : decode c_AckBookLaw_law 587 = .ok (.iload 4, 2) := by decide +kernel
theorem d_AckBookLaw_law_589 : decode c_AckBookLaw_law 589 = .ok (.iconst (1), 1) := by decide +kernel
theorem d_AckBookLaw_law_590 : decode c_AckBookLaw_law 590 = .ok (.iadd, 1) := by decide +kernel
theorem d_AckBookLaw_law_591 : decode c_AckBookLaw_law 591 = .ok (.iaload, 1) := by decide +kernel
theorem d_AckBookLaw_law_592 : decode c_AckBookLaw_law 592 = .ok (.aload_n 0, 1) := by decide +kernel
theorem d_AckBookLaw_law_593 : decode c_AckBookLaw_law 593 = .ok (.iload 4, 2) := by decide +kernel
theorem d_AckBookLaw_law_595 : decode c_AckBookLaw_law 595 = .ok (.iconst (2), 1) := by decide +kernel
theorem d_AckBookLaw_law_596 : decode c_AckBookLaw_law 596 = .ok (.iadd, 1) := by decide +kernel
theorem d_AckBookLaw_law_597 : decode c_AckBookLaw_law 597 = .ok (.iaload, 1) := by decide +kernel
theorem d_AckBookLaw_law_598 : decode c_AckBookLaw_law 598 = .ok (.i2l, 1) := by decide +kernel
theorem d_AckBookLaw_law_599 : decode c_AckBookLaw_law 599 = .ok (.bipush (32), 2) := by decide +kernel
theorem d_AckBookLaw_law_601 : decode c_AckBookLaw_law 601 = .ok (.lshl, 1) := by decide +kernel
