theorem d_AckBookModel_space_104 : decode c_AckBookModel_space 104 = .ok (.iload_n 1, 1) := by decide +kernel
theorem d_AckBookModel_space_105 : decode c_AckBookModel_space 105 = .ok (.iaload, 1) := by decide +kernel
theorem d_AckBookModel_space_106 : decode c_AckBookModel_space 106 = .ok (.i2l, 1) := by decide +kernel
theorem d_AckBookModel_space_107 : decode c_AckBookModel_space 107 = .ok (.lreturn, 1) := by decide +kernel
theorem d_AckBookModel_space_108 : decode c_AckBookModel_space 108 = .ok (.aload_n 0, 1) := by decide +kernel
theorem d_AckBookModel_space_109 : decode c_AckBookModel_space 109 = .ok (.getfield 38, 3) := by decide +kernel
theorem d_AckBookModel_space_112 : decode c_AckBookModel_space 112 = .ok (.iload_n 1, 1) := by decide +kernel
theorem d_AckBookModel_space_113 : decode c_AckBookModel_space 113 = .ok (.iaload, 1) := by decide +kernel
theorem d_AckBookModel_space_114 : decode c_AckBookModel_space 114 = .ok (.i2l, 1) := by decide +kernel
theorem d_AckBookModel_space_115 : decode c_AckBookModel_space 115 = .ok (.lreturn, 1) := by decide +kernel
theorem d_AckBookModel_space_116 : decode c_AckBookModel_space 116 = .ok (.aload_n 0, 1) := by decide +kernel
theorem d_AckBookModel_space_117 : decode c_AckBookModel_space 117 = .ok (.iload_n 1, 1) := by decide +kernel
theorem d_AckBookModel_space_118 : decode c_AckBookModel_space 118 = .ok (.invokevirtual 192, 3) := by decide +kernel
theorem d_AckBookModel_space_121 : decode c_AckBookModel_space 121 = .ok (.i2l, 1) := by decide +kernel
theorem d_AckBookModel_space_122 : decode c_AckBookModel_space 122 = .ok (.lreturn, 1) := by decide +kernel
theorem d_AckBookModel_space_123 : decode c_AckBookModel_space 123 = .ok (.aload_n 0, 1) := by decide +kernel
theorem d_AckBookModel_space_124 : decode c_AckBookModel_space 124 = .ok (.iload_n 1, 1) := by decide +kernel
theorem d_AckBookModel_space_125 : decode c_AckBookModel_space 125 = .ok (.iconst (1), 1) := by decide +kernel
theorem d_AckBookModel_space_126 : decode c_AckBookModel_space 126 = .ok (.invokevirtual 121, 3) := by decide +kernel
theorem d_AckBookModel_space_129 : decode c_AckBookModel_space 129 = .ok (.i2l, 1) := by decide +kernel
theorem d_AckBookModel_space_130 : decode c_AckBookModel_space 130 = .ok (.lreturn, 1) := by decide +kernel
theorem d_AckBookModel_space_131 : decode c_AckBookModel_space 131 = .ok (.aload_n 0, 1) := by decide +kernel
theorem d_AckBookModel_space_132 : decode c_AckBookModel_space 132 = .ok (.iload_n 1, 1) := by decide +kernel
theorem d_AckBookModel_space_133 : decode c_AckBookModel_space 133 = .ok (.iconst (0), 1) := by decide +kernel
theorem d_AckBookModel_space_134 : decode c_AckBookModel_space 134 = .ok (.invokevirtual 121, 3) := by decide +kernel
theorem d_AckBookModel_space_137 : decode c_AckBookModel_space 137 = .ok (.i2l, 1) := by decide +kernel
theorem d_AckBookModel_space_138 : decode c_AckBookModel_space 138 = .ok (.lreturn, 1) := by decide +kernel
theorem d_AckBookModel_space_139 : decode c_AckBookModel_space 139 = .ok (.aload_n 0, 1) := by decide +kernel
theorem d_AckBookModel_space_140 : decode c_AckBookModel_space 140 = .ok (.getfield 79, 3) := by decide +kernel
theorem d_AckBookModel_space_143 : decode c_AckBookModel_space 143 = .ok (.iload_n 1, 1) := by decide +kernel
theorem d_AckBookModel_space_144 : decode c_AckBookModel_space 144 = .ok (.iaload, 1) := by decide +kernel
theorem d_AckBookModel_space_145 : decode c_AckBookModel_space 145 = .ok (.i2l, 1) := by decide +kernel
theorem d_AckBookModel_space_146 : decode c_AckBookModel_space 146 = .ok (.lreturn, 1) := by decide +kernel
theorem d_AckBookModel_space_147 : decode c_AckBookModel_space 147 = .ok (.aload_n 0, 1) := by decide +kernel
theorem d_AckBookModel_space_148 : decode c_AckBookModel_space 148 = .ok (.getfield 94, 3) := by decide +kernel
theorem d_AckBookModel_space_151 : decode c_AckBookModel_space 151 = .ok (.iload_n 1, 1) := by decide +kernel
theorem d_AckBookModel_space_152 : decode c_AckBookModel_space 152 = .ok (.iaload, 1) := by decide +kernel
theorem d_AckBookModel_space_153 : decode c_AckBookModel_space 153 = .ok (.i2l, 1) := by decide +kernel
theorem d_AckBookModel_space_154 : decode c_AckBookModel_space 154 = .ok (.lreturn, 1) := by decide +kernel
theorem d_AckBookModel_space_155 : decode c_AckBookModel_space 155 = .ok (.aload_n 0, 1) := by decide +kernel
theorem d_AckBookModel_space_156 : decode c_AckBookModel_space 156 = .ok (.iload_n 1, 1) := by decide +kernel
theorem d_AckBookModel_space_157 : decode c_AckBookModel_space 157 = .ok (.invokevirtual 125, 3) := by decide +kernel
theorem d_AckBookModel_space_160 : decode c_AckBookModel_space 160 = .ok (.i2l, 1) := by decide +kernel
theorem d_AckBookModel_space_161 : decode c_AckBookModel_space 161 = .ok (.lreturn, 1) := by decide +kernel
theorem d_AckBookModel_space_162 : decode c_AckBookModel_space 162 = .ok (.aload_n 0, 1) := by decide +kernel
theorem d_AckBookModel_space_163 : decode c_AckBookModel_space 163 = .ok (.getfield 32, 3) := by decide +kernel
theorem d_AckBookModel_space_166 : decode c_AckBookModel_space 166 = .ok (.iload_n 1, 1) := by decide +kernel
theorem d_AckBookModel_space_167 : decode c_AckBookModel_space 167 = .ok (.baload, 1) := by decide +kernel
theorem d_AckBookModel_space_168 : decode c_AckBookModel_space 168 = .ok (.ifCond .eq (7), 3) := by decide +kernel
theorem d_AckBookModel_space_175 : decode c_AckBookModel_space 175 = .ok (.lconst 0, 1) := by decide +kernel
theorem d_AckBookModel_space_176 : decode c_AckBookModel_space 176 = .ok (.lreturn, 1) := by decide +kernel
theorem d_AckBookModel_space_171 : decode c_AckBookModel_space 171 = .ok (.lconst 1, 1) := by decide +kernel
theorem d_AckBookModel_space_172 : decode c_AckBookModel_space 172 = .ok (.goto (4), 3) := by decide +kernel
theorem d_AckBookModel_space_177 : decode c_AckBookModel_space 177 = .ok (.aload_n 0, 1) := by decide +kernel
theorem d_AckBookModel_space_178 : decode c_AckBookModel_space 178 = .ok (.getfield 88, 3) := by decide +kernel
theorem d_AckBookModel_space_181 : decode c_AckBookModel_space 181 = .ok (.iload_n 1, 1) := by decide +kernel
theorem d_AckBookModel_space_182 : decode c_AckBookModel_space 182 = .ok (.laload, 1) := by decide +kernel
theorem d_AckBookModel_space_183 : decode c_AckBookModel_space 183 = .ok (.lreturn, 1) := by decide +kernel
theorem d_AckBookModel_space_35 : decode c_AckBookModel_space 35 = .ok (.lconst 0, 1) := by decide +kernel
theorem d_AckBookModel_space_36 : decode c_AckBookModel_space 36 = .ok (.lreturn, 1) := by decide +kernel
theorem d_AckBookModel_space_23 : decode c_AckBookModel_space 23 = .ok (.iconst (1), 1) := by decide +kernel
theorem d_AckBookModel_space_24 : decode c_AckBookModel_space 24 = .ok (.goto (4), 3) := by decide +kernel
theorem d_AckBookModel_space_0 : decode c_AckBookModel_space 0 = .ok (.aload_n 0, 1) := by decide +kernel
theorem d_AckBookModel_space_1 : decode c_AckBookModel_space 1 = .ok (.iload_n 1, 1) := by decide +kernel
theorem d_AckBookModel_space_2 : decode c_AckBookModel_space 2 = .ok (.invokestatic 142, 3) := by decide +kernel
theorem d_AckBookModel_space_5 : decode c_AckBookModel_space 5 = .ok (.iconst (1), 1) := by decide +kernel
theorem d_AckBookModel_space_6 : decode c_AckBookModel_space 6 = .ok (.invokevirtual 146, 3) := by decide +kernel
theorem d_AckBookModel_space_9 : decode c_AckBookModel_space 9 = .ok (.ifCond .ne (26), 3) := by decide +kernel
theorem d_AckBookModel_space_12 : decode c_AckBookModel_space 12 = .ok (.aload_n 0, 1) := by decide +kernel
theorem d_AckBookModel_space_13 : decode c_AckBookModel_space 13 = .ok (.iload_n 2, 1) := by decide +kernel
theorem d_AckBookModel_space_14 : decode c_AckBookModel_space 14 = .ok (.ifCond .lt (9), 3) := by decide +kernel
theorem d_AckBookModel_space_17 : decode c_AckBookModel_space 17 = .ok (.iload_n 2, 1) := by decide +kernel
theorem d_AckBookModel_space_18 : decode c_AckBookModel_space 18 = .ok (.bipush (10), 2) := by decide +kernel
theorem d_AckBookModel_space_20 : decode c_AckBookModel_space 20 = .ok (.if_icmp .le (7), 3) := by decide +kernel
theorem d_AckBookModel_space_27 : decode c_AckBookModel_space 27 = .ok (.iconst (0), 1) := by decide +kernel
theorem d_AckBookLaw_law_780 : decode c_AckBookLaw_law 780 = .ok (.invokevirtual 123, 3) := by decide +kernel
theorem d_AckBookLaw_law_783 : decode c_AckBookLaw_law 783 = .ok (.lstore 6, 2) := by decide +kernel
theorem d_AckBookLaw_law_785 : decode c_AckBookLaw_law 785 = .ok (.goto (71), 3) := by decide +kernel
theorem d_AckBookLaw_law_856 : decode c_AckBookLaw_law 856 = .ok (.iinc 4 (5), 3) := by decide +kernel
theorem d_AckBookLaw_law_859 : decode c_AckBookLaw_law 859 = .ok (.goto (-836), 3) := by decide +kernel
theorem d_AckBookLaw_law_747 : decode c_AckBookLaw_law 747 = .ok (.aload_n 3, 1) := by decide +kernel
theorem d_AckBookLaw_law_748 : decode c_AckBookLaw_law 748 = .ok (.invokestatic 120, 3) := by decide +kernel
theorem d_AckBookLaw_law_751 : decode c_AckBookLaw_law 751 = .ok (.istore 5, 2) := by decide +kernel
theorem d_AckBookLaw_law_753 : decode c_AckBookLaw_law 753 = .ok (.aload_n 2, 1) := by decide +kernel
theorem d_AckBookLaw_law_754 : decode c_AckBookLaw_law 754 = .ok (.aload_n 0, 1) := by decide +kernel
theorem d_AckBookLaw_law_755 : decode c_AckBookLaw_law 755 = .ok (.iload 4, 2) := by decide +kernel
theorem d_AckBookLaw_law_757 : decode c_AckBookLaw_law 757 = .ok (.iconst (1), 1) := by decide +kernel
theorem d_AckBookLaw_law_758 : decode c_AckBookLaw_law 758 = .ok (.iadd, 1) := by decide +kernel
theorem d_AckBookLaw_law_759 : decode c_AckBookLaw_law 759 = .ok (.iaload, 1) := by decide +kernel
theorem d_AckBookLaw_law_760 : decode c_AckBookLaw_law 760 = .ok (.aload_n 0, 1) := by decide +kernel
theorem d_AckBookLaw_law_761 : decode c_AckBookLaw_law 761 = .ok (.iload 4, 2) := by decide +kernel
theorem d_AckBookLaw_law_763 : decode c_AckBookLaw_law 763 = .ok (.iconst (2), 1) := by decide +kernel
theorem d_AckBookLaw_law_764 : decode c_AckBookLaw_law 764 = .ok (.iadd, 1) := by decide +kernel
theorem d_AckBookLaw_law_765 : decode c_AckBookLaw_law 765 = .ok (.iaload, 1) := by decide +kernel
theorem d_AckBookLaw_law_766 : decode c_AckBookLaw_law 766 = .ok (.aload_n 0, 1) := by decide +kernel
theorem d_AckBookLaw_law_767 : decode c_AckBookLaw_law 767 = .ok (.iload 4, 2) := by decide +kernel
theorem d_AckBookLaw_law_769 : decode c_AckBookLaw_law 769 = .ok (.iconst (3), 1) := by decide +kernel
theorem d_AckBookLaw_law_770 : decode c_AckBookLaw_law 770 = .ok (.iadd, 1) := by decide +kernel
theorem d_AckBookLaw_law_771 : decode c_AckBookLaw_law 771 = .ok (.iaload, 1) := by decide +kernel
theorem d_AckBookLaw_law_772 : decode c_AckBookLaw_law 772 = .ok (.ifCond .eq (7), 3) := by decide +kernel
theorem d_AckBookLaw_law_779 : decode c_AckBookLaw_law 779 = .ok (.iconst (0), 1) := by decide +kernel
theorem d_AckBookLaw_law_775 : decode c_AckBookLaw_law 775 = .ok (.iconst (1), 1) := by decide +kernel
theorem d_AckBookLaw_law_776 : decode c_AckBookLaw_law 776 = .ok (.goto (4), 3) := by decide +kernel
theorem d_AckBookLaw_law_656 : decode c_AckBookLaw_law 656 = .ok (.invokevirtual 112, 3) := by decide +kernel
theorem d_AckBookLaw_law_659 : decode c_AckBookLaw_law 659 = .ok (.istore 6, 2) := by decide +kernel
theorem d_AckBookLaw_law_661 : decode c_AckBookLaw_law 661 = .ok (.goto (195), 3) := by decide +kernel
theorem d_AckBookLaw_law_607 : decode c_AckBookLaw_law 607 = .ok (.aload_n 3, 1) := by decide +kernel
theorem d_AckBookLaw_law_608 : decode c_AckBookLaw_law 608 = .ok (.invokestatic 109, 3) := by decide +kernel
theorem d_AckBookLaw_law_611 : decode c_AckBookLaw_law 611 = .ok (.istore 5, 2) := by decide +kernel
theorem d_AckBookLaw_law_613 : decode c_AckBookLaw_law 613 = .ok (.aload_n 2, 1) := by decide +kernel
theorem d_AckBookLaw_law_614 : decode c_AckBookLaw_law 614 = .ok (.aload_n 0, 1) := by decide +kernel
theorem d_AckBookLaw_law_615 : decode c_AckBookLaw_law 615 = .ok (.iload 4, 2) := by decide +kernel
theorem d_AckBookLaw_law_617 : decode c_AckBookLaw_law 617 = .ok (.iconst (1), 1) := by decide +kernel
theorem d_AckBookLaw_law_618 : decode c_AckBookLaw_law 618 = .ok (.iadd, 1) := by decide +kernel
theorem d_AckBookLaw_law_619 : decode c_AckBookLaw_law 619 = .ok (.iaload, 1) := by decide +kernel
theorem d_AckBookLaw_law_620 : decode c_AckBookLaw_law 620 = .ok (.aload_n 0, 1) := by decide +kernel
theorem d_AckBookLaw_law_621 : decode c_AckBookLaw_law 621 = .ok (.iload 4, 2) := by decide +kernel
theorem d_AckBookLaw_law_623 : decode c_AckBookLaw_law 623 = .ok (.iconst (2), 1) := by decide +kernel
theorem d_AckBookLaw_law_624 : decode c_AckBookLaw_law 624 = .ok (.iadd, 1) := by decide +kernel
theorem d_AckBookLaw_law_625 : decode c_AckBookLaw_law 625 = .ok (.iaload, 1) := by decide +kernel
