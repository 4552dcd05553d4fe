theorem d_AckBookModel_space_104 : decode c_AckBookModel_space 104 = .ok (.iload_n 1, 1) := by decide +kernel
theorem d_AckBookModel_space_105 : decode c_AckBookModel_space 105 = .ok (.iaload, 1) := by decide +kernel
theorem d_AckBookModel_space_106 : decode c_AckBookModel_space 106 = .ok (.i2l, 1) := by decide +kernel
theorem d_AckBookModel_space_107 : decode c_AckBookModel_space 107 = .ok (.lreturn, 1) := by decide +kernel
theorem d_AckBookModel_space_108 : decode c_AckBookModel_space 108 = .ok (.aload_n 0, 1) := by decide +kernel
theorem d_AckBookModel_space_109 : decode c_AckBookModel_space 109 = .ok (.getfield 38, 3) := by decide +kernel
theorem d_AckBookModel_space_112 : decode c_AckBookModel_space 112 = .ok (.iload_n 1, 1) := by decide +kernel
theorem d_AckBookModel_space_113 : decode c_AckBookModel_space 113 = .ok (.iaload, 1) := by decide +kernel
theorem d_AckBookModel_space_114 : decode c_AckBookModel_space 114 = .ok (.i2l, 1) := by decide +kernel
theorem d_AckBookModel_space_115 : decode c_AckBookModel_space 115 = .ok (.lreturn, 1) := by decide +kernel
theorem d_AckBookModel_space_116 : decode c_AckBookModel_space 116 = .ok (.aload_n 0, 1) := by decide +kernel
theorem d_AckBookModel_space_117 : decode c_AckBookModel_space 117 = .ok (.iload_n 1, 1) := by decide +kernel
theorem d_AckBookModel_space_118 : decode c_AckBookModel_space 118 = .ok (.invokevirtual 192, 3) := by decide +kernel
theorem d_AckBookModel_space_121 : decode c_AckBookModel_space 121 = .ok (.i2l, 1) := by decide +kernel
theorem d_AckBookModel_space_122 : decode c_AckBookModel_space 122 = .ok (.lreturn, 1) := by decide +kernel
theorem d_AckBookModel_space_123 : decode c_AckBookModel_space 123 = .ok (.aload_n 0, 1) := by decide +kernel
theorem d_AckBookModel_space_124 : decode c_AckBookModel_space 124 = .ok (.iload_n 1, 1) := by decide +kernel
theorem d_AckBookModel_space_125 : decode c_AckBookModel_space 125 = .ok (.iconst (1), 1) := by decide +kernel
theorem d_AckBookModel_space_126 : decode c_AckBookModel_space 126 = .ok (.invokevirtual 121, 3) := by decide +kernel
theorem d_AckBookModel_space_129 : decode c_AckBookModel_space 129 = .ok (.i2l, 1) := by decide +kernel
theorem d_AckBookModel_space_130 : decode c_AckBookModel_space 130 = .ok (.lreturn, 1) := by decide +kernel
theorem d_AckBookModel_space_131 : decode c_AckBookModel_space 131 = .ok (.aload_n 0, 1) := by decide +kernel
theorem d_AckBookModel_space_132 : decode c_AckBookModel_space 132 = .ok (.iload_n 1, 1) := by decide +kernel
theorem d_AckBookModel_space_133 : decode c_AckBookModel_space 133 = .ok (.iconst (0), 1) := by decide +kernel
theorem d_AckBookModel_space_134 : decode c_AckBookModel_space 134 = .ok (.invokevirtual 121, 3) := by decide +kernel
theorem d_AckBookModel_space_137 : decode c_AckBookModel_space 137 = .ok (.i2l, 1) := by decide +kernel
theorem d_AckBookModel_space_138 : decode c_AckBookModel_space 138 = .ok (.lreturn, 1) := by decide +kernel
theorem d_AckBookModel_space_139 : decode c_AckBookModel_space 139 = .ok (.aload_n 0, 1) := by decide +kernel
theorem d_AckBookModel_space_140 : decode c_AckBookModel_space 140 = .ok (.getfield 79, 3) := by decide +kernel
theorem d_AckBookModel_space_143 : decode c_AckBookModel_space 143 = .ok (.iload_n 1, 1) := by decide +kernel
theorem d_AckBookModel_space_144 : decode c_AckBookModel_space 144 = .ok (.iaload, 1) := by decide +kernel
theorem d_AckBookModel_space_145 : decode c_AckBookModel_space 145 = .ok (.i2l, 1) := by decide +kernel
theorem d_AckBookModel_space_146 : decode c_AckBookModel_space 146 = .ok (.lreturn, 1) := by decide +kernel
theorem d_AckBookModel_space_147 : decode c_AckBookModel_space 147 = .ok (.aload_n 0, 1) := by decide +kernel
theorem d_AckBookModel_space_148 : decode c_AckBookModel_space 148 = .ok (.getfield 94, 3) := by decide +kernel
theorem d_AckBookModel_space_151 : decode c_AckBookModel_space 151 = .ok (.iload_n 1, 1) := by decide +kernel
theorem d_AckBookModel_space_152 : decode c_AckBookModel_space 152 = .ok (.iaload, 1) := by decide +kernel
theorem d_AckBookModel_space_153 : decode c_AckBookModel_space 153 = .ok (.i2l, 1) := by decide +kernel
theorem d_AckBookModel_space_154 : decode c_AckBookModel_space 154 = .ok (.lreturn, 1) := by decide +kernel
theorem d_AckBookModel_space_155 : decode c_AckBookModel_space 155 = .ok (.aload_n 0, 1) := by decide +kernel
theorem d_AckBookModel_space_156 : decode c_AckBookModel_space 156 = .ok (.iload_n 1, 1) := by decide +kernel
theorem d_AckBookModel_space_157 : decode c_AckBookModel_space 157 = .ok (.invokevirtual 125, 3) := by decide +kernel
theorem d_AckBookModel_space_160 : decode c_AckBookModel_space 160 = .ok (.i2l, 1) := by decide +kernel
theorem d_AckBookModel_space_161 : decode c_AckBookModel_space 161 = .ok (.lreturn, 1) := by decide +kernel
theorem d_AckBookModel_space_162 : decode c_AckBookModel_space 162 = .ok (.aload_n 0, 1) := by decide +kernel
theorem d_AckBookModel_space_163 : decode c_AckBookModel_space 163 = .ok (.getfield 32, 3) := by decide +kernel
theorem d_AckBookModel_space_166 : decode c_AckBookModel_space 166 = .ok (.iload_n 1, 1) := by decide +kernel
theorem d_AckBookModel_space_167 : decode c_AckBookModel_space 167 = .ok (.baload, 1) := by decide +kernel
theorem d_AckBookModel_space_168 : decode c_AckBookModel_space 168 = .ok (.ifCond .eq (7), 3) := by decide +kernel
theorem d_AckBookModel_space_175 : decode c_AckBookModel_space 175 = .ok (.lconst 0, 1) := by decide +kernel
theorem d_AckBookModel_space_176 : decode c_AckBookModel_space 176 = .ok (.lreturn, 1) := by decide +kernel
theorem d_AckBookModel_space_171 : decode c_AckBookModel_space 171 = .ok (.lconst 1, 1) := by decide +kernel
theorem d_AckBookModel_space_172 : decode c_AckBookModel_space 172 = .ok (.goto (4), 3) := by decide +kernel
theorem d_AckBookModel_space_177 : decode c_AckBookModel_space 177 = .ok (.aload_n 0, 1) := by decide +kernel
theorem d_AckBookModel_space_178 : decode c_AckBookModel_space 178 = .ok (.getfield 88, 3) := by decide +kernel
theorem d_AckBookModel_space_181 : decode c_AckBookModel_space 181 = .ok (.iload_n 1, 1) := by decide +kernel
theorem d_AckBookModel_space_182 : decode c_AckBookModel_space 182 = .ok (.laload, 1) := by decide +kernel
theorem d_AckBookModel_space_183 : decode c_AckBookModel_space 183 = .ok (.lreturn, 1) := by decide +kernel
theorem d_AckBookModel_space_35 : decode c_AckBookModel_space 35 = .ok (.lconst 0, 1) := by decide +kernel
theorem d_AckBookModel_space_36 : decode c_AckBookModel_space 36 = .ok (.lreturn, 1) := by decide +kernel
theorem d_AckBookModel_space_23 : decode c_AckBookModel_space 23 = .ok (.iconst (1), 1) := by decide +kernel
theorem d_AckBookModel_space_24 : decode c_AckBookModel_space 24 = .ok (.goto (4), 3) := by decide +kernel
theorem d_AckBookModel_space_0 : decode c_AckBookModel_space 0 = .ok (.aload_n 0, 1) := by decide +kernel
theorem d_AckBookModel_space_1 : decode c_AckBookModel_space 1 = .ok (.iload_n 1, 1) := by decide +kernel
theorem d_AckBookModel_space_2 : decode c_AckBookModel_space 2 = .ok (.invokestatic 142, 3) := by decide +kernel
theorem d_AckBookModel_space_5 : decode c_AckBookModel_space 5 = .ok (.iconst (1), 1) := by decide +kernel
theorem d_AckBookModel_space_6 : decode c_AckBookModel_space 6 = .ok (.invokevirtual 146, 3) := by decide +kernel
theorem d_AckBookModel_space_9 : decode c_AckBookModel_space 9 = .ok (.ifCond .ne (26), 3) := by decide +kernel
theorem d_AckBookModel_space_12 : decode c_AckBookModel_space 12 = .ok (.aload_n 0, 1) := by decide +kernel
theorem d_AckBookModel_space_13 : decode c_AckBookModel_space 13 = .ok (.iload_n 2, 1) := by decide +kernel
theorem d_AckBookModel_space_14 : decode c_AckBookModel_space 14 = .ok (.ifCond .lt (9), 3) := by decide +kernel
theorem d_AckBookModel_space_17 : decode c_AckBookModel_space 17 = .ok (.iload_n 2, 1) := by decide +kernel
theorem d_AckBookModel_space_18 : decode c_AckBookModel_space 18 = .ok (.bipush (10), 2) := by decide +kernel
theorem d_AckBookModel_space_20 : decode c_AckBookModel_space 20 = .ok (.if_icmp .le (7), 3) := by decide +kernel
theorem d_AckBookModel_space_27 : decode c_AckBookModel_space 27 = .ok (.iconst (0), 1) := by decide +kernel
theorem d_AckBookLaw_law_1001 : decode c_AckBookLaw_law 1001 = .ok (.invokevirtual 123, 3) := by decide +kernel
theorem d_AckBookLaw_law_1004 : decode c_AckBookLaw_law 1004 = .ok (.lstore 6, 2) := by decide +kernel
theorem d_AckBookLaw_law_1006 : decode c_AckBookLaw_law 1006 = .ok (.aload_n 2, 1) := by decide +kernel
theorem d_AckBookLaw_law_1007 : decode c_AckBookLaw_law 1007 = .ok (.invokevirtual 71, 3) := by decide +kernel
theorem d_AckBookLaw_law_1010 : decode c_AckBookLaw_law 1010 = .ok (.iload 5, 2) := by decide +kernel
theorem d_AckBookLaw_law_1012 : decode c_AckBookLaw_law 1012 = .ok (.if_icmp .eq (5), 3) := by decide +kernel
theorem d_AckBookLaw_law_1017 : decode c_AckBookLaw_law 1017 = .ok (.iload 5, 2) := by decide +kernel
theorem d_AckBookLaw_law_1019 : decode c_AckBookLaw_law 1019 = .ok (.ifCond .ne (14), 3) := by decide +kernel
theorem d_AckBookLaw_law_1022 : decode c_AckBookLaw_law 1022 = .ok (.aload_n 3, 1) := by decide +kernel
theorem d_AckBookLaw_law_1023 : decode c_AckBookLaw_law 1023 = .ok (.iconst (0), 1) := by decide +kernel
theorem d_AckBookLaw_law_1024 : decode c_AckBookLaw_law 1024 = .ok (.laload, 1) := by decide +kernel
theorem d_AckBookLaw_law_1025 : decode c_AckBookLaw_law 1025 = .ok (.lload 6, 2) := by decide +kernel
theorem d_AckBookLaw_law_1027 : decode c_AckBookLaw_law 1027 = .ok (.lcmp, 1) := by decide +kernel
theorem d_AckBookLaw_law_1028 : decode c_AckBookLaw_law 1028 = .ok (.ifCond .eq (5), 3) := by decide +kernel
theorem d_AckBookLaw_law_1033 : decode c_AckBookLaw_law 1033 = .ok (.goto (126), 3) := by decide +kernel
theorem d_AckBookLaw_law_1159 : decode c_AckBookLaw_law 1159 = .ok (.iinc 4 (5), 3) := by decide +kernel
theorem d_AckBookLaw_law_1162 : decode c_AckBookLaw_law 1162 = .ok (.goto (-1139), 3) := by decide +kernel
theorem d_AckBookLaw_law_1031 : decode c_AckBookLaw_law 1031 = .ok (.iconst (0), 1) := by decide +kernel
theorem d_AckBookLaw_law_1032 : decode c_AckBookLaw_law 1032 = .ok (.ireturn, 1) := by decide +kernel
theorem d_AckBookLaw_law_1015 : decode c_AckBookLaw_law 1015 = .ok (.iconst (0), 1) := by decide +kernel
theorem d_AckBookLaw_law_1016 : decode c_AckBookLaw_law 1016 = .ok (.ireturn, 1) := by decide +kernel
theorem d_AckBookLaw_law_968 : decode c_AckBookLaw_law 968 = .ok (.aload_n 3, 1) := by decide +kernel
theorem d_AckBookLaw_law_969 : decode c_AckBookLaw_law 969 = .ok (.invokestatic 120, 3) := by decide +kernel
theorem d_AckBookLaw_law_972 : decode c_AckBookLaw_law 972 = .ok (.istore 5, 2) := by decide +kernel
theorem d_AckBookLaw_law_974 : decode c_AckBookLaw_law 974 = .ok (.aload_n 2, 1) := by decide +kernel
theorem d_AckBookLaw_law_975 : decode c_AckBookLaw_law 975 = .ok (.aload_n 0, 1) := by decide +kernel
theorem d_AckBookLaw_law_976 : decode c_AckBookLaw_law 976 = .ok (.iload 4, 2) := by decide +kernel
theorem d_AckBookLaw_law_978 : decode c_AckBookLaw_law 978 = .ok (.iconst (1), 1) := by decide +kernel
theorem d_AckBookLaw_law_979 : decode c_AckBookLaw_law 979 = .ok (.iadd, 1) := by decide +kernel
theorem d_AckBookLaw_law_980 : decode c_AckBookLaw_law 980 = .ok (.iaload, 1) := by decide +kernel
theorem d_AckBookLaw_law_981 : decode c_AckBookLaw_law 981 = .ok (.aload_n 0, 1) := by decide +kernel
theorem d_AckBookLaw_law_982 : decode c_AckBookLaw_law 982 = .ok (.iload 4, 2) := by decide +kernel
theorem d_AckBookLaw_law_984 : decode c_AckBookLaw_law 984 = .ok (.iconst (2), 1) := by decide +kernel
theorem d_AckBookLaw_law_985 : decode c_AckBookLaw_law 985 = .ok (.iadd, 1) := by decide +kernel
theorem d_AckBookLaw_law_986 : decode c_AckBookLaw_law 986 = .ok (.iaload, 1) := by decide +kernel
theorem d_AckBookLaw_law_987 : decode c_AckBookLaw_law 987 = .ok (.aload_n 0, 1) := by decide +kernel
theorem d_AckBookLaw_law_988 : decode c_AckBookLaw_law 988 = .ok (.iload 4, 2) := by decide +kernel
theorem d_AckBookLaw_law_990 : decode c_AckBookLaw_law 990 = .ok (.iconst (3), 1) := by decide +kernel
theorem d_AckBookLaw_law_991 : decode c_AckBookLaw_law 991 = .ok (.iadd, 1) := by decide +kernel
theorem d_AckBookLaw_law_992 : decode c_AckBookLaw_law 992 = .ok (.iaload, 1) := by decide +kernel
theorem d_AckBookLaw_law_993 : decode c_AckBookLaw_law 993 = .ok (.ifCond .eq (7), 3) := by decide +kernel
theorem d_AckBookLaw_law_1000 : decode c_AckBookLaw_law 1000 = .ok (.iconst (0), 1) := by decide +kernel
theorem d_AckBookLaw_law_996 : decode c_AckBookLaw_law 996 = .ok (.iconst (1), 1) := by decide +kernel
theorem d_AckBookLaw_law_997 : decode c_AckBookLaw_law 997 = .ok (.goto (4), 3) := by decide +kernel
theorem d_AckBookLaw_law_876 : decode c_AckBookLaw_law 876 = .ok (.lcmp, 1) := by decide +kernel
