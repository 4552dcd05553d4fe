theorem d_AckBook_space_111 : decode c_AckBook_space 111 = .ok (.getfield 264, 3) := by decide +kernel
theorem d_AckBook_space_114 : decode c_AckBook_space 114 = .ok (.i2l, 1) := by decide +kernel
theorem d_AckBook_space_115 : decode c_AckBook_space 115 = .ok (.lreturn, 1) := by decide +kernel
theorem d_AckBook_space_116 : decode c_AckBook_space 116 = .ok (.aload_n 3, 1) := by decide +kernel
theorem d_AckBook_space_117 : decode c_AckBook_space 117 = .ok (.getfield 157, 3) := by decide +kernel
theorem d_AckBook_space_120 : decode c_AckBook_space 120 = .ok (.getfield 200, 3) := by decide +kernel
theorem d_AckBook_space_123 : decode c_AckBook_space 123 = .ok (.i2l, 1) := by decide +kernel
theorem d_AckBook_space_124 : decode c_AckBook_space 124 = .ok (.lreturn, 1) := by decide +kernel
theorem d_AckBook_space_125 : decode c_AckBook_space 125 = .ok (.aload_n 3, 1) := by decide +kernel
theorem d_AckBook_space_126 : decode c_AckBook_space 126 = .ok (.getfield 157, 3) := by decide +kernel
theorem d_AckBook_space_129 : decode c_AckBook_space 129 = .ok (.getfield 197, 3) := by decide +kernel
theorem d_AckBook_space_132 : decode c_AckBook_space 132 = .ok (.i2l, 1) := by decide +kernel
theorem d_AckBook_space_133 : decode c_AckBook_space 133 = .ok (.lreturn, 1) := by decide +kernel
theorem d_AckBook_space_134 : decode c_AckBook_space 134 = .ok (.aload_n 0, 1) := by decide +kernel
theorem d_AckBook_space_135 : decode c_AckBook_space 135 = .ok (.aload_n 3, 1) := by decide +kernel
theorem d_AckBook_space_136 : decode c_AckBook_space 136 = .ok (.invokevirtual 267, 3) := by decide +kernel
theorem d_AckBook_space_139 : decode c_AckBook_space 139 = .ok (.i2l, 1) := by decide +kernel
theorem d_AckBook_space_140 : decode c_AckBook_space 140 = .ok (.lreturn, 1) := by decide +kernel
theorem d_AckBook_space_141 : decode c_AckBook_space 141 = .ok (.aload_n 3, 1) := by decide +kernel
theorem d_AckBook_space_142 : decode c_AckBook_space 142 = .ok (.getfield 149, 3) := by decide +kernel
theorem d_AckBook_space_145 : decode c_AckBook_space 145 = .ok (.ifCond .eq (7), 3) := by decide +kernel
theorem d_AckBook_space_152 : decode c_AckBook_space 152 = .ok (.lconst 0, 1) := by decide +kernel
theorem d_AckBook_space_153 : decode c_AckBook_space 153 = .ok (.lreturn, 1) := by decide +kernel
theorem d_AckBook_space_148 : decode c_AckBook_space 148 = .ok (.lconst 1, 1) := by decide +kernel
theorem d_AckBook_space_149 : decode c_AckBook_space 149 = .ok (.goto (4), 3) := by decide +kernel
theorem d_AckBook_space_154 : decode c_AckBook_space 154 = .ok (.aload_n 3, 1) := by decide +kernel
theorem d_AckBook_space_155 : decode c_AckBook_space 155 = .ok (.getfield 157, 3) := by decide +kernel
theorem d_AckBook_space_158 : decode c_AckBook_space 158 = .ok (.getfield 270, 3) := by decide +kernel
theorem d_AckBook_space_161 : decode c_AckBook_space 161 = .ok (.lreturn, 1) := by decide +kernel
theorem d_AckBook_space_162 : decode c_AckBook_space 162 = .ok (.new 207, 3) := by decide +kernel
theorem d_AckBook_space_165 : decode c_AckBook_space 165 = .ok (.dup, 1) := by decide +kernel
theorem d_AckBook_space_166 : decode c_AckBook_space 166 = .ok (.ldc 249, 2) := by decide +kernel
theorem d_AckBook_space_168 : decode c_AckBook_space 168 = .ok (.invokespecial 211, 3) := by decide +kernel
theorem d_AckBook_space_171 : decode c_AckBook_space 171 = .ok (.athrow, 1) := by decide +kernel
theorem d_AckBookLaw_space_0 : decode c_AckBookLaw_space 0 = .ok (.aload_n 3, 1) := by decide +kernel
theorem d_AckBookLaw_space_1 : decode c_AckBookLaw_space 1 = .ok (.iconst (0), 1) := by decide +kernel
theorem d_AckBookLaw_space_2 : decode c_AckBookLaw_space 2 = .ok (.aload_n 0, 1) := by decide +kernel
theorem d_AckBookLaw_space_3 : decode c_AckBookLaw_space 3 = .ok (.iload_n 1, 1) := by decide +kernel
theorem d_AckBookLaw_space_4 : decode c_AckBookLaw_space 4 = .ok (.iload_n 2, 1) := by decide +kernel
theorem d_AckBookLaw_space_5 : decode c_AckBookLaw_space 5 = .ok (.invokevirtual 57, 3) := by decide +kernel
theorem d_AckBookLaw_space_8 : decode c_AckBookLaw_space 8 = .ok (.lastore, 1) := by decide +kernel
theorem d_AckBookLaw_space_9 : decode c_AckBookLaw_space 9 = .ok (.goto (11), 3) := by decide +kernel
theorem d_AckBookLaw_space_20 : decode c_AckBookLaw_space 20 = .ok (.iconst (0), 1) := by decide +kernel
theorem d_AckBookLaw_space_21 : decode c_AckBookLaw_space 21 = .ok (.ireturn, 1) := by decide +kernel
theorem d_AckBookLaw_space_12 : decode c_AckBookLaw_space 12 = .ok (.astore 4, 2) := by decide +kernel
theorem d_AckBookLaw_space_14 : decode c_AckBookLaw_space 14 = .ok (.iconst (1), 1) := by decide +kernel
theorem d_AckBookLaw_space_15 : decode c_AckBookLaw_space 15 = .ok (.ireturn, 1) := by decide +kernel
theorem d_AckBookLaw_space_16 : decode c_AckBookLaw_space 16 = .ok (.astore 4, 2) := by decide +kernel
theorem d_AckBookLaw_space_18 : decode c_AckBookLaw_space 18 = .ok (.iconst (2), 1) := by decide +kernel
theorem d_AckBookLaw_space_19 : decode c_AckBookLaw_space 19 = .ok (.ireturn, 1) := by decide +kernel
theorem d_AckBookModel_init_230 : decode c_AckBookModel_init 230 = .ok (.iload_n 1, 1) := by decide +kernel
theorem d_AckBookModel_init_231 : decode c_AckBookModel_init 231 = .ok (.iconst (3), 1) := by decide +kernel
theorem d_AckBookModel_init_232 : decode c_AckBookModel_init 232 = .ok (.if_icmp .ge (23), 3) := by decide +kernel
theorem d_AckBookModel_init_255 : decode c_AckBookModel_init 255 = .ok (.return_, 1) := by decide +kernel
theorem d_AckBookModel_init_235 : decode c_AckBookModel_init 235 = .ok (.aload_n 0, 1) := by decide +kernel
theorem d_AckBookModel_init_236 : decode c_AckBookModel_init 236 = .ok (.getfield 35, 3) := by decide +kernel
theorem d_AckBookModel_init_239 : decode c_AckBookModel_init 239 = .ok (.iload_n 1, 1) := by decide +kernel
theorem d_AckBookModel_init_240 : decode c_AckBookModel_init 240 = .ok (.iconst (-1), 1) := by decide +kernel
theorem d_AckBookModel_init_241 : decode c_AckBookModel_init 241 = .ok (.iastore, 1) := by decide +kernel
theorem d_AckBookModel_init_242 : decode c_AckBookModel_init 242 = .ok (.aload_n 0, 1) := by decide +kernel
theorem d_AckBookModel_init_243 : decode c_AckBookModel_init 243 = .ok (.getfield 38, 3) := by decide +kernel
theorem d_AckBookModel_init_246 : decode c_AckBookModel_init 246 = .ok (.iload_n 1, 1) := by decide +kernel
theorem d_AckBookModel_init_247 : decode c_AckBookModel_init 247 = .ok (.iconst (-1), 1) := by decide +kernel
theorem d_AckBookModel_init_248 : decode c_AckBookModel_init 248 = .ok (.iastore, 1) := by decide +kernel
theorem d_AckBookModel_init_249 : decode c_AckBookModel_init 249 = .ok (.iinc 1 (1), 3) := by decide +kernel
theorem d_AckBookModel_init_252 : decode c_AckBookModel_init 252 = .ok (.goto (-22), 3) := by decide +kernel
theorem d_AckBookModel_init_0 : decode c_AckBookModel_init 0 = .ok (.aload_n 0, 1) := by decide +kernel
theorem d_AckBookModel_init_1 : decode c_AckBookModel_init 1 = .ok (.invokespecial 1, 3) := by decide +kernel
theorem d_AckBookModel_init_4 : decode c_AckBookModel_init 4 = .ok (.aload_n 0, 1) := by decide +kernel
theorem d_AckBookModel_init_5 : decode c_AckBookModel_init 5 = .ok (.iconst (3), 1) := by decide +kernel
theorem d_AckBookModel_init_6 : decode c_AckBookModel_init 6 = .ok (.newarray .int, 2) := by decide +kernel
theorem d_AckBookModel_init_8 : decode c_AckBookModel_init 8 = .ok (.putfield 7, 3) := by decide +kernel
theorem d_AckBookModel_init_11 : decode c_AckBookModel_init 11 = .ok (.aload_n 0, 1) := by decide +kernel
theorem d_AckBookModel_init_12 : decode c_AckBookModel_init 12 = .ok (.sipush (12288), 3) := by decide +kernel
theorem d_AckBookModel_init_15 : decode c_AckBookModel_init 15 = .ok (.newarray .int, 2) := by decide +kernel
theorem d_AckBookModel_init_17 : decode c_AckBookModel_init 17 = .ok (.putfield 13, 3) := by decide +kernel
theorem d_AckBookModel_init_20 : decode c_AckBookModel_init 20 = .ok (.aload_n 0, 1) := by decide +kernel
theorem d_AckBookModel_init_21 : decode c_AckBookModel_init 21 = .ok (.sipush (12288), 3) := by decide +kernel
theorem d_AckBookModel_init_24 : decode c_AckBookModel_init 24 = .ok (.newarray .int, 2) := by decide +kernel
theorem d_AckBookModel_init_26 : decode c_AckBookModel_init 26 = .ok (.putfield 16, 3) := by decide +kernel
theorem d_AckBookModel_init_29 : decode c_AckBookModel_init 29 = .ok (.aload_n 0, 1) := by decide +kernel
theorem d_AckBookModel_init_30 : decode c_AckBookModel_init 30 = .ok (.sipush (12288), 3) := by decide +kernel
theorem d_AckBookModel_init_33 : decode c_AckBookModel_init 33 = .ok (.newarray .int, 2) := by decide +kernel
theorem d_AckBookModel_init_35 : decode c_AckBookModel_init 35 = .ok (.putfield 19, 3) := by decide +kernel
theorem d_AckBookModel_init_38 : decode c_AckBookModel_init 38 = .ok (.aload_n 0, 1) := by decide +kernel
theorem d_AckBookModel_init_39 : decode c_AckBookModel_init 39 = .ok (.sipush (12288), 3) := by decide +kernel
theorem d_AckBookModel_init_42 : decode c_AckBookModel_init 42 = .ok (.newarray .boolean, 2) := by decide +kernel
theorem d_AckBookModel_init_44 : decode c_AckBookModel_init 44 = .ok (.putfield 22, 3) := by decide +kernel
theorem d_AckBookModel_init_47 : decode c_AckBookModel_init 47 = .ok (.aload_n 0, 1) := by decide +kernel
theorem d_AckBookModel_init_48 : decode c_AckBookModel_init 48 = .ok (.sipush (12288), 3) := by decide +kernel
theorem d_AckBookModel_init_51 : decode c_AckBookModel_init 51 = .ok (.newarray .boolean, 2) := by decide +kernel
theorem d_AckBookModel_init_53 : decode c_AckBookModel_init 53 = .ok (.putfield 26, 3) := by decide +kernel
theorem d_AckBookModel_init_56 : decode c_AckBookModel_init 56 = .ok (.aload_n 0, 1) := by decide +kernel
theorem d_AckBookModel_init_57 : decode c_AckBookModel_init 57 = .ok (.sipush (12288), 3) := by decide +kernel
theorem d_AckBookModel_init_60 : decode c_AckBookModel_init 60 = .ok (.newarray .boolean, 2) := by decide +kernel
theorem d_AckBookModel_init_62 : decode c_AckBookModel_init 62 = .ok (.putfield 29, 3) := by decide +kernel
theorem d_AckBookModel_init_65 : decode c_AckBookModel_init 65 = .ok (.aload_n 0, 1) := by decide +kernel
theorem d_AckBookModel_init_66 : decode c_AckBookModel_init 66 = .ok (.iconst (3), 1) := by decide +kernel
theorem d_AckBookModel_init_67 : decode c_AckBookModel_init 67 = .ok (.newarray .boolean, 2) := by decide +kernel
theorem d_AckBookModel_init_69 : decode c_AckBookModel_init 69 = .ok (.putfield 32, 3) := by decide +kernel
theorem d_AckBookModel_init_72 : decode c_AckBookModel_init 72 = .ok (.aload_n 0, 1) := by decide +kernel
theorem d_AckBookModel_init_73 : decode c_AckBookModel_init 73 = .ok (.iconst (3), 1) := by decide +kernel
theorem d_AckBookModel_init_74 : decode c_AckBookModel_init 74 = .ok (.newarray .int, 2) := by decide +kernel
theorem d_AckBookModel_init_76 : decode c_AckBookModel_init 76 = .ok (.putfield 35, 3) := by decide +kernel
theorem d_AckBookModel_init_79 : decode c_AckBookModel_init 79 = .ok (.aload_n 0, 1) := by decide +kernel
theorem d_AckBookModel_init_80 : decode c_AckBookModel_init 80 = .ok (.iconst (3), 1) := by decide +kernel
theorem d_AckBookModel_init_81 : decode c_AckBookModel_init 81 = .ok (.newarray .int, 2) := by decide +kernel
theorem d_AckBookModel_init_83 : decode c_AckBookModel_init 83 = .ok (.putfield 38, 3) := by decide +kernel
theorem d_AckBookModel_init_86 : decode c_AckBookModel_init 86 = .ok (.aload_n 0, 1) := by decide +kernel
theorem d_AckBookModel_init_87 : decode c_AckBookModel_init 87 = .ok (.sipush (24576), 3) := by decide +kernel
theorem d_AckBookModel_init_90 : decode c_AckBookModel_init 90 = .ok (.newarray .int, 2) := by decide +kernel
theorem d_AckBookModel_init_92 : decode c_AckBookModel_init 92 = .ok (.putfield 41, 3) := by decide +kernel
theorem d_AckBookModel_init_95 : decode c_AckBookModel_init 95 = .ok (.aload_n 0, 1) := by decide +kernel
theorem d_AckBookModel_init_96 : decode c_AckBookModel_init 96 = .ok (.bipush (6), 2) := by decide +kernel
theorem d_AckBookModel_init_98 : decode c_AckBookModel_init 98 = .ok (.newarray .int, 2) := by decide +kernel
theorem d_AckBookModel_init_100 : decode c_AckBookModel_init 100 = .ok (.putfield 44, 3) := by decide +kernel
theorem d_AckBookModel_init_103 : decode c_AckBookModel_init 103 = .ok (.aload_n 0, 1) := by decide +kernel
theorem d_AckBookModel_init_104 : decode c_AckBookModel_init 104 = .ok (.bipush (6), 2) := by decide +kernel
theorem d_AckBookModel_init_106 : decode c_AckBookModel_init 106 = .ok (.newarray .int, 2) := by decide +kernel
theorem d_AckBookModel_init_108 : decode c_AckBookModel_init 108 = .ok (.putfield 47, 3) := by decide +kernel
