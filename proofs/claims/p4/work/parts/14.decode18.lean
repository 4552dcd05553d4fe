theorem d_AckBookLaw_range_3 : decode c_AckBookLaw_range 3 = .ok (.aload_n 0, 1) := by decide +kernel
theorem d_AckBookLaw_range_4 : decode c_AckBookLaw_range 4 = .ok (.iload_n 1, 1) := by decide +kernel
theorem d_AckBookLaw_range_5 : decode c_AckBookLaw_range 5 = .ok (.iload_n 2, 1) := by decide +kernel
theorem d_AckBookLaw_range_6 : decode c_AckBookLaw_range 6 = .ok (.iload_n 3, 1) := by decide +kernel
theorem d_AckBookLaw_range_7 : decode c_AckBookLaw_range 7 = .ok (.invokevirtual 48, 3) := by decide +kernel
theorem d_AckBookLaw_range_10 : decode c_AckBookLaw_range 10 = .ok (.lastore, 1) := by decide +kernel
theorem d_AckBookLaw_range_11 : decode c_AckBookLaw_range 11 = .ok (.goto (11), 3) := by decide +kernel
theorem d_AckBookLaw_range_22 : decode c_AckBookLaw_range 22 = .ok (.iconst (0), 1) := by decide +kernel
theorem d_AckBookLaw_range_23 : decode c_AckBookLaw_range 23 = .ok (.ireturn, 1) := by decide +kernel
theorem d_AckBookLaw_range_14 : decode c_AckBookLaw_range 14 = .ok (.astore 5, 2) := by decide +kernel
theorem d_AckBookLaw_range_16 : decode c_AckBookLaw_range 16 = .ok (.iconst (1), 1) := by decide +kernel
theorem d_AckBookLaw_range_17 : decode c_AckBookLaw_range 17 = .ok (.ireturn, 1) := by decide +kernel
theorem d_AckBookLaw_range_18 : decode c_AckBookLaw_range 18 = .ok (.astore 5, 2) := by decide +kernel
theorem d_AckBookLaw_range_20 : decode c_AckBookLaw_range 20 = .ok (.iconst (2), 1) := by decide +kernel
theorem d_AckBookLaw_range_21 : decode c_AckBookLaw_range 21 = .ok (.ireturn, 1) := by decide +kernel
theorem d_AckBook_look_0 : decode c_AckBook_look 0 = .ok (.iload_n 1, 1) := by decide +kernel
theorem d_AckBook_look_1 : decode c_AckBook_look 1 = .ok (.tableswitch (165) (0) (11) #[63, 68, 76, 84, 92, 100, 108, 116, 124, 132, 137, 145], 63) := by decide +kernel
theorem d_AckBook_look_64 : decode c_AckBook_look 64 = .ok (.aload_n 0, 1) := by decide +kernel
theorem d_AckBook_look_65 : decode c_AckBook_look 65 = .ok (.getfield 73, 3) := by decide +kernel
theorem d_AckBook_look_68 : decode c_AckBook_look 68 = .ok (.ireturn, 1) := by decide +kernel
theorem d_AckBook_look_69 : decode c_AckBook_look 69 = .ok (.aload_n 0, 1) := by decide +kernel
theorem d_AckBook_look_70 : decode c_AckBook_look 70 = .ok (.getfield 35, 3) := by decide +kernel
theorem d_AckBook_look_73 : decode c_AckBook_look 73 = .ok (.getfield 219, 3) := by decide +kernel
theorem d_AckBook_look_76 : decode c_AckBook_look 76 = .ok (.ireturn, 1) := by decide +kernel
theorem d_AckBook_look_77 : decode c_AckBook_look 77 = .ok (.aload_n 0, 1) := by decide +kernel
theorem d_AckBook_look_78 : decode c_AckBook_look 78 = .ok (.getfield 35, 3) := by decide +kernel
theorem d_AckBook_look_81 : decode c_AckBook_look 81 = .ok (.getfield 222, 3) := by decide +kernel
theorem d_AckBook_look_84 : decode c_AckBook_look 84 = .ok (.ireturn, 1) := by decide +kernel
theorem d_AckBook_look_85 : decode c_AckBook_look 85 = .ok (.aload_n 0, 1) := by decide +kernel
theorem d_AckBook_look_86 : decode c_AckBook_look 86 = .ok (.getfield 35, 3) := by decide +kernel
theorem d_AckBook_look_89 : decode c_AckBook_look 89 = .ok (.getfield 225, 3) := by decide +kernel
theorem d_AckBook_look_92 : decode c_AckBook_look 92 = .ok (.ireturn, 1) := by decide +kernel
theorem d_AckBook_look_93 : decode c_AckBook_look 93 = .ok (.aload_n 0, 1) := by decide +kernel
theorem d_AckBook_look_94 : decode c_AckBook_look 94 = .ok (.getfield 35, 3) := by decide +kernel
theorem d_AckBook_look_97 : decode c_AckBook_look 97 = .ok (.getfield 228, 3) := by decide +kernel
theorem d_AckBook_look_100 : decode c_AckBook_look 100 = .ok (.ireturn, 1) := by decide +kernel
theorem d_AckBook_look_101 : decode c_AckBook_look 101 = .ok (.aload_n 0, 1) := by decide +kernel
theorem d_AckBook_look_102 : decode c_AckBook_look 102 = .ok (.getfield 28, 3) := by decide +kernel
theorem d_AckBook_look_105 : decode c_AckBook_look 105 = .ok (.getfield 231, 3) := by decide +kernel
theorem d_AckBook_look_108 : decode c_AckBook_look 108 = .ok (.ireturn, 1) := by decide +kernel
theorem d_AckBook_look_109 : decode c_AckBook_look 109 = .ok (.aload_n 0, 1) := by decide +kernel
theorem d_AckBook_look_110 : decode c_AckBook_look 110 = .ok (.getfield 28, 3) := by decide +kernel
theorem d_AckBook_look_113 : decode c_AckBook_look 113 = .ok (.getfield 234, 3) := by decide +kernel
theorem d_AckBook_look_116 : decode c_AckBook_look 116 = .ok (.ireturn, 1) := by decide +kernel
theorem d_AckBook_look_117 : decode c_AckBook_look 117 = .ok (.aload_n 0, 1) := by decide +kernel
theorem d_AckBook_look_118 : decode c_AckBook_look 118 = .ok (.getfield 28, 3) := by decide +kernel
theorem d_AckBook_look_121 : decode c_AckBook_look 121 = .ok (.getfield 237, 3) := by decide +kernel
theorem d_AckBook_look_124 : decode c_AckBook_look 124 = .ok (.ireturn, 1) := by decide +kernel
theorem d_AckBook_look_125 : decode c_AckBook_look 125 = .ok (.aload_n 0, 1) := by decide +kernel
theorem d_AckBook_look_126 : decode c_AckBook_look 126 = .ok (.getfield 28, 3) := by decide +kernel
theorem d_AckBook_look_129 : decode c_AckBook_look 129 = .ok (.getfield 240, 3) := by decide +kernel
theorem d_AckBook_look_132 : decode c_AckBook_look 132 = .ok (.ireturn, 1) := by decide +kernel
theorem d_AckBook_look_133 : decode c_AckBook_look 133 = .ok (.aload_n 0, 1) := by decide +kernel
theorem d_AckBook_look_134 : decode c_AckBook_look 134 = .ok (.getfield 137, 3) := by decide +kernel
theorem d_AckBook_look_137 : decode c_AckBook_look 137 = .ok (.ireturn, 1) := by decide +kernel
theorem d_AckBook_look_138 : decode c_AckBook_look 138 = .ok (.aload_n 0, 1) := by decide +kernel
theorem d_AckBook_look_139 : decode c_AckBook_look 139 = .ok (.getfield 28, 3) := by decide +kernel
theorem d_AckBook_look_142 : decode c_AckBook_look 142 = .ok (.invokevirtual 243, 3) := by decide +kernel
theorem d_AckBook_look_145 : decode c_AckBook_look 145 = .ok (.ireturn, 1) := by decide +kernel
theorem d_AckBook_look_146 : decode c_AckBook_look 146 = .ok (.aload_n 0, 1) := by decide +kernel
theorem d_AckBook_look_147 : decode c_AckBook_look 147 = .ok (.getfield 35, 3) := by decide +kernel
theorem d_AckBook_look_150 : decode c_AckBook_look 150 = .ok (.getfield 222, 3) := by decide +kernel
theorem d_AckBook_look_153 : decode c_AckBook_look 153 = .ok (.aload_n 0, 1) := by decide +kernel
theorem d_AckBook_look_154 : decode c_AckBook_look 154 = .ok (.getfield 35, 3) := by decide +kernel
theorem d_AckBook_look_157 : decode c_AckBook_look 157 = .ok (.getfield 219, 3) := by decide +kernel
theorem d_AckBook_look_160 : decode c_AckBook_look 160 = .ok (.isub, 1) := by decide +kernel
theorem d_AckBook_look_161 : decode c_AckBook_look 161 = .ok (.iconst (0), 1) := by decide +kernel
theorem d_AckBook_look_162 : decode c_AckBook_look 162 = .ok (.invokestatic 246, 3) := by decide +kernel
theorem d_AckBook_look_165 : decode c_AckBook_look 165 = .ok (.ireturn, 1) := by decide +kernel
theorem d_AckBook_look_166 : decode c_AckBook_look 166 = .ok (.new 207, 3) := by decide +kernel
theorem d_AckBook_look_169 : decode c_AckBook_look 169 = .ok (.dup, 1) := by decide +kernel
theorem d_AckBook_look_170 : decode c_AckBook_look 170 = .ok (.ldc 249, 2) := by decide +kernel
theorem d_AckBook_look_172 : decode c_AckBook_look 172 = .ok (.invokespecial 211, 3) := by decide +kernel
theorem d_AckBook_look_175 : decode c_AckBook_look 175 = .ok (.athrow, 1) := by decide +kernel
theorem d_AckBookLaw_look_0 : decode c_AckBookLaw_look 0 = .ok (.aload_n 2, 1) := by decide +kernel
theorem d_AckBookLaw_look_1 : decode c_AckBookLaw_look 1 = .ok (.iconst (0), 1) := by decide +kernel
theorem d_AckBookLaw_look_2 : decode c_AckBookLaw_look 2 = .ok (.aload_n 0, 1) := by decide +kernel
theorem d_AckBookLaw_look_3 : decode c_AckBookLaw_look 3 = .ok (.iload_n 1, 1) := by decide +kernel
theorem d_AckBookLaw_look_4 : decode c_AckBookLaw_look 4 = .ok (.invokevirtual 54, 3) := by decide +kernel
theorem d_AckBookLaw_look_7 : decode c_AckBookLaw_look 7 = .ok (.i2l, 1) := by decide +kernel
theorem d_AckBookLaw_look_8 : decode c_AckBookLaw_look 8 = .ok (.lastore, 1) := by decide +kernel
theorem d_AckBookLaw_look_9 : decode c_AckBookLaw_look 9 = .ok (.goto (6), 3) := by decide +kernel
theorem d_AckBookLaw_look_15 : decode c_AckBookLaw_look 15 = .ok (.iconst (0), 1) := by decide +kernel
theorem d_AckBookLaw_look_16 : decode c_AckBookLaw_look 16 = .ok (.ireturn, 1) := by decide +kernel
theorem d_AckBookLaw_look_12 : decode c_AckBookLaw_look 12 = .ok (.astore_n 3, 1) := by decide +kernel
theorem d_AckBookLaw_look_13 : decode c_AckBookLaw_look 13 = .ok (.iconst (1), 1) := by decide +kernel
theorem d_AckBookLaw_look_14 : decode c_AckBookLaw_look 14 = .ok (.ireturn, 1) := by decide +kernel
theorem d_AckBook_space_0 : decode c_AckBook_space 0 = .ok (.aload_n 0, 1) := by decide +kernel
theorem d_AckBook_space_1 : decode c_AckBook_space 1 = .ok (.iload_n 1, 1) := by decide +kernel
theorem d_AckBook_space_2 : decode c_AckBook_space 2 = .ok (.invokevirtual 39, 3) := by decide +kernel
theorem d_AckBook_space_5 : decode c_AckBook_space 5 = .ok (.astore_n 3, 1) := by decide +kernel
theorem d_AckBook_space_6 : decode c_AckBook_space 6 = .ok (.iload_n 2, 1) := by decide +kernel
theorem d_AckBook_space_7 : decode c_AckBook_space 7 = .ok (.tableswitch (155) (0) (10) #[57, 66, 75, 84, 91, 100, 109, 118, 127, 134, 147], 57) := by decide +kernel
theorem d_AckBook_space_64 : decode c_AckBook_space 64 = .ok (.aload_n 3, 1) := by decide +kernel
theorem d_AckBook_space_65 : decode c_AckBook_space 65 = .ok (.getfield 56, 3) := by decide +kernel
theorem d_AckBook_space_68 : decode c_AckBook_space 68 = .ok (.invokevirtual 60, 3) := by decide +kernel
theorem d_AckBook_space_71 : decode c_AckBook_space 71 = .ok (.i2l, 1) := by decide +kernel
theorem d_AckBook_space_72 : decode c_AckBook_space 72 = .ok (.lreturn, 1) := by decide +kernel
theorem d_AckBook_space_73 : decode c_AckBook_space 73 = .ok (.aload_n 3, 1) := by decide +kernel
theorem d_AckBook_space_74 : decode c_AckBook_space 74 = .ok (.getfield 56, 3) := by decide +kernel
theorem d_AckBook_space_77 : decode c_AckBook_space 77 = .ok (.getfield 251, 3) := by decide +kernel
theorem d_AckBook_space_80 : decode c_AckBook_space 80 = .ok (.i2l, 1) := by decide +kernel
theorem d_AckBook_space_81 : decode c_AckBook_space 81 = .ok (.lreturn, 1) := by decide +kernel
theorem d_AckBook_space_82 : decode c_AckBook_space 82 = .ok (.aload_n 3, 1) := by decide +kernel
theorem d_AckBook_space_83 : decode c_AckBook_space 83 = .ok (.getfield 56, 3) := by decide +kernel
theorem d_AckBook_space_86 : decode c_AckBook_space 86 = .ok (.getfield 254, 3) := by decide +kernel
theorem d_AckBook_space_89 : decode c_AckBook_space 89 = .ok (.i2l, 1) := by decide +kernel
theorem d_AckBook_space_90 : decode c_AckBook_space 90 = .ok (.lreturn, 1) := by decide +kernel
theorem d_AckBook_space_91 : decode c_AckBook_space 91 = .ok (.aload_n 0, 1) := by decide +kernel
theorem d_AckBook_space_92 : decode c_AckBook_space 92 = .ok (.aload_n 3, 1) := by decide +kernel
theorem d_AckBook_space_93 : decode c_AckBook_space 93 = .ok (.invokevirtual 257, 3) := by decide +kernel
theorem d_AckBook_space_96 : decode c_AckBook_space 96 = .ok (.i2l, 1) := by decide +kernel
theorem d_AckBook_space_97 : decode c_AckBook_space 97 = .ok (.lreturn, 1) := by decide +kernel
theorem d_AckBook_space_98 : decode c_AckBook_space 98 = .ok (.aload_n 3, 1) := by decide +kernel
theorem d_AckBook_space_99 : decode c_AckBook_space 99 = .ok (.getfield 56, 3) := by decide +kernel
theorem d_AckBook_space_102 : decode c_AckBook_space 102 = .ok (.getfield 261, 3) := by decide +kernel
theorem d_AckBook_space_105 : decode c_AckBook_space 105 = .ok (.i2l, 1) := by decide +kernel
theorem d_AckBook_space_106 : decode c_AckBook_space 106 = .ok (.lreturn, 1) := by decide +kernel
theorem d_AckBook_space_107 : decode c_AckBook_space 107 = .ok (.aload_n 3, 1) := by decide +kernel
theorem d_AckBook_space_108 : decode c_AckBook_space 108 = .ok (.getfield 56, 3) := by decide +kernel
