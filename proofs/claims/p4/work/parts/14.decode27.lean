theorem d_AckBookModel_losses_16 : decode c_AckBookModel_losses 16 = .ok (.aload_n 0, 1) := by decide +kernel
theorem d_AckBookModel_losses_17 : decode c_AckBookModel_losses 17 = .ok (.getfield 38, 3) := by decide +kernel
theorem d_AckBookModel_losses_20 : decode c_AckBookModel_losses 20 = .ok (.iload_n 1, 1) := by decide +kernel
theorem d_AckBookModel_losses_21 : decode c_AckBookModel_losses 21 = .ok (.iconst (-1), 1) := by decide +kernel
theorem d_AckBookModel_losses_22 : decode c_AckBookModel_losses 22 = .ok (.iastore, 1) := by decide +kernel
theorem d_AckBookModel_losses_23 : decode c_AckBookModel_losses 23 = .ok (.iconst (0), 1) := by decide +kernel
theorem d_AckBookModel_losses_24 : decode c_AckBookModel_losses 24 = .ok (.istore 4, 2) := by decide +kernel
theorem d_AckBookModel_takes_154 : decode c_AckBookModel_takes 154 = .ok (.invokevirtual 167, 3) := by decide +kernel
theorem d_AckBookModel_takes_157 : decode c_AckBookModel_takes 157 = .ok (.iconst (0), 1) := by decide +kernel
theorem d_AckBookModel_takes_158 : decode c_AckBookModel_takes 158 = .ok (.istore 6, 2) := by decide +kernel
theorem d_AckBookModel_takes_33 : decode c_AckBookModel_takes 33 = .ok (.iload 6, 2) := by decide +kernel
theorem d_AckBookModel_takes_35 : decode c_AckBookModel_takes 35 = .ok (.aload_n 0, 1) := by decide +kernel
theorem d_AckBookModel_takes_36 : decode c_AckBookModel_takes 36 = .ok (.getfield 7, 3) := by decide +kernel
theorem d_AckBookModel_takes_39 : decode c_AckBookModel_takes 39 = .ok (.iload_n 1, 1) := by decide +kernel
theorem d_AckBookModel_takes_40 : decode c_AckBookModel_takes 40 = .ok (.iaload, 1) := by decide +kernel
theorem d_AckBookModel_takes_41 : decode c_AckBookModel_takes 41 = .ok (.if_icmp .ge (53), 3) := by decide +kernel
theorem d_AckBookModel_takes_94 : decode c_AckBookModel_takes 94 = .ok (.iload 4, 2) := by decide +kernel
theorem d_AckBookModel_takes_96 : decode c_AckBookModel_takes 96 = .ok (.ifCond .ne (5), 3) := by decide +kernel
theorem d_AckBookModel_takes_99 : decode c_AckBookModel_takes 99 = .ok (.iconst (0), 1) := by decide +kernel
theorem d_AckBookModel_takes_100 : decode c_AckBookModel_takes 100 = .ok (.ireturn, 1) := by decide +kernel
theorem d_AckBookModel_takes_101 : decode c_AckBookModel_takes 101 = .ok (.iload 5, 2) := by decide +kernel
theorem d_AckBookModel_takes_103 : decode c_AckBookModel_takes 103 = .ok (.ifCond .eq (54), 3) := by decide +kernel
theorem d_AckBookModel_takes_106 : decode c_AckBookModel_takes 106 = .ok (.aload_n 0, 1) := by decide +kernel
theorem d_AckBookModel_takes_107 : decode c_AckBookModel_takes 107 = .ok (.iload_n 1, 1) := by decide +kernel
theorem d_AckBookModel_takes_108 : decode c_AckBookModel_takes 108 = .ok (.iload_n 3, 1) := by decide +kernel
theorem d_AckBookModel_takes_109 : decode c_AckBookModel_takes 109 = .ok (.invokevirtual 164, 3) := by decide +kernel
theorem d_AckBookModel_takes_112 : decode c_AckBookModel_takes 112 = .ok (.ifCond .eq (45), 3) := by decide +kernel
theorem d_AckBookModel_takes_115 : decode c_AckBookModel_takes 115 = .ok (.aload_n 0, 1) := by decide +kernel
theorem d_AckBookModel_takes_116 : decode c_AckBookModel_takes 116 = .ok (.aload_n 0, 1) := by decide +kernel
theorem d_AckBookModel_takes_117 : decode c_AckBookModel_takes 117 = .ok (.getfield 150, 3) := by decide +kernel
theorem d_AckBookModel_takes_120 : decode c_AckBookModel_takes 120 = .ok (.aload_n 0, 1) := by decide +kernel
theorem d_AckBookModel_takes_121 : decode c_AckBookModel_takes 121 = .ok (.getfield 16, 3) := by decide +kernel
theorem d_AckBookModel_takes_124 : decode c_AckBookModel_takes 124 = .ok (.sipush (4096), 3) := by decide +kernel
theorem d_AckBookModel_takes_127 : decode c_AckBookModel_takes 127 = .ok (.iload_n 1, 1) := by decide +kernel
theorem d_AckBookModel_takes_128 : decode c_AckBookModel_takes 128 = .ok (.imul, 1) := by decide +kernel
theorem d_AckBookModel_takes_129 : decode c_AckBookModel_takes 129 = .ok (.iload_n 3, 1) := by decide +kernel
theorem d_AckBookModel_takes_130 : decode c_AckBookModel_takes 130 = .ok (.iadd, 1) := by decide +kernel
theorem d_AckBookModel_takes_131 : decode c_AckBookModel_takes 131 = .ok (.iaload, 1) := by decide +kernel
theorem d_AckBookModel_takes_132 : decode c_AckBookModel_takes 132 = .ok (.isub, 1) := by decide +kernel
theorem d_AckBookModel_takes_133 : decode c_AckBookModel_takes 133 = .ok (.iload_n 1, 1) := by decide +kernel
theorem d_AckBookModel_takes_134 : decode c_AckBookModel_takes 134 = .ok (.iconst (2), 1) := by decide +kernel
theorem d_AckBookModel_takes_135 : decode c_AckBookModel_takes 135 = .ok (.if_icmp .ge (7), 3) := by decide +kernel
theorem d_AckBookModel_takes_142 : decode c_AckBookModel_takes 142 = .ok (.iload_n 2, 1) := by decide +kernel
theorem d_AckBookModel_takes_143 : decode c_AckBookModel_takes 143 = .ok (.bipush (25), 2) := by decide +kernel
theorem d_AckBookModel_takes_145 : decode c_AckBookModel_takes 145 = .ok (.if_icmp .le (8), 3) := by decide +kernel
theorem d_AckBookModel_takes_153 : decode c_AckBookModel_takes 153 = .ok (.iload_n 2, 1) := by decide +kernel
theorem d_AckBookModel_takes_148 : decode c_AckBookModel_takes 148 = .ok (.bipush (25), 2) := by decide +kernel
theorem d_AckBookModel_takes_150 : decode c_AckBookModel_takes 150 = .ok (.goto (4), 3) := by decide +kernel
theorem d_AckBookModel_takes_138 : decode c_AckBookModel_takes 138 = .ok (.iconst (0), 1) := by decide +kernel
theorem d_AckBookModel_takes_139 : decode c_AckBookModel_takes 139 = .ok (.goto (15), 3) := by decide +kernel
theorem d_AckBookModel_takes_44 : decode c_AckBookModel_takes 44 = .ok (.aload_n 0, 1) := by decide +kernel
theorem d_AckBookModel_takes_45 : decode c_AckBookModel_takes 45 = .ok (.iload_n 1, 1) := by decide +kernel
theorem d_AckBookModel_takes_46 : decode c_AckBookModel_takes 46 = .ok (.iload 6, 2) := by decide +kernel
theorem d_AckBookModel_takes_48 : decode c_AckBookModel_takes 48 = .ok (.invokevirtual 164, 3) := by decide +kernel
theorem d_AckBookModel_takes_51 : decode c_AckBookModel_takes 51 = .ok (.ifCond .ne (6), 3) := by decide +kernel
theorem d_AckBookModel_takes_54 : decode c_AckBookModel_takes 54 = .ok (.goto (34), 3) := by decide +kernel
theorem d_AckBookModel_takes_88 : decode c_AckBookModel_takes 88 = .ok (.iinc 6 (1), 3) := by decide +kernel
theorem d_AckBookModel_takes_91 : decode c_AckBookModel_takes 91 = .ok (.goto (-58), 3) := by decide +kernel
theorem d_AckBookModel_takes_57 : decode c_AckBookModel_takes 57 = .ok (.iinc 4 (1), 3) := by decide +kernel
theorem d_AckBookModel_takes_60 : decode c_AckBookModel_takes 60 = .ok (.iload 5, 2) := by decide +kernel
theorem d_AckBookModel_takes_62 : decode c_AckBookModel_takes 62 = .ok (.ifCond .ne (19), 3) := by decide +kernel
theorem d_AckBookModel_takes_65 : decode c_AckBookModel_takes 65 = .ok (.aload_n 0, 1) := by decide +kernel
theorem d_AckBookModel_takes_66 : decode c_AckBookModel_takes 66 = .ok (.getfield 22, 3) := by decide +kernel
theorem d_AckBookModel_takes_69 : decode c_AckBookModel_takes 69 = .ok (.sipush (4096), 3) := by decide +kernel
theorem d_AckBookModel_takes_72 : decode c_AckBookModel_takes 72 = .ok (.iload_n 1, 1) := by decide +kernel
theorem d_AckBookModel_takes_73 : decode c_AckBookModel_takes 73 = .ok (.imul, 1) := by decide +kernel
theorem d_AckBookModel_takes_74 : decode c_AckBookModel_takes 74 = .ok (.iload 6, 2) := by decide +kernel
theorem d_AckBookModel_takes_76 : decode c_AckBookModel_takes 76 = .ok (.iadd, 1) := by decide +kernel
theorem d_AckBookModel_takes_77 : decode c_AckBookModel_takes 77 = .ok (.baload, 1) := by decide +kernel
theorem d_AckBookModel_takes_78 : decode c_AckBookModel_takes 78 = .ok (.ifCond .eq (7), 3) := by decide +kernel
theorem d_AckBookModel_takes_85 : decode c_AckBookModel_takes 85 = .ok (.iconst (0), 1) := by decide +kernel
theorem d_AckBookModel_takes_86 : decode c_AckBookModel_takes 86 = .ok (.istore 5, 2) := by decide +kernel
theorem d_AckBookModel_takes_81 : decode c_AckBookModel_takes 81 = .ok (.iconst (1), 1) := by decide +kernel
theorem d_AckBookModel_takes_82 : decode c_AckBookModel_takes 82 = .ok (.goto (4), 3) := by decide +kernel
theorem d_AckBookModel_takes_160 : decode c_AckBookModel_takes 160 = .ok (.iload 6, 2) := by decide +kernel
theorem d_AckBookModel_takes_162 : decode c_AckBookModel_takes 162 = .ok (.aload_n 0, 1) := by decide +kernel
theorem d_AckBookModel_takes_163 : decode c_AckBookModel_takes 163 = .ok (.getfield 7, 3) := by decide +kernel
theorem d_AckBookModel_takes_166 : decode c_AckBookModel_takes 166 = .ok (.iload_n 1, 1) := by decide +kernel
theorem d_AckBookModel_takes_167 : decode c_AckBookModel_takes 167 = .ok (.iaload, 1) := by decide +kernel
theorem d_AckBookModel_takes_168 : decode c_AckBookModel_takes 168 = .ok (.if_icmp .ge (42), 3) := by decide +kernel
theorem d_AckBookModel_takes_210 : decode c_AckBookModel_takes 210 = .ok (.aload_n 0, 1) := by decide +kernel
theorem d_AckBookModel_takes_211 : decode c_AckBookModel_takes 211 = .ok (.iload_n 1, 1) := by decide +kernel
theorem d_AckBookModel_takes_212 : decode c_AckBookModel_takes 212 = .ok (.invokevirtual 179, 3) := by decide +kernel
theorem d_AckBookModel_takes_215 : decode c_AckBookModel_takes 215 = .ok (.aload_n 0, 1) := by decide +kernel
theorem d_AckBookModel_takes_216 : decode c_AckBookModel_takes 216 = .ok (.iconst (0), 1) := by decide +kernel
theorem d_AckBookModel_takes_217 : decode c_AckBookModel_takes 217 = .ok (.putfield 129, 3) := by decide +kernel
theorem d_AckBookModel_takes_220 : decode c_AckBookModel_takes 220 = .ok (.iload 4, 2) := by decide +kernel
theorem d_AckBookModel_takes_222 : decode c_AckBookModel_takes 222 = .ok (.ireturn, 1) := by decide +kernel
theorem d_AckBookModel_takes_171 : decode c_AckBookModel_takes 171 = .ok (.aload_n 0, 1) := by decide +kernel
theorem d_AckBookModel_takes_172 : decode c_AckBookModel_takes 172 = .ok (.iload_n 1, 1) := by decide +kernel
theorem d_AckBookModel_takes_173 : decode c_AckBookModel_takes 173 = .ok (.iload 6, 2) := by decide +kernel
theorem d_AckBookModel_takes_175 : decode c_AckBookModel_takes 175 = .ok (.invokevirtual 164, 3) := by decide +kernel
theorem d_AckBookModel_takes_178 : decode c_AckBookModel_takes 178 = .ok (.ifCond .ne (6), 3) := by decide +kernel
theorem d_AckBookModel_takes_181 : decode c_AckBookModel_takes 181 = .ok (.goto (23), 3) := by decide +kernel
theorem d_AckBookModel_takes_204 : decode c_AckBookModel_takes 204 = .ok (.iinc 6 (1), 3) := by decide +kernel
theorem d_AckBookModel_takes_207 : decode c_AckBookModel_takes 207 = .ok (.goto (-47), 3) := by decide +kernel
theorem d_AckBookModel_takes_184 : decode c_AckBookModel_takes 184 = .ok (.aload_n 0, 1) := by decide +kernel
theorem d_AckBookModel_takes_185 : decode c_AckBookModel_takes 185 = .ok (.iload_n 1, 1) := by decide +kernel
theorem d_AckBookModel_takes_186 : decode c_AckBookModel_takes 186 = .ok (.iload 6, 2) := by decide +kernel
theorem d_AckBookModel_takes_188 : decode c_AckBookModel_takes 188 = .ok (.iconst (1), 1) := by decide +kernel
theorem d_AckBookModel_takes_189 : decode c_AckBookModel_takes 189 = .ok (.invokevirtual 171, 3) := by decide +kernel
theorem d_AckBookModel_takes_192 : decode c_AckBookModel_takes 192 = .ok (.aload_n 0, 1) := by decide +kernel
theorem d_AckBookModel_takes_193 : decode c_AckBookModel_takes 193 = .ok (.sipush (4096), 3) := by decide +kernel
theorem d_AckBookModel_takes_196 : decode c_AckBookModel_takes 196 = .ok (.iload_n 1, 1) := by decide +kernel
theorem d_AckBookModel_takes_197 : decode c_AckBookModel_takes 197 = .ok (.imul, 1) := by decide +kernel
theorem d_AckBookModel_takes_198 : decode c_AckBookModel_takes 198 = .ok (.iload 6, 2) := by decide +kernel
theorem d_AckBookModel_takes_200 : decode c_AckBookModel_takes 200 = .ok (.iadd, 1) := by decide +kernel
theorem d_AckBookModel_takes_201 : decode c_AckBookModel_takes 201 = .ok (.invokevirtual 175, 3) := by decide +kernel
theorem d_AckBookModel_takes_0 : decode c_AckBookModel_takes 0 = .ok (.aload_n 0, 1) := by decide +kernel
theorem d_AckBookModel_takes_1 : decode c_AckBookModel_takes 1 = .ok (.getfield 76, 3) := by decide +kernel
theorem d_AckBookModel_takes_4 : decode c_AckBookModel_takes 4 = .ok (.iconst (0), 1) := by decide +kernel
theorem d_AckBookModel_takes_5 : decode c_AckBookModel_takes 5 = .ok (.laload, 1) := by decide +kernel
theorem d_AckBookModel_takes_6 : decode c_AckBookModel_takes 6 = .ok (.l2i, 1) := by decide +kernel
theorem d_AckBookModel_takes_7 : decode c_AckBookModel_takes 7 = .ok (.istore_n 3, 1) := by decide +kernel
theorem d_AckBookModel_takes_8 : decode c_AckBookModel_takes 8 = .ok (.aload_n 0, 1) := by decide +kernel
theorem d_AckBookModel_takes_9 : decode c_AckBookModel_takes 9 = .ok (.getfield 35, 3) := by decide +kernel
theorem d_AckBookModel_takes_12 : decode c_AckBookModel_takes 12 = .ok (.iload_n 1, 1) := by decide +kernel
theorem d_AckBookModel_takes_13 : decode c_AckBookModel_takes 13 = .ok (.aload_n 0, 1) := by decide +kernel
theorem d_AckBookModel_takes_14 : decode c_AckBookModel_takes 14 = .ok (.getfield 35, 3) := by decide +kernel
theorem d_AckBookModel_takes_17 : decode c_AckBookModel_takes 17 = .ok (.iload_n 1, 1) := by decide +kernel
