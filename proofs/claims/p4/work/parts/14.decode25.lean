theorem d_AckBookModel_persists_60 : decode c_AckBookModel_persists 60 = .ok (.iadd, 1) := by decide +kernel
theorem d_AckBookModel_persists_61 : decode c_AckBookModel_persists 61 = .ok (.baload, 1) := by decide +kernel
theorem d_AckBookModel_persists_62 : decode c_AckBookModel_persists 62 = .ok (.ifCond .eq (41), 3) := by decide +kernel
theorem d_AckBookModel_persists_65 : decode c_AckBookModel_persists 65 = .ok (.aload_n 0, 1) := by decide +kernel
theorem d_AckBookModel_persists_66 : decode c_AckBookModel_persists 66 = .ok (.getfield 16, 3) := by decide +kernel
theorem d_AckBookModel_persists_69 : decode c_AckBookModel_persists 69 = .ok (.sipush (4096), 3) := by decide +kernel
theorem d_AckBookModel_persists_72 : decode c_AckBookModel_persists 72 = .ok (.iload_n 1, 1) := by decide +kernel
theorem d_AckBookModel_persists_73 : decode c_AckBookModel_persists 73 = .ok (.imul, 1) := by decide +kernel
theorem d_AckBookModel_persists_74 : decode c_AckBookModel_persists 74 = .ok (.iload 6, 2) := by decide +kernel
theorem d_AckBookModel_persists_76 : decode c_AckBookModel_persists 76 = .ok (.iadd, 1) := by decide +kernel
theorem d_AckBookModel_persists_77 : decode c_AckBookModel_persists 77 = .ok (.iaload, 1) := by decide +kernel
theorem d_AckBookModel_persists_78 : decode c_AckBookModel_persists 78 = .ok (.aload_n 0, 1) := by decide +kernel
theorem d_AckBookModel_persists_79 : decode c_AckBookModel_persists 79 = .ok (.getfield 60, 3) := by decide +kernel
theorem d_AckBookModel_persists_82 : decode c_AckBookModel_persists 82 = .ok (.if_icmp .gt (6), 3) := by decide +kernel
theorem d_AckBookModel_persists_88 : decode c_AckBookModel_persists 88 = .ok (.iload_n 3, 1) := by decide +kernel
theorem d_AckBookModel_persists_89 : decode c_AckBookModel_persists 89 = .ok (.ifCond .ge (8), 3) := by decide +kernel
theorem d_AckBookModel_persists_97 : decode c_AckBookModel_persists 97 = .ok (.iload_n 3, 1) := by decide +kernel
theorem d_AckBookModel_persists_98 : decode c_AckBookModel_persists 98 = .ok (.istore_n 3, 1) := by decide +kernel
theorem d_AckBookModel_persists_99 : decode c_AckBookModel_persists 99 = .ok (.iload 6, 2) := by decide +kernel
theorem d_AckBookModel_persists_101 : decode c_AckBookModel_persists 101 = .ok (.istore 4, 2) := by decide +kernel
theorem d_AckBookModel_persists_92 : decode c_AckBookModel_persists 92 = .ok (.iload 6, 2) := by decide +kernel
theorem d_AckBookModel_persists_94 : decode c_AckBookModel_persists 94 = .ok (.goto (4), 3) := by decide +kernel
theorem d_AckBookModel_persists_85 : decode c_AckBookModel_persists 85 = .ok (.goto (18), 3) := by decide +kernel
theorem d_AckBookModel_persists_120 : decode c_AckBookModel_persists 120 = .ok (.iload 6, 2) := by decide +kernel
theorem d_AckBookModel_persists_122 : decode c_AckBookModel_persists 122 = .ok (.iload 4, 2) := by decide +kernel
theorem d_AckBookModel_persists_124 : decode c_AckBookModel_persists 124 = .ok (.if_icmp .ge (38), 3) := by decide +kernel
theorem d_AckBookModel_persists_162 : decode c_AckBookModel_persists 162 = .ok (.iconst (3), 1) := by decide +kernel
theorem d_AckBookModel_persists_163 : decode c_AckBookModel_persists 163 = .ok (.aload_n 0, 1) := by decide +kernel
theorem d_AckBookModel_persists_164 : decode c_AckBookModel_persists 164 = .ok (.getfield 50, 3) := by decide +kernel
theorem d_AckBookModel_persists_167 : decode c_AckBookModel_persists 167 = .ok (.bipush (8), 2) := by decide +kernel
theorem d_AckBookModel_persists_169 : decode c_AckBookModel_persists 169 = .ok (.idiv, 1) := by decide +kernel
theorem d_AckBookModel_persists_170 : decode c_AckBookModel_persists 170 = .ok (.aload_n 0, 1) := by decide +kernel
theorem d_AckBookModel_persists_171 : decode c_AckBookModel_persists 171 = .ok (.getfield 54, 3) := by decide +kernel
theorem d_AckBookModel_persists_174 : decode c_AckBookModel_persists 174 = .ok (.iconst (1), 1) := by decide +kernel
theorem d_AckBookModel_persists_175 : decode c_AckBookModel_persists 175 = .ok (.invokestatic 110, 3) := by decide +kernel
theorem d_AckBookModel_persists_178 : decode c_AckBookModel_persists 178 = .ok (.iadd, 1) := by decide +kernel
theorem d_AckBookModel_persists_179 : decode c_AckBookModel_persists 179 = .ok (.bipush (25), 2) := by decide +kernel
theorem d_AckBookModel_persists_181 : decode c_AckBookModel_persists 181 = .ok (.iadd, 1) := by decide +kernel
theorem d_AckBookModel_persists_182 : decode c_AckBookModel_persists 182 = .ok (.imul, 1) := by decide +kernel
theorem d_AckBookModel_persists_183 : decode c_AckBookModel_persists 183 = .ok (.istore 6, 2) := by decide +kernel
theorem d_AckBookModel_persists_185 : decode c_AckBookModel_persists 185 = .ok (.iload 5, 2) := by decide +kernel
theorem d_AckBookModel_persists_187 : decode c_AckBookModel_persists 187 = .ok (.ifCond .ne (34), 3) := by decide +kernel
theorem d_AckBookModel_persists_190 : decode c_AckBookModel_persists 190 = .ok (.aload_n 0, 1) := by decide +kernel
theorem d_AckBookModel_persists_191 : decode c_AckBookModel_persists 191 = .ok (.getfield 16, 3) := by decide +kernel
theorem d_AckBookModel_persists_194 : decode c_AckBookModel_persists 194 = .ok (.sipush (4096), 3) := by decide +kernel
theorem d_AckBookModel_persists_197 : decode c_AckBookModel_persists 197 = .ok (.iload_n 1, 1) := by decide +kernel
theorem d_AckBookModel_persists_198 : decode c_AckBookModel_persists 198 = .ok (.imul, 1) := by decide +kernel
theorem d_AckBookModel_persists_199 : decode c_AckBookModel_persists 199 = .ok (.iload 4, 2) := by decide +kernel
theorem d_AckBookModel_persists_201 : decode c_AckBookModel_persists 201 = .ok (.iadd, 1) := by decide +kernel
theorem d_AckBookModel_persists_202 : decode c_AckBookModel_persists 202 = .ok (.iaload, 1) := by decide +kernel
theorem d_AckBookModel_persists_203 : decode c_AckBookModel_persists 203 = .ok (.aload_n 0, 1) := by decide +kernel
theorem d_AckBookModel_persists_204 : decode c_AckBookModel_persists 204 = .ok (.getfield 16, 3) := by decide +kernel
theorem d_AckBookModel_persists_207 : decode c_AckBookModel_persists 207 = .ok (.sipush (4096), 3) := by decide +kernel
theorem d_AckBookModel_persists_210 : decode c_AckBookModel_persists 210 = .ok (.iload_n 1, 1) := by decide +kernel
theorem d_AckBookModel_persists_211 : decode c_AckBookModel_persists 211 = .ok (.imul, 1) := by decide +kernel
theorem d_AckBookModel_persists_212 : decode c_AckBookModel_persists 212 = .ok (.iload_n 3, 1) := by decide +kernel
theorem d_AckBookModel_persists_213 : decode c_AckBookModel_persists 213 = .ok (.iadd, 1) := by decide +kernel
theorem d_AckBookModel_persists_214 : decode c_AckBookModel_persists 214 = .ok (.iaload, 1) := by decide +kernel
theorem d_AckBookModel_persists_215 : decode c_AckBookModel_persists 215 = .ok (.isub, 1) := by decide +kernel
theorem d_AckBookModel_persists_216 : decode c_AckBookModel_persists 216 = .ok (.iload 6, 2) := by decide +kernel
theorem d_AckBookModel_persists_218 : decode c_AckBookModel_persists 218 = .ok (.if_icmp .gt (4), 3) := by decide +kernel
theorem d_AckBookModel_persists_222 : decode c_AckBookModel_persists 222 = .ok (.aload_n 0, 1) := by decide +kernel
theorem d_AckBookModel_persists_223 : decode c_AckBookModel_persists 223 = .ok (.sipush (2400), 3) := by decide +kernel
theorem d_AckBookModel_persists_226 : decode c_AckBookModel_persists 226 = .ok (.putfield 63, 3) := by decide +kernel
theorem d_AckBookModel_persists_229 : decode c_AckBookModel_persists 229 = .ok (.aload_n 0, 1) := by decide +kernel
theorem d_AckBookModel_persists_230 : decode c_AckBookModel_persists 230 = .ok (.iconst (-1), 1) := by decide +kernel
theorem d_AckBookModel_persists_231 : decode c_AckBookModel_persists 231 = .ok (.putfield 69, 3) := by decide +kernel
theorem d_AckBookModel_persists_234 : decode c_AckBookModel_persists 234 = .ok (.return_, 1) := by decide +kernel
theorem d_AckBookModel_persists_221 : decode c_AckBookModel_persists 221 = .ok (.return_, 1) := by decide +kernel
theorem d_AckBookModel_persists_127 : decode c_AckBookModel_persists 127 = .ok (.iload 5, 2) := by decide +kernel
theorem d_AckBookModel_persists_129 : decode c_AckBookModel_persists 129 = .ok (.ifCond .ne (20), 3) := by decide +kernel
theorem d_AckBookModel_persists_132 : decode c_AckBookModel_persists 132 = .ok (.aload_n 0, 1) := by decide +kernel
theorem d_AckBookModel_persists_133 : decode c_AckBookModel_persists 133 = .ok (.getfield 19, 3) := by decide +kernel
theorem d_AckBookModel_persists_136 : decode c_AckBookModel_persists 136 = .ok (.sipush (4096), 3) := by decide +kernel
theorem d_AckBookModel_persists_139 : decode c_AckBookModel_persists 139 = .ok (.iload_n 1, 1) := by decide +kernel
theorem d_AckBookModel_persists_140 : decode c_AckBookModel_persists 140 = .ok (.imul, 1) := by decide +kernel
theorem d_AckBookModel_persists_141 : decode c_AckBookModel_persists 141 = .ok (.iload 6, 2) := by decide +kernel
theorem d_AckBookModel_persists_143 : decode c_AckBookModel_persists 143 = .ok (.iadd, 1) := by decide +kernel
theorem d_AckBookModel_persists_144 : decode c_AckBookModel_persists 144 = .ok (.iaload, 1) := by decide +kernel
theorem d_AckBookModel_persists_145 : decode c_AckBookModel_persists 145 = .ok (.iconst (1), 1) := by decide +kernel
theorem d_AckBookModel_persists_146 : decode c_AckBookModel_persists 146 = .ok (.if_icmp .ne (7), 3) := by decide +kernel
theorem d_AckBookModel_persists_149 : decode c_AckBookModel_persists 149 = .ok (.iconst (1), 1) := by decide +kernel
theorem d_AckBookModel_persists_150 : decode c_AckBookModel_persists 150 = .ok (.goto (4), 3) := by decide +kernel
theorem d_AckBookModel_persists_154 : decode c_AckBookModel_persists 154 = .ok (.istore 5, 2) := by decide +kernel
theorem d_AckBookModel_persists_156 : decode c_AckBookModel_persists 156 = .ok (.iinc 6 (1), 3) := by decide +kernel
theorem d_AckBookModel_persists_159 : decode c_AckBookModel_persists 159 = .ok (.goto (-39), 3) := by decide +kernel
theorem d_AckBookModel_persists_153 : decode c_AckBookModel_persists 153 = .ok (.iconst (0), 1) := by decide +kernel
theorem d_AckBookModel_persists_0 : decode c_AckBookModel_persists 0 = .ok (.iconst (-1), 1) := by decide +kernel
theorem d_AckBookModel_persists_1 : decode c_AckBookModel_persists 1 = .ok (.istore_n 3, 1) := by decide +kernel
theorem d_AckBookModel_persists_2 : decode c_AckBookModel_persists 2 = .ok (.iconst (-1), 1) := by decide +kernel
theorem d_AckBookModel_persists_3 : decode c_AckBookModel_persists 3 = .ok (.istore 4, 2) := by decide +kernel
theorem d_AckBookModel_persists_5 : decode c_AckBookModel_persists 5 = .ok (.iload_n 2, 1) := by decide +kernel
theorem d_AckBookModel_persists_6 : decode c_AckBookModel_persists 6 = .ok (.istore 5, 2) := by decide +kernel
theorem d_AckBookModel_losses_263 : decode c_AckBookModel_losses 263 = .ok (.aload_n 0, 1) := by decide +kernel
theorem d_AckBookModel_losses_264 : decode c_AckBookModel_losses 264 = .ok (.iload_n 1, 1) := by decide +kernel
theorem d_AckBookModel_losses_265 : decode c_AckBookModel_losses 265 = .ok (.iload_n 2, 1) := by decide +kernel
theorem d_AckBookModel_losses_266 : decode c_AckBookModel_losses 266 = .ok (.invokevirtual 189, 3) := by decide +kernel
theorem d_AckBookModel_losses_269 : decode c_AckBookModel_losses 269 = .ok (.return_, 1) := by decide +kernel
theorem d_AckBookModel_losses_89 : decode c_AckBookModel_losses 89 = .ok (.aload_n 0, 1) := by decide +kernel
theorem d_AckBookModel_losses_90 : decode c_AckBookModel_losses 90 = .ok (.iload_n 1, 1) := by decide +kernel
theorem d_AckBookModel_losses_91 : decode c_AckBookModel_losses 91 = .ok (.iload 4, 2) := by decide +kernel
theorem d_AckBookModel_losses_93 : decode c_AckBookModel_losses 93 = .ok (.iconst (2), 1) := by decide +kernel
theorem d_AckBookModel_losses_94 : decode c_AckBookModel_losses 94 = .ok (.invokevirtual 171, 3) := by decide +kernel
theorem d_AckBookModel_losses_97 : decode c_AckBookModel_losses 97 = .ok (.goto (40), 3) := by decide +kernel
theorem d_AckBookModel_losses_137 : decode c_AckBookModel_losses 137 = .ok (.iinc 4 (1), 3) := by decide +kernel
theorem d_AckBookModel_losses_140 : decode c_AckBookModel_losses 140 = .ok (.goto (-114), 3) := by decide +kernel
theorem d_AckBookModel_losses_26 : decode c_AckBookModel_losses 26 = .ok (.iload 4, 2) := by decide +kernel
theorem d_AckBookModel_losses_28 : decode c_AckBookModel_losses 28 = .ok (.aload_n 0, 1) := by decide +kernel
theorem d_AckBookModel_losses_29 : decode c_AckBookModel_losses 29 = .ok (.getfield 35, 3) := by decide +kernel
theorem d_AckBookModel_losses_32 : decode c_AckBookModel_losses 32 = .ok (.iload_n 1, 1) := by decide +kernel
theorem d_AckBookModel_losses_33 : decode c_AckBookModel_losses 33 = .ok (.iaload, 1) := by decide +kernel
theorem d_AckBookModel_losses_34 : decode c_AckBookModel_losses 34 = .ok (.if_icmp .ge (109), 3) := by decide +kernel
theorem d_AckBookModel_losses_143 : decode c_AckBookModel_losses 143 = .ok (.iconst (0), 1) := by decide +kernel
theorem d_AckBookModel_losses_144 : decode c_AckBookModel_losses 144 = .ok (.istore 4, 2) := by decide +kernel
theorem d_AckBookModel_losses_146 : decode c_AckBookModel_losses 146 = .ok (.iload_n 2, 1) := by decide +kernel
theorem d_AckBookModel_losses_147 : decode c_AckBookModel_losses 147 = .ok (.istore 5, 2) := by decide +kernel
theorem d_AckBookModel_losses_37 : decode c_AckBookModel_losses 37 = .ok (.aload_n 0, 1) := by decide +kernel
theorem d_AckBookModel_losses_38 : decode c_AckBookModel_losses 38 = .ok (.iload_n 1, 1) := by decide +kernel
theorem d_AckBookModel_losses_39 : decode c_AckBookModel_losses 39 = .ok (.iload 4, 2) := by decide +kernel
theorem d_AckBookModel_losses_41 : decode c_AckBookModel_losses 41 = .ok (.invokevirtual 106, 3) := by decide +kernel
