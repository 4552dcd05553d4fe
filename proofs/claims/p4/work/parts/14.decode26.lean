theorem d_AckBookModel_losses_44 : decode c_AckBookModel_losses 44 = .ok (.ifCond .ne (6), 3) := by decide +kernel
theorem d_AckBookModel_losses_47 : decode c_AckBookModel_losses 47 = .ok (.goto (90), 3) := by decide +kernel
theorem d_AckBookModel_losses_50 : decode c_AckBookModel_losses 50 = .ok (.aload_n 0, 1) := by decide +kernel
theorem d_AckBookModel_losses_51 : decode c_AckBookModel_losses 51 = .ok (.getfield 16, 3) := by decide +kernel
theorem d_AckBookModel_losses_54 : decode c_AckBookModel_losses 54 = .ok (.sipush (4096), 3) := by decide +kernel
theorem d_AckBookModel_losses_57 : decode c_AckBookModel_losses 57 = .ok (.iload_n 1, 1) := by decide +kernel
theorem d_AckBookModel_losses_58 : decode c_AckBookModel_losses 58 = .ok (.imul, 1) := by decide +kernel
theorem d_AckBookModel_losses_59 : decode c_AckBookModel_losses 59 = .ok (.iload 4, 2) := by decide +kernel
theorem d_AckBookModel_losses_61 : decode c_AckBookModel_losses 61 = .ok (.iadd, 1) := by decide +kernel
theorem d_AckBookModel_losses_62 : decode c_AckBookModel_losses 62 = .ok (.iaload, 1) := by decide +kernel
theorem d_AckBookModel_losses_63 : decode c_AckBookModel_losses 63 = .ok (.iload_n 3, 1) := by decide +kernel
theorem d_AckBookModel_losses_64 : decode c_AckBookModel_losses 64 = .ok (.iadd, 1) := by decide +kernel
theorem d_AckBookModel_losses_65 : decode c_AckBookModel_losses 65 = .ok (.istore 5, 2) := by decide +kernel
theorem d_AckBookModel_losses_67 : decode c_AckBookModel_losses 67 = .ok (.iload 4, 2) := by decide +kernel
theorem d_AckBookModel_losses_69 : decode c_AckBookModel_losses 69 = .ok (.aload_n 0, 1) := by decide +kernel
theorem d_AckBookModel_losses_70 : decode c_AckBookModel_losses 70 = .ok (.getfield 35, 3) := by decide +kernel
theorem d_AckBookModel_losses_73 : decode c_AckBookModel_losses 73 = .ok (.iload_n 1, 1) := by decide +kernel
theorem d_AckBookModel_losses_74 : decode c_AckBookModel_losses 74 = .ok (.iaload, 1) := by decide +kernel
theorem d_AckBookModel_losses_75 : decode c_AckBookModel_losses 75 = .ok (.iconst (3), 1) := by decide +kernel
theorem d_AckBookModel_losses_76 : decode c_AckBookModel_losses 76 = .ok (.isub, 1) := by decide +kernel
theorem d_AckBookModel_losses_77 : decode c_AckBookModel_losses 77 = .ok (.if_icmp .le (12), 3) := by decide +kernel
theorem d_AckBookModel_losses_80 : decode c_AckBookModel_losses 80 = .ok (.iload 5, 2) := by decide +kernel
theorem d_AckBookModel_losses_82 : decode c_AckBookModel_losses 82 = .ok (.aload_n 0, 1) := by decide +kernel
theorem d_AckBookModel_losses_83 : decode c_AckBookModel_losses 83 = .ok (.getfield 150, 3) := by decide +kernel
theorem d_AckBookModel_losses_86 : decode c_AckBookModel_losses 86 = .ok (.if_icmp .gt (14), 3) := by decide +kernel
theorem d_AckBookModel_losses_100 : decode c_AckBookModel_losses 100 = .ok (.aload_n 0, 1) := by decide +kernel
theorem d_AckBookModel_losses_101 : decode c_AckBookModel_losses 101 = .ok (.getfield 38, 3) := by decide +kernel
theorem d_AckBookModel_losses_104 : decode c_AckBookModel_losses 104 = .ok (.iload_n 1, 1) := by decide +kernel
theorem d_AckBookModel_losses_105 : decode c_AckBookModel_losses 105 = .ok (.aload_n 0, 1) := by decide +kernel
theorem d_AckBookModel_losses_106 : decode c_AckBookModel_losses 106 = .ok (.getfield 38, 3) := by decide +kernel
theorem d_AckBookModel_losses_109 : decode c_AckBookModel_losses 109 = .ok (.iload_n 1, 1) := by decide +kernel
theorem d_AckBookModel_losses_110 : decode c_AckBookModel_losses 110 = .ok (.iaload, 1) := by decide +kernel
theorem d_AckBookModel_losses_111 : decode c_AckBookModel_losses 111 = .ok (.ifCond .lt (14), 3) := by decide +kernel
theorem d_AckBookModel_losses_125 : decode c_AckBookModel_losses 125 = .ok (.iload 5, 2) := by decide +kernel
theorem d_AckBookModel_losses_127 : decode c_AckBookModel_losses 127 = .ok (.goto (9), 3) := by decide +kernel
theorem d_AckBookModel_losses_136 : decode c_AckBookModel_losses 136 = .ok (.iastore, 1) := by decide +kernel
theorem d_AckBookModel_losses_114 : decode c_AckBookModel_losses 114 = .ok (.iload 5, 2) := by decide +kernel
theorem d_AckBookModel_losses_116 : decode c_AckBookModel_losses 116 = .ok (.aload_n 0, 1) := by decide +kernel
theorem d_AckBookModel_losses_117 : decode c_AckBookModel_losses 117 = .ok (.getfield 38, 3) := by decide +kernel
theorem d_AckBookModel_losses_120 : decode c_AckBookModel_losses 120 = .ok (.iload_n 1, 1) := by decide +kernel
theorem d_AckBookModel_losses_121 : decode c_AckBookModel_losses 121 = .ok (.iaload, 1) := by decide +kernel
theorem d_AckBookModel_losses_122 : decode c_AckBookModel_losses 122 = .ok (.if_icmp .ge (8), 3) := by decide +kernel
theorem d_AckBookModel_losses_130 : decode c_AckBookModel_losses 130 = .ok (.aload_n 0, 1) := by decide +kernel
theorem d_AckBookModel_losses_131 : decode c_AckBookModel_losses 131 = .ok (.getfield 38, 3) := by decide +kernel
theorem d_AckBookModel_losses_134 : decode c_AckBookModel_losses 134 = .ok (.iload_n 1, 1) := by decide +kernel
theorem d_AckBookModel_losses_135 : decode c_AckBookModel_losses 135 = .ok (.iaload, 1) := by decide +kernel
theorem d_AckBookModel_losses_149 : decode c_AckBookModel_losses 149 = .ok (.iload 5, 2) := by decide +kernel
theorem d_AckBookModel_losses_151 : decode c_AckBookModel_losses 151 = .ok (.aload_n 0, 1) := by decide +kernel
theorem d_AckBookModel_losses_152 : decode c_AckBookModel_losses 152 = .ok (.getfield 44, 3) := by decide +kernel
theorem d_AckBookModel_losses_155 : decode c_AckBookModel_losses 155 = .ok (.iconst (2), 1) := by decide +kernel
theorem d_AckBookModel_losses_156 : decode c_AckBookModel_losses 156 = .ok (.iload_n 1, 1) := by decide +kernel
theorem d_AckBookModel_losses_157 : decode c_AckBookModel_losses 157 = .ok (.imul, 1) := by decide +kernel
theorem d_AckBookModel_losses_158 : decode c_AckBookModel_losses 158 = .ok (.iconst (1), 1) := by decide +kernel
theorem d_AckBookModel_losses_159 : decode c_AckBookModel_losses 159 = .ok (.iadd, 1) := by decide +kernel
theorem d_AckBookModel_losses_160 : decode c_AckBookModel_losses 160 = .ok (.iaload, 1) := by decide +kernel
theorem d_AckBookModel_losses_161 : decode c_AckBookModel_losses 161 = .ok (.if_icmp .ge (65), 3) := by decide +kernel
theorem d_AckBookModel_losses_226 : decode c_AckBookModel_losses 226 = .ok (.iload 4, 2) := by decide +kernel
theorem d_AckBookModel_losses_228 : decode c_AckBookModel_losses 228 = .ok (.ifCond .eq (35), 3) := by decide +kernel
theorem d_AckBookModel_losses_231 : decode c_AckBookModel_losses 231 = .ok (.aload_n 0, 1) := by decide +kernel
theorem d_AckBookModel_losses_232 : decode c_AckBookModel_losses 232 = .ok (.aload_n 0, 1) := by decide +kernel
theorem d_AckBookModel_losses_233 : decode c_AckBookModel_losses 233 = .ok (.getfield 150, 3) := by decide +kernel
theorem d_AckBookModel_losses_236 : decode c_AckBookModel_losses 236 = .ok (.putfield 69, 3) := by decide +kernel
theorem d_AckBookModel_losses_239 : decode c_AckBookModel_losses 239 = .ok (.aload_n 0, 1) := by decide +kernel
theorem d_AckBookModel_losses_240 : decode c_AckBookModel_losses 240 = .ok (.aload_n 0, 1) := by decide +kernel
theorem d_AckBookModel_losses_241 : decode c_AckBookModel_losses 241 = .ok (.getfield 63, 3) := by decide +kernel
theorem d_AckBookModel_losses_244 : decode c_AckBookModel_losses 244 = .ok (.iconst (2), 1) := by decide +kernel
theorem d_AckBookModel_losses_245 : decode c_AckBookModel_losses 245 = .ok (.idiv, 1) := by decide +kernel
theorem d_AckBookModel_losses_246 : decode c_AckBookModel_losses 246 = .ok (.putfield 66, 3) := by decide +kernel
theorem d_AckBookModel_losses_249 : decode c_AckBookModel_losses 249 = .ok (.aload_n 0, 1) := by decide +kernel
theorem d_AckBookModel_losses_250 : decode c_AckBookModel_losses 250 = .ok (.aload_n 0, 1) := by decide +kernel
theorem d_AckBookModel_losses_251 : decode c_AckBookModel_losses 251 = .ok (.getfield 66, 3) := by decide +kernel
theorem d_AckBookModel_losses_254 : decode c_AckBookModel_losses 254 = .ok (.sipush (2400), 3) := by decide +kernel
theorem d_AckBookModel_losses_257 : decode c_AckBookModel_losses 257 = .ok (.invokestatic 110, 3) := by decide +kernel
theorem d_AckBookModel_losses_260 : decode c_AckBookModel_losses 260 = .ok (.putfield 63, 3) := by decide +kernel
theorem d_AckBookModel_losses_164 : decode c_AckBookModel_losses 164 = .ok (.sipush (4096), 3) := by decide +kernel
theorem d_AckBookModel_losses_167 : decode c_AckBookModel_losses 167 = .ok (.iload_n 1, 1) := by decide +kernel
theorem d_AckBookModel_losses_168 : decode c_AckBookModel_losses 168 = .ok (.imul, 1) := by decide +kernel
theorem d_AckBookModel_losses_169 : decode c_AckBookModel_losses 169 = .ok (.aload_n 0, 1) := by decide +kernel
theorem d_AckBookModel_losses_170 : decode c_AckBookModel_losses 170 = .ok (.getfield 41, 3) := by decide +kernel
theorem d_AckBookModel_losses_173 : decode c_AckBookModel_losses 173 = .ok (.sipush (4096), 3) := by decide +kernel
theorem d_AckBookModel_losses_176 : decode c_AckBookModel_losses 176 = .ok (.iconst (2), 1) := by decide +kernel
theorem d_AckBookModel_losses_177 : decode c_AckBookModel_losses 177 = .ok (.iload_n 1, 1) := by decide +kernel
theorem d_AckBookModel_losses_178 : decode c_AckBookModel_losses 178 = .ok (.imul, 1) := by decide +kernel
theorem d_AckBookModel_losses_179 : decode c_AckBookModel_losses 179 = .ok (.iconst (1), 1) := by decide +kernel
theorem d_AckBookModel_losses_180 : decode c_AckBookModel_losses 180 = .ok (.iadd, 1) := by decide +kernel
theorem d_AckBookModel_losses_181 : decode c_AckBookModel_losses 181 = .ok (.imul, 1) := by decide +kernel
theorem d_AckBookModel_losses_182 : decode c_AckBookModel_losses 182 = .ok (.iload 5, 2) := by decide +kernel
theorem d_AckBookModel_losses_184 : decode c_AckBookModel_losses 184 = .ok (.iadd, 1) := by decide +kernel
theorem d_AckBookModel_losses_185 : decode c_AckBookModel_losses 185 = .ok (.iaload, 1) := by decide +kernel
theorem d_AckBookModel_losses_186 : decode c_AckBookModel_losses 186 = .ok (.iadd, 1) := by decide +kernel
theorem d_AckBookModel_losses_187 : decode c_AckBookModel_losses 187 = .ok (.istore 6, 2) := by decide +kernel
theorem d_AckBookModel_losses_189 : decode c_AckBookModel_losses 189 = .ok (.iload 4, 2) := by decide +kernel
theorem d_AckBookModel_losses_191 : decode c_AckBookModel_losses 191 = .ok (.ifCond .ne (22), 3) := by decide +kernel
theorem d_AckBookModel_losses_194 : decode c_AckBookModel_losses 194 = .ok (.aload_n 0, 1) := by decide +kernel
theorem d_AckBookModel_losses_195 : decode c_AckBookModel_losses 195 = .ok (.getfield 26, 3) := by decide +kernel
theorem d_AckBookModel_losses_198 : decode c_AckBookModel_losses 198 = .ok (.iload 6, 2) := by decide +kernel
theorem d_AckBookModel_losses_200 : decode c_AckBookModel_losses 200 = .ok (.baload, 1) := by decide +kernel
theorem d_AckBookModel_losses_201 : decode c_AckBookModel_losses 201 = .ok (.ifCond .eq (16), 3) := by decide +kernel
theorem d_AckBookModel_losses_217 : decode c_AckBookModel_losses 217 = .ok (.iconst (0), 1) := by decide +kernel
theorem d_AckBookModel_losses_218 : decode c_AckBookModel_losses 218 = .ok (.istore 4, 2) := by decide +kernel
theorem d_AckBookModel_losses_220 : decode c_AckBookModel_losses 220 = .ok (.iinc 5 (1), 3) := by decide +kernel
theorem d_AckBookModel_losses_223 : decode c_AckBookModel_losses 223 = .ok (.goto (-74), 3) := by decide +kernel
theorem d_AckBookModel_losses_204 : decode c_AckBookModel_losses 204 = .ok (.aload_n 0, 1) := by decide +kernel
theorem d_AckBookModel_losses_205 : decode c_AckBookModel_losses 205 = .ok (.iload 6, 2) := by decide +kernel
theorem d_AckBookModel_losses_207 : decode c_AckBookModel_losses 207 = .ok (.invokevirtual 161, 3) := by decide +kernel
theorem d_AckBookModel_losses_210 : decode c_AckBookModel_losses 210 = .ok (.ifCond .eq (7), 3) := by decide +kernel
theorem d_AckBookModel_losses_213 : decode c_AckBookModel_losses 213 = .ok (.iconst (1), 1) := by decide +kernel
theorem d_AckBookModel_losses_214 : decode c_AckBookModel_losses 214 = .ok (.goto (4), 3) := by decide +kernel
theorem d_AckBookModel_losses_0 : decode c_AckBookModel_losses 0 = .ok (.aload_n 0, 1) := by decide +kernel
theorem d_AckBookModel_losses_1 : decode c_AckBookModel_losses 1 = .ok (.getfield 44, 3) := by decide +kernel
theorem d_AckBookModel_losses_4 : decode c_AckBookModel_losses 4 = .ok (.iconst (2), 1) := by decide +kernel
theorem d_AckBookModel_losses_5 : decode c_AckBookModel_losses 5 = .ok (.iload_n 1, 1) := by decide +kernel
theorem d_AckBookModel_losses_6 : decode c_AckBookModel_losses 6 = .ok (.imul, 1) := by decide +kernel
theorem d_AckBookModel_losses_7 : decode c_AckBookModel_losses 7 = .ok (.iconst (1), 1) := by decide +kernel
theorem d_AckBookModel_losses_8 : decode c_AckBookModel_losses 8 = .ok (.iadd, 1) := by decide +kernel
theorem d_AckBookModel_losses_9 : decode c_AckBookModel_losses 9 = .ok (.iaload, 1) := by decide +kernel
theorem d_AckBookModel_losses_10 : decode c_AckBookModel_losses 10 = .ok (.istore_n 2, 1) := by decide +kernel
theorem d_AckBookModel_losses_11 : decode c_AckBookModel_losses 11 = .ok (.aload_n 0, 1) := by decide +kernel
theorem d_AckBookModel_losses_12 : decode c_AckBookModel_losses 12 = .ok (.invokevirtual 186, 3) := by decide +kernel
theorem d_AckBookModel_losses_15 : decode c_AckBookModel_losses 15 = .ok (.istore_n 3, 1) := by decide +kernel
