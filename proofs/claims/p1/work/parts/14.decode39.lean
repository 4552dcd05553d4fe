theorem d_AckBookLaw_law_218 : decode c_AckBookLaw_law 218 = .ok (.ifCond .ne (15), 3) := by decide +kernel
theorem d_AckBookLaw_law_221 : decode c_AckBookLaw_law 221 = .ok (.aload_n 3, 1) := by decide +kernel
theorem d_AckBookLaw_law_222 : decode c_AckBookLaw_law 222 = .ok (.iconst (0), 1) := by decide +kernel
theorem d_AckBookLaw_law_223 : decode c_AckBookLaw_law 223 = .ok (.laload, 1) := by decide +kernel
theorem d_AckBookLaw_law_224 : decode c_AckBookLaw_law 224 = .ok (.iload 6, 2) := by decide +kernel
theorem d_AckBookLaw_law_226 : decode c_AckBookLaw_law 226 = .ok (.i2l, 1) := by decide +kernel
theorem d_AckBookLaw_law_227 : decode c_AckBookLaw_law 227 = .ok (.lcmp, 1) := by decide +kernel
theorem d_AckBookLaw_law_228 : decode c_AckBookLaw_law 228 = .ok (.ifCond .eq (5), 3) := by decide +kernel
theorem d_AckBookLaw_law_233 : decode c_AckBookLaw_law 233 = .ok (.goto (926), 3) := by decide +kernel
theorem d_AckBookLaw_law_231 : decode c_AckBookLaw_law 231 = .ok (.iconst (0), 1) := by decide +kernel
theorem d_AckBookLaw_law_232 : decode c_AckBookLaw_law 232 = .ok (.ireturn, 1) := by decide +kernel
theorem d_AckBookLaw_law_214 : decode c_AckBookLaw_law 214 = .ok (.iconst (0), 1) := by decide +kernel
theorem d_AckBookLaw_law_215 : decode c_AckBookLaw_law 215 = .ok (.ireturn, 1) := by decide +kernel
theorem d_AckBookLaw_law_186 : decode c_AckBookLaw_law 186 = .ok (.aload_n 0, 1) := by decide +kernel
theorem d_AckBookLaw_law_187 : decode c_AckBookLaw_law 187 = .ok (.iload 4, 2) := by decide +kernel
theorem d_AckBookLaw_law_189 : decode c_AckBookLaw_law 189 = .ok (.iconst (4), 1) := by decide +kernel
theorem d_AckBookLaw_law_190 : decode c_AckBookLaw_law 190 = .ok (.iadd, 1) := by decide +kernel
theorem d_AckBookLaw_law_191 : decode c_AckBookLaw_law 191 = .ok (.iaload, 1) := by decide +kernel
theorem d_AckBookLaw_law_192 : decode c_AckBookLaw_law 192 = .ok (.ifCond .eq (7), 3) := by decide +kernel
theorem d_AckBookLaw_law_199 : decode c_AckBookLaw_law 199 = .ok (.iconst (0), 1) := by decide +kernel
theorem d_AckBookLaw_law_195 : decode c_AckBookLaw_law 195 = .ok (.iconst (1), 1) := by decide +kernel
theorem d_AckBookLaw_law_196 : decode c_AckBookLaw_law 196 = .ok (.goto (4), 3) := by decide +kernel
theorem d_AckBookLaw_law_153 : decode c_AckBookLaw_law 153 = .ok (.aload_n 3, 1) := by decide +kernel
theorem d_AckBookLaw_law_154 : decode c_AckBookLaw_law 154 = .ok (.invokestatic 65, 3) := by decide +kernel
theorem d_AckBookLaw_law_157 : decode c_AckBookLaw_law 157 = .ok (.istore 5, 2) := by decide +kernel
theorem d_AckBookLaw_law_159 : decode c_AckBookLaw_law 159 = .ok (.aload_n 2, 1) := by decide +kernel
theorem d_AckBookLaw_law_160 : decode c_AckBookLaw_law 160 = .ok (.aload_n 0, 1) := by decide +kernel
theorem d_AckBookLaw_law_161 : decode c_AckBookLaw_law 161 = .ok (.iload 4, 2) := by decide +kernel
theorem d_AckBookLaw_law_163 : decode c_AckBookLaw_law 163 = .ok (.iconst (1), 1) := by decide +kernel
theorem d_AckBookLaw_law_164 : decode c_AckBookLaw_law 164 = .ok (.iadd, 1) := by decide +kernel
theorem d_AckBookLaw_law_165 : decode c_AckBookLaw_law 165 = .ok (.iaload, 1) := by decide +kernel
theorem d_AckBookLaw_law_166 : decode c_AckBookLaw_law 166 = .ok (.aload_n 0, 1) := by decide +kernel
theorem d_AckBookLaw_law_167 : decode c_AckBookLaw_law 167 = .ok (.iload 4, 2) := by decide +kernel
theorem d_AckBookLaw_law_169 : decode c_AckBookLaw_law 169 = .ok (.iconst (2), 1) := by decide +kernel
theorem d_AckBookLaw_law_170 : decode c_AckBookLaw_law 170 = .ok (.iadd, 1) := by decide +kernel
theorem d_AckBookLaw_law_171 : decode c_AckBookLaw_law 171 = .ok (.iaload, 1) := by decide +kernel
theorem d_AckBookLaw_law_172 : decode c_AckBookLaw_law 172 = .ok (.aload_n 0, 1) := by decide +kernel
theorem d_AckBookLaw_law_173 : decode c_AckBookLaw_law 173 = .ok (.iload 4, 2) := by decide +kernel
theorem d_AckBookLaw_law_175 : decode c_AckBookLaw_law 175 = .ok (.iconst (3), 1) := by decide +kernel
theorem d_AckBookLaw_law_176 : decode c_AckBookLaw_law 176 = .ok (.iadd, 1) := by decide +kernel
theorem d_AckBookLaw_law_177 : decode c_AckBookLaw_law 177 = .ok (.iaload, 1) := by decide +kernel
theorem d_AckBookLaw_law_178 : decode c_AckBookLaw_law 178 = .ok (.ifCond .eq (7), 3) := by decide +kernel
theorem d_AckBookLaw_law_185 : decode c_AckBookLaw_law 185 = .ok (.iconst (0), 1) := by decide +kernel
theorem d_AckBookLaw_law_181 : decode c_AckBookLaw_law 181 = .ok (.iconst (1), 1) := by decide +kernel
theorem d_AckBookLaw_law_182 : decode c_AckBookLaw_law 182 = .ok (.goto (4), 3) := by decide +kernel
theorem d_AckBookLaw_law_139 : decode c_AckBookLaw_law 139 = .ok (.aload_n 0, 1) := by decide +kernel
theorem d_AckBookLaw_law_140 : decode c_AckBookLaw_law 140 = .ok (.iload 4, 2) := by decide +kernel
theorem d_AckBookLaw_law_142 : decode c_AckBookLaw_law 142 = .ok (.iconst (4), 1) := by decide +kernel
theorem d_AckBookLaw_law_143 : decode c_AckBookLaw_law 143 = .ok (.iadd, 1) := by decide +kernel
theorem d_AckBookLaw_law_144 : decode c_AckBookLaw_law 144 = .ok (.iaload, 1) := by decide +kernel
theorem d_AckBookLaw_law_145 : decode c_AckBookLaw_law 145 = .ok (.ifCond .eq (7), 3) := by decide +kernel
theorem d_AckBookLaw_law_152 : decode c_AckBookLaw_law 152 = .ok (.iconst (0), 1) := by decide +kernel
theorem d_AckBookLaw_law_148 : decode c_AckBookLaw_law 148 = .ok (.iconst (1), 1) := by decide +kernel
theorem d_AckBookLaw_law_149 : decode c_AckBookLaw_law 149 = .ok (.goto (4), 3) := by decide +kernel
theorem d_AckBookLaw_law_23 : decode c_AckBookLaw_law 23 = .ok (.iload 4, 2) := by decide +kernel
theorem d_AckBookLaw_law_25 : decode c_AckBookLaw_law 25 = .ok (.aload_n 0, 1) := by decide +kernel
theorem d_AckBookLaw_law_26 : decode c_AckBookLaw_law 26 = .ok (.arraylength, 1) := by decide +kernel
theorem d_AckBookLaw_law_27 : decode c_AckBookLaw_law 27 = .ok (.iconst (5), 1) := by decide +kernel
theorem d_AckBookLaw_law_28 : decode c_AckBookLaw_law 28 = .ok (.isub, 1) := by decide +kernel
theorem d_AckBookLaw_law_29 : decode c_AckBookLaw_law 29 = .ok (.if_icmp .gt (1136), 3) := by decide +kernel
theorem d_AckBookLaw_law_1165 : decode c_AckBookLaw_law 1165 = .ok (.iconst (1), 1) := by decide +kernel
theorem d_AckBookLaw_law_1166 : decode c_AckBookLaw_law 1166 = .ok (.ireturn, 1) := by decide +kernel
theorem d_AckBookLaw_law_32 : decode c_AckBookLaw_law 32 = .ok (.aload_n 0, 1) := by decide +kernel
theorem d_AckBookLaw_law_33 : decode c_AckBookLaw_law 33 = .ok (.iload 4, 2) := by decide +kernel
theorem d_AckBookLaw_law_35 : decode c_AckBookLaw_law 35 = .ok (.iaload, 1) := by decide +kernel
theorem d_AckBookLaw_law_36 : decode c_AckBookLaw_law 36 = .ok (.bipush (15), 2) := by decide +kernel
theorem d_AckBookLaw_law_38 : decode c_AckBookLaw_law 38 = .ok (.iand, 1) := by decide +kernel
theorem d_AckBookLaw_law_39 : decode c_AckBookLaw_law 39 = .ok (.tableswitch (1120) (0) (14) #[73, 197, 329, 397, 410, 446, 457, 496, 580, 648, 783, 846, 902, 997, 1053], 73) := by decide +kernel
theorem d_AckBookLaw_law_112 : decode c_AckBookLaw_law 112 = .ok (.aload_n 1, 1) := by decide +kernel
theorem d_AckBookLaw_law_113 : decode c_AckBookLaw_law 113 = .ok (.aload_n 0, 1) := by decide +kernel
theorem d_AckBookLaw_law_114 : decode c_AckBookLaw_law 114 = .ok (.iload 4, 2) := by decide +kernel
theorem d_AckBookLaw_law_116 : decode c_AckBookLaw_law 116 = .ok (.iconst (1), 1) := by decide +kernel
theorem d_AckBookLaw_law_117 : decode c_AckBookLaw_law 117 = .ok (.iadd, 1) := by decide +kernel
theorem d_AckBookLaw_law_118 : decode c_AckBookLaw_law 118 = .ok (.iaload, 1) := by decide +kernel
theorem d_AckBookLaw_law_119 : decode c_AckBookLaw_law 119 = .ok (.aload_n 0, 1) := by decide +kernel
theorem d_AckBookLaw_law_120 : decode c_AckBookLaw_law 120 = .ok (.iload 4, 2) := by decide +kernel
theorem d_AckBookLaw_law_122 : decode c_AckBookLaw_law 122 = .ok (.iconst (2), 1) := by decide +kernel
theorem d_AckBookLaw_law_123 : decode c_AckBookLaw_law 123 = .ok (.iadd, 1) := by decide +kernel
theorem d_AckBookLaw_law_124 : decode c_AckBookLaw_law 124 = .ok (.iaload, 1) := by decide +kernel
theorem d_AckBookLaw_law_125 : decode c_AckBookLaw_law 125 = .ok (.aload_n 0, 1) := by decide +kernel
theorem d_AckBookLaw_law_126 : decode c_AckBookLaw_law 126 = .ok (.iload 4, 2) := by decide +kernel
theorem d_AckBookLaw_law_128 : decode c_AckBookLaw_law 128 = .ok (.iconst (3), 1) := by decide +kernel
theorem d_AckBookLaw_law_129 : decode c_AckBookLaw_law 129 = .ok (.iadd, 1) := by decide +kernel
theorem d_AckBookLaw_law_130 : decode c_AckBookLaw_law 130 = .ok (.iaload, 1) := by decide +kernel
theorem d_AckBookLaw_law_131 : decode c_AckBookLaw_law 131 = .ok (.ifCond .eq (7), 3) := by decide +kernel
theorem d_AckBookLaw_law_138 : decode c_AckBookLaw_law 138 = .ok (.iconst (0), 1) := by decide +kernel
theorem d_AckBookLaw_law_134 : decode c_AckBookLaw_law 134 = .ok (.iconst (1), 1) := by decide +kernel
theorem d_AckBookLaw_law_135 : decode c_AckBookLaw_law 135 = .ok (.goto (4), 3) := by decide +kernel
theorem d_AckBookLaw_law_236 : decode c_AckBookLaw_law 236 = .ok (.aload_n 1, 1) := by decide +kernel
theorem d_AckBookLaw_law_237 : decode c_AckBookLaw_law 237 = .ok (.aload_n 0, 1) := by decide +kernel
theorem d_AckBookLaw_law_238 : decode c_AckBookLaw_law 238 = .ok (.iload 4, 2) := by decide +kernel
theorem d_AckBookLaw_law_240 : decode c_AckBookLaw_law 240 = .ok (.iconst (1), 1) := by decide +kernel
theorem d_AckBookLaw_law_241 : decode c_AckBookLaw_law 241 = .ok (.iadd, 1) := by decide +kernel
theorem d_AckBookLaw_law_242 : decode c_AckBookLaw_law 242 = .ok (.iaload, 1) := by decide +kernel
theorem d_AckBookLaw_law_243 : decode c_AckBookLaw_law 243 = .ok (.i2l, 1) := by decide +kernel
theorem d_AckBookLaw_law_244 : decode c_AckBookLaw_law 244 = .ok (.bipush (32), 2) := by decide +kernel
theorem d_AckBookLaw_law_246 : decode c_AckBookLaw_law 246 = .ok (.lshl, 1) := by decide +kernel
theorem d_AckBookLaw_law_247 : decode c_AckBookLaw_law 247 = .ok (.aload_n 0, 1) := by decide +kernel
theorem d_AckBookLaw_law_248 : decode c_AckBookLaw_law 248 = .ok (.iload 4, 2) := by decide +kernel
theorem d_AckBookLaw_law_250 : decode c_AckBookLaw_law 250 = .ok (.iconst (2), 1) := by decide +kernel
theorem d_AckBookLaw_law_251 : decode c_AckBookLaw_law 251 = .ok (.iadd, 1) := by decide +kernel
theorem d_AckBookLaw_law_252 : decode c_AckBookLaw_law 252 = .ok (.iaload, 1) := by decide +kernel
theorem d_AckBookLaw_law_253 : decode c_AckBookLaw_law 253 = .ok (.i2l, 1) := by decide +kernel
theorem d_AckBookLaw_law_254 : decode c_AckBookLaw_law 254 = .ok (.ldc2_w 75, 3) := by decide +kernel
theorem d_AckBookLaw_law_257 : decode c_AckBookLaw_law 257 = .ok (.land, 1) := by decide +kernel
theorem d_AckBookLaw_law_258 : decode c_AckBookLaw_law 258 = .ok (.lor, 1) := by decide +kernel
theorem d_AckBookLaw_law_259 : decode c_AckBookLaw_law 259 = .ok (.aload_n 0, 1) := by decide +kernel
theorem d_AckBookLaw_law_260 : decode c_AckBookLaw_law 260 = .ok (.iload 4, 2) := by decide +kernel
theorem d_AckBookLaw_law_262 : decode c_AckBookLaw_law 262 = .ok (.iconst (3), 1) := by decide +kernel
theorem d_AckBookLaw_law_263 : decode c_AckBookLaw_law 263 = .ok (.iadd, 1) := by decide +kernel
theorem d_AckBookLaw_law_264 : decode c_AckBookLaw_law 264 = .ok (.iaload, 1) := by decide +kernel
theorem d_AckBookLaw_law_265 : decode c_AckBookLaw_law 265 = .ok (.i2l, 1) := by decide +kernel
theorem d_AckBookLaw_law_266 : decode c_AckBookLaw_law 266 = .ok (.bipush (32), 2) := by decide +kernel
theorem d_AckBookLaw_law_268 : decode c_AckBookLaw_law 268 = .ok (.lshl, 1) := by decide +kernel
theorem d_AckBookLaw_law_269 : decode c_AckBookLaw_law 269 = .ok (.aload_n 0, 1) := by decide +kernel
theorem d_AckBookLaw_law_270 : decode c_AckBookLaw_law 270 = .ok (.iload 4, 2) := by decide +kernel
theorem d_AckBookLaw_law_272 : decode c_AckBookLaw_law 272 = .ok (.iconst (4), 1) := by decide +kernel
theorem d_AckBookLaw_law_273 : decode c_AckBookLaw_law 273 = .ok (.iadd, 1) := by decide +kernel
theorem d_AckBookLaw_law_274 : decode c_AckBookLaw_law 274 = .ok (.iaload, 1) := by decide +kernel
theorem d_AckBookLaw_law_275 : decode c_AckBookLaw_law 275 = .ok (.i2l, 1) := by decide +kernel
