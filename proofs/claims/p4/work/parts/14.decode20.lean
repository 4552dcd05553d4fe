theorem d_AckBookModel_init_111 : decode c_AckBookModel_init 111 = .ok (.aload_n 0, 1) := by decide +kernel
theorem d_AckBookModel_init_112 : decode c_AckBookModel_init 112 = .ok (.sipush (800), 3) := by decide +kernel
theorem d_AckBookModel_init_115 : decode c_AckBookModel_init 115 = .ok (.putfield 50, 3) := by decide +kernel
theorem d_AckBookModel_init_118 : decode c_AckBookModel_init 118 = .ok (.aload_n 0, 1) := by decide +kernel
theorem d_AckBookModel_init_119 : decode c_AckBookModel_init 119 = .ok (.sipush (200), 3) := by decide +kernel
theorem d_AckBookModel_init_122 : decode c_AckBookModel_init 122 = .ok (.putfield 54, 3) := by decide +kernel
theorem d_AckBookModel_init_125 : decode c_AckBookModel_init 125 = .ok (.aload_n 0, 1) := by decide +kernel
theorem d_AckBookModel_init_126 : decode c_AckBookModel_init 126 = .ok (.iconst (-1), 1) := by decide +kernel
theorem d_AckBookModel_init_127 : decode c_AckBookModel_init 127 = .ok (.putfield 57, 3) := by decide +kernel
theorem d_AckBookModel_init_130 : decode c_AckBookModel_init 130 = .ok (.aload_n 0, 1) := by decide +kernel
theorem d_AckBookModel_init_131 : decode c_AckBookModel_init 131 = .ok (.iconst (-1), 1) := by decide +kernel
theorem d_AckBookModel_init_132 : decode c_AckBookModel_init 132 = .ok (.putfield 60, 3) := by decide +kernel
theorem d_AckBookModel_init_135 : decode c_AckBookModel_init 135 = .ok (.aload_n 0, 1) := by decide +kernel
theorem d_AckBookModel_init_136 : decode c_AckBookModel_init 136 = .ok (.sipush (12000), 3) := by decide +kernel
theorem d_AckBookModel_init_139 : decode c_AckBookModel_init 139 = .ok (.putfield 63, 3) := by decide +kernel
theorem d_AckBookModel_init_142 : decode c_AckBookModel_init 142 = .ok (.aload_n 0, 1) := by decide +kernel
theorem d_AckBookModel_init_143 : decode c_AckBookModel_init 143 = .ok (.iconst (-1), 1) := by decide +kernel
theorem d_AckBookModel_init_144 : decode c_AckBookModel_init 144 = .ok (.putfield 66, 3) := by decide +kernel
theorem d_AckBookModel_init_147 : decode c_AckBookModel_init 147 = .ok (.aload_n 0, 1) := by decide +kernel
theorem d_AckBookModel_init_148 : decode c_AckBookModel_init 148 = .ok (.iconst (-1), 1) := by decide +kernel
theorem d_AckBookModel_init_149 : decode c_AckBookModel_init 149 = .ok (.putfield 69, 3) := by decide +kernel
theorem d_AckBookModel_init_152 : decode c_AckBookModel_init 152 = .ok (.aload_n 0, 1) := by decide +kernel
theorem d_AckBookModel_init_153 : decode c_AckBookModel_init 153 = .ok (.bipush (64), 2) := by decide +kernel
theorem d_AckBookModel_init_155 : decode c_AckBookModel_init 155 = .ok (.newarray .long, 2) := by decide +kernel
theorem d_AckBookModel_init_157 : decode c_AckBookModel_init 157 = .ok (.putfield 72, 3) := by decide +kernel
theorem d_AckBookModel_init_160 : decode c_AckBookModel_init 160 = .ok (.aload_n 0, 1) := by decide +kernel
theorem d_AckBookModel_init_161 : decode c_AckBookModel_init 161 = .ok (.bipush (64), 2) := by decide +kernel
theorem d_AckBookModel_init_163 : decode c_AckBookModel_init 163 = .ok (.newarray .long, 2) := by decide +kernel
theorem d_AckBookModel_init_165 : decode c_AckBookModel_init 165 = .ok (.putfield 76, 3) := by decide +kernel
theorem d_AckBookModel_init_168 : decode c_AckBookModel_init 168 = .ok (.aload_n 0, 1) := by decide +kernel
theorem d_AckBookModel_init_169 : decode c_AckBookModel_init 169 = .ok (.iconst (3), 1) := by decide +kernel
theorem d_AckBookModel_init_170 : decode c_AckBookModel_init 170 = .ok (.newarray .int, 2) := by decide +kernel
theorem d_AckBookModel_init_172 : decode c_AckBookModel_init 172 = .ok (.putfield 79, 3) := by decide +kernel
theorem d_AckBookModel_init_175 : decode c_AckBookModel_init 175 = .ok (.aload_n 0, 1) := by decide +kernel
theorem d_AckBookModel_init_176 : decode c_AckBookModel_init 176 = .ok (.sipush (195), 3) := by decide +kernel
theorem d_AckBookModel_init_179 : decode c_AckBookModel_init 179 = .ok (.newarray .long, 2) := by decide +kernel
theorem d_AckBookModel_init_181 : decode c_AckBookModel_init 181 = .ok (.putfield 82, 3) := by decide +kernel
theorem d_AckBookModel_init_184 : decode c_AckBookModel_init 184 = .ok (.aload_n 0, 1) := by decide +kernel
theorem d_AckBookModel_init_185 : decode c_AckBookModel_init 185 = .ok (.sipush (195), 3) := by decide +kernel
theorem d_AckBookModel_init_188 : decode c_AckBookModel_init 188 = .ok (.newarray .long, 2) := by decide +kernel
theorem d_AckBookModel_init_190 : decode c_AckBookModel_init 190 = .ok (.putfield 85, 3) := by decide +kernel
theorem d_AckBookModel_init_193 : decode c_AckBookModel_init 193 = .ok (.aload_n 0, 1) := by decide +kernel
theorem d_AckBookModel_init_194 : decode c_AckBookModel_init 194 = .ok (.iconst (3), 1) := by decide +kernel
theorem d_AckBookModel_init_195 : decode c_AckBookModel_init 195 = .ok (.newarray .long, 2) := by decide +kernel
theorem d_AckBookModel_init_197 : decode c_AckBookModel_init 197 = .ok (.putfield 88, 3) := by decide +kernel
theorem d_AckBookModel_init_200 : decode c_AckBookModel_init 200 = .ok (.aload_n 0, 1) := by decide +kernel
theorem d_AckBookModel_init_201 : decode c_AckBookModel_init 201 = .ok (.iconst (3), 1) := by decide +kernel
theorem d_AckBookModel_init_202 : decode c_AckBookModel_init 202 = .ok (.newarray .int, 2) := by decide +kernel
theorem d_AckBookModel_init_204 : decode c_AckBookModel_init 204 = .ok (.putfield 91, 3) := by decide +kernel
theorem d_AckBookModel_init_207 : decode c_AckBookModel_init 207 = .ok (.aload_n 0, 1) := by decide +kernel
theorem d_AckBookModel_init_208 : decode c_AckBookModel_init 208 = .ok (.iconst (3), 1) := by decide +kernel
theorem d_AckBookModel_init_209 : decode c_AckBookModel_init 209 = .ok (.newarray .int, 2) := by decide +kernel
theorem d_AckBookModel_init_211 : decode c_AckBookModel_init 211 = .ok (.putfield 94, 3) := by decide +kernel
theorem d_AckBookModel_init_214 : decode c_AckBookModel_init 214 = .ok (.aload_n 0, 1) := by decide +kernel
theorem d_AckBookModel_init_215 : decode c_AckBookModel_init 215 = .ok (.iconst (3), 1) := by decide +kernel
theorem d_AckBookModel_init_216 : decode c_AckBookModel_init 216 = .ok (.newarray .int, 2) := by decide +kernel
theorem d_AckBookModel_init_218 : decode c_AckBookModel_init 218 = .ok (.putfield 97, 3) := by decide +kernel
theorem d_AckBookModel_init_221 : decode c_AckBookModel_init 221 = .ok (.aload_n 0, 1) := by decide +kernel
theorem d_AckBookModel_init_222 : decode c_AckBookModel_init 222 = .ok (.iconst (3), 1) := by decide +kernel
theorem d_AckBookModel_init_223 : decode c_AckBookModel_init 223 = .ok (.newarray .boolean, 2) := by decide +kernel
theorem d_AckBookModel_init_225 : decode c_AckBookModel_init 225 = .ok (.putfield 100, 3) := by decide +kernel
theorem d_AckBookModel_init_228 : decode c_AckBookModel_init 228 = .ok (.iconst (0), 1) := by decide +kernel
theorem d_AckBookModel_init_229 : decode c_AckBookModel_init 229 = .ok (.istore_n 1, 1) := by decide +kernel
theorem d_AckBookModel_thrown_0 : decode c_AckBookModel_thrown 0 = .ok (.aload_n 0, 1) := by decide +kernel
theorem d_AckBookModel_thrown_1 : decode c_AckBookModel_thrown 1 = .ok (.getfield 103, 3) := by decide +kernel
theorem d_AckBookModel_thrown_4 : decode c_AckBookModel_thrown 4 = .ok (.ireturn, 1) := by decide +kernel
theorem d_AckBookModel_noSpace_0 : decode c_AckBookModel_noSpace 0 = .ok (.iload_n 0, 1) := by decide +kernel
theorem d_AckBookModel_noSpace_1 : decode c_AckBookModel_noSpace 1 = .ok (.ifCond .lt (8), 3) := by decide +kernel
theorem d_AckBookModel_noSpace_9 : decode c_AckBookModel_noSpace 9 = .ok (.iconst (1), 1) := by decide +kernel
theorem d_AckBookModel_noSpace_10 : decode c_AckBookModel_noSpace 10 = .ok (.goto (4), 3) := by decide +kernel
theorem d_AckBookModel_noSpace_14 : decode c_AckBookModel_noSpace 14 = .ok (.ireturn, 1) := by decide +kernel
theorem d_AckBookModel_noSpace_4 : decode c_AckBookModel_noSpace 4 = .ok (.iload_n 0, 1) := by decide +kernel
theorem d_AckBookModel_noSpace_5 : decode c_AckBookModel_noSpace 5 = .ok (.iconst (2), 1) := by decide +kernel
theorem d_AckBookModel_noSpace_6 : decode c_AckBookModel_noSpace 6 = .ok (.if_icmp .le (7), 3) := by decide +kernel
theorem d_AckBookModel_noSpace_13 : decode c_AckBookModel_noSpace 13 = .ok (.iconst (0), 1) := by decide +kernel
theorem d_AckBookModel_fails_0 : decode c_AckBookModel_fails 0 = .ok (.aload_n 0, 1) := by decide +kernel
theorem d_AckBookModel_fails_1 : decode c_AckBookModel_fails 1 = .ok (.iload_n 1, 1) := by decide +kernel
theorem d_AckBookModel_fails_2 : decode c_AckBookModel_fails 2 = .ok (.ifCond .eq (7), 3) := by decide +kernel
theorem d_AckBookModel_fails_9 : decode c_AckBookModel_fails 9 = .ok (.iconst (0), 1) := by decide +kernel
theorem d_AckBookModel_fails_10 : decode c_AckBookModel_fails 10 = .ok (.putfield 103, 3) := by decide +kernel
theorem d_AckBookModel_fails_13 : decode c_AckBookModel_fails 13 = .ok (.iload_n 1, 1) := by decide +kernel
theorem d_AckBookModel_fails_14 : decode c_AckBookModel_fails 14 = .ok (.ireturn, 1) := by decide +kernel
theorem d_AckBookModel_fails_5 : decode c_AckBookModel_fails 5 = .ok (.iload_n 2, 1) := by decide +kernel
theorem d_AckBookModel_fails_6 : decode c_AckBookModel_fails 6 = .ok (.goto (4), 3) := by decide +kernel
theorem d_AckBookModel_isOut_0 : decode c_AckBookModel_isOut 0 = .ok (.aload_n 0, 1) := by decide +kernel
theorem d_AckBookModel_isOut_1 : decode c_AckBookModel_isOut 1 = .ok (.getfield 32, 3) := by decide +kernel
theorem d_AckBookModel_isOut_4 : decode c_AckBookModel_isOut 4 = .ok (.iload_n 1, 1) := by decide +kernel
theorem d_AckBookModel_isOut_5 : decode c_AckBookModel_isOut 5 = .ok (.baload, 1) := by decide +kernel
theorem d_AckBookModel_isOut_6 : decode c_AckBookModel_isOut 6 = .ok (.ifCond .ne (22), 3) := by decide +kernel
theorem d_AckBookModel_isOut_9 : decode c_AckBookModel_isOut 9 = .ok (.aload_n 0, 1) := by decide +kernel
theorem d_AckBookModel_isOut_10 : decode c_AckBookModel_isOut 10 = .ok (.getfield 19, 3) := by decide +kernel
theorem d_AckBookModel_isOut_13 : decode c_AckBookModel_isOut 13 = .ok (.sipush (4096), 3) := by decide +kernel
theorem d_AckBookModel_isOut_16 : decode c_AckBookModel_isOut 16 = .ok (.iload_n 1, 1) := by decide +kernel
theorem d_AckBookModel_isOut_17 : decode c_AckBookModel_isOut 17 = .ok (.imul, 1) := by decide +kernel
theorem d_AckBookModel_isOut_18 : decode c_AckBookModel_isOut 18 = .ok (.iload_n 2, 1) := by decide +kernel
theorem d_AckBookModel_isOut_19 : decode c_AckBookModel_isOut 19 = .ok (.iadd, 1) := by decide +kernel
theorem d_AckBookModel_isOut_20 : decode c_AckBookModel_isOut 20 = .ok (.iaload, 1) := by decide +kernel
theorem d_AckBookModel_isOut_21 : decode c_AckBookModel_isOut 21 = .ok (.ifCond .ne (7), 3) := by decide +kernel
theorem d_AckBookModel_isOut_24 : decode c_AckBookModel_isOut 24 = .ok (.iconst (1), 1) := by decide +kernel
theorem d_AckBookModel_isOut_25 : decode c_AckBookModel_isOut 25 = .ok (.goto (4), 3) := by decide +kernel
theorem d_AckBookModel_isOut_29 : decode c_AckBookModel_isOut 29 = .ok (.ireturn, 1) := by decide +kernel
theorem d_AckBookModel_isOut_28 : decode c_AckBookModel_isOut 28 = .ok (.iconst (0), 1) := by decide +kernel
theorem d_AckBookModel_flight_4 : decode c_AckBookModel_flight 4 = .ok (.iload_n 2, 1) := by decide +kernel
theorem d_AckBookModel_flight_5 : decode c_AckBookModel_flight 5 = .ok (.iconst (3), 1) := by decide +kernel
theorem d_AckBookModel_flight_6 : decode c_AckBookModel_flight 6 = .ok (.if_icmp .ge (70), 3) := by decide +kernel
theorem d_AckBookModel_flight_76 : decode c_AckBookModel_flight 76 = .ok (.iload_n 1, 1) := by decide +kernel
theorem d_AckBookModel_flight_77 : decode c_AckBookModel_flight 77 = .ok (.ireturn, 1) := by decide +kernel
theorem d_AckBookModel_flight_9 : decode c_AckBookModel_flight 9 = .ok (.iconst (0), 1) := by decide +kernel
theorem d_AckBookModel_flight_10 : decode c_AckBookModel_flight 10 = .ok (.istore_n 3, 1) := by decide +kernel
theorem d_AckBookModel_flight_11 : decode c_AckBookModel_flight 11 = .ok (.iload_n 3, 1) := by decide +kernel
theorem d_AckBookModel_flight_12 : decode c_AckBookModel_flight 12 = .ok (.aload_n 0, 1) := by decide +kernel
theorem d_AckBookModel_flight_13 : decode c_AckBookModel_flight 13 = .ok (.getfield 7, 3) := by decide +kernel
theorem d_AckBookModel_flight_16 : decode c_AckBookModel_flight 16 = .ok (.iload_n 2, 1) := by decide +kernel
theorem d_AckBookModel_flight_17 : decode c_AckBookModel_flight 17 = .ok (.iaload, 1) := by decide +kernel
theorem d_AckBookModel_flight_18 : decode c_AckBookModel_flight 18 = .ok (.if_icmp .ge (52), 3) := by decide +kernel
theorem d_AckBookModel_flight_70 : decode c_AckBookModel_flight 70 = .ok (.iinc 2 (1), 3) := by decide +kernel
theorem d_AckBookModel_flight_73 : decode c_AckBookModel_flight 73 = .ok (.goto (-69), 3) := by decide +kernel
theorem d_AckBookModel_flight_21 : decode c_AckBookModel_flight 21 = .ok (.iload_n 1, 1) := by decide +kernel
theorem d_AckBookModel_flight_22 : decode c_AckBookModel_flight 22 = .ok (.aload_n 0, 1) := by decide +kernel
theorem d_AckBookModel_flight_23 : decode c_AckBookModel_flight 23 = .ok (.iload_n 2, 1) := by decide +kernel
