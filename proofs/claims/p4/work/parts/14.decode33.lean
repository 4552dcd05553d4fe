theorem d_AckBookModel_takeOut_33 : decode c_AckBookModel_takeOut 33 = .ok (.getfield 82, 3) := by decide +kernel
theorem d_AckBookModel_takeOut_36 : decode c_AckBookModel_takeOut 36 = .ok (.iload_n 3, 1) := by decide +kernel
theorem d_AckBookModel_takeOut_37 : decode c_AckBookModel_takeOut 37 = .ok (.iconst (1), 1) := by decide +kernel
theorem d_AckBookModel_takeOut_38 : decode c_AckBookModel_takeOut 38 = .ok (.iadd, 1) := by decide +kernel
theorem d_AckBookModel_takeOut_39 : decode c_AckBookModel_takeOut 39 = .ok (.laload, 1) := by decide +kernel
theorem d_AckBookModel_takeOut_40 : decode c_AckBookModel_takeOut 40 = .ok (.lastore, 1) := by decide +kernel
theorem d_AckBookModel_takeOut_41 : decode c_AckBookModel_takeOut 41 = .ok (.aload_n 0, 1) := by decide +kernel
theorem d_AckBookModel_takeOut_42 : decode c_AckBookModel_takeOut 42 = .ok (.getfield 85, 3) := by decide +kernel
theorem d_AckBookModel_takeOut_45 : decode c_AckBookModel_takeOut 45 = .ok (.iload_n 3, 1) := by decide +kernel
theorem d_AckBookModel_takeOut_46 : decode c_AckBookModel_takeOut 46 = .ok (.aload_n 0, 1) := by decide +kernel
theorem d_AckBookModel_takeOut_47 : decode c_AckBookModel_takeOut 47 = .ok (.getfield 85, 3) := by decide +kernel
theorem d_AckBookModel_takeOut_50 : decode c_AckBookModel_takeOut 50 = .ok (.iload_n 3, 1) := by decide +kernel
theorem d_AckBookModel_takeOut_51 : decode c_AckBookModel_takeOut 51 = .ok (.iconst (1), 1) := by decide +kernel
theorem d_AckBookModel_takeOut_52 : decode c_AckBookModel_takeOut 52 = .ok (.iadd, 1) := by decide +kernel
theorem d_AckBookModel_takeOut_53 : decode c_AckBookModel_takeOut 53 = .ok (.laload, 1) := by decide +kernel
theorem d_AckBookModel_takeOut_54 : decode c_AckBookModel_takeOut 54 = .ok (.lastore, 1) := by decide +kernel
theorem d_AckBookModel_takeOut_55 : decode c_AckBookModel_takeOut 55 = .ok (.iinc 3 (1), 3) := by decide +kernel
theorem d_AckBookModel_takeOut_58 : decode c_AckBookModel_takeOut 58 = .ok (.goto (-46), 3) := by decide +kernel
theorem d_AckBookModel_takeOut_0 : decode c_AckBookModel_takeOut 0 = .ok (.aload_n 0, 1) := by decide +kernel
theorem d_AckBookModel_takeOut_1 : decode c_AckBookModel_takeOut 1 = .ok (.getfield 79, 3) := by decide +kernel
theorem d_AckBookModel_takeOut_4 : decode c_AckBookModel_takeOut 4 = .ok (.iload_n 1, 1) := by decide +kernel
theorem d_AckBookModel_takeOut_5 : decode c_AckBookModel_takeOut 5 = .ok (.dup2, 1) := by decide +kernel
theorem d_AckBookModel_takeOut_6 : decode c_AckBookModel_takeOut 6 = .ok (.iaload, 1) := by decide +kernel
theorem d_AckBookModel_takeOut_7 : decode c_AckBookModel_takeOut 7 = .ok (.iconst (1), 1) := by decide +kernel
theorem d_AckBookModel_takeOut_8 : decode c_AckBookModel_takeOut 8 = .ok (.isub, 1) := by decide +kernel
theorem d_AckBookModel_takeOut_9 : decode c_AckBookModel_takeOut 9 = .ok (.iastore, 1) := by decide +kernel
theorem d_AckBookModel_takeOut_10 : decode c_AckBookModel_takeOut 10 = .ok (.iload_n 2, 1) := by decide +kernel
theorem d_AckBookModel_takeOut_11 : decode c_AckBookModel_takeOut 11 = .ok (.istore_n 3, 1) := by decide +kernel
theorem d_AckBookModel_comeIn_207 : decode c_AckBookModel_comeIn 207 = .ok (.aload_n 0, 1) := by decide +kernel
theorem d_AckBookModel_comeIn_208 : decode c_AckBookModel_comeIn 208 = .ok (.getfield 79, 3) := by decide +kernel
theorem d_AckBookModel_comeIn_211 : decode c_AckBookModel_comeIn 211 = .ok (.iload_n 1, 1) := by decide +kernel
theorem d_AckBookModel_comeIn_212 : decode c_AckBookModel_comeIn 212 = .ok (.iaload, 1) := by decide +kernel
theorem d_AckBookModel_comeIn_213 : decode c_AckBookModel_comeIn 213 = .ok (.bipush (64), 2) := by decide +kernel
theorem d_AckBookModel_comeIn_215 : decode c_AckBookModel_comeIn 215 = .ok (.if_icmp .le (29), 3) := by decide +kernel
theorem d_AckBookModel_comeIn_244 : decode c_AckBookModel_comeIn 244 = .ok (.return_, 1) := by decide +kernel
theorem d_AckBookModel_comeIn_218 : decode c_AckBookModel_comeIn 218 = .ok (.aload_n 0, 1) := by decide +kernel
theorem d_AckBookModel_comeIn_219 : decode c_AckBookModel_comeIn 219 = .ok (.getfield 88, 3) := by decide +kernel
theorem d_AckBookModel_comeIn_222 : decode c_AckBookModel_comeIn 222 = .ok (.iload_n 1, 1) := by decide +kernel
theorem d_AckBookModel_comeIn_223 : decode c_AckBookModel_comeIn 223 = .ok (.aload_n 0, 1) := by decide +kernel
theorem d_AckBookModel_comeIn_224 : decode c_AckBookModel_comeIn 224 = .ok (.getfield 85, 3) := by decide +kernel
theorem d_AckBookModel_comeIn_227 : decode c_AckBookModel_comeIn 227 = .ok (.bipush (65), 2) := by decide +kernel
theorem d_AckBookModel_comeIn_229 : decode c_AckBookModel_comeIn 229 = .ok (.iload_n 1, 1) := by decide +kernel
theorem d_AckBookModel_comeIn_230 : decode c_AckBookModel_comeIn 230 = .ok (.imul, 1) := by decide +kernel
theorem d_AckBookModel_comeIn_231 : decode c_AckBookModel_comeIn 231 = .ok (.laload, 1) := by decide +kernel
theorem d_AckBookModel_comeIn_232 : decode c_AckBookModel_comeIn 232 = .ok (.lconst 1, 1) := by decide +kernel
theorem d_AckBookModel_comeIn_233 : decode c_AckBookModel_comeIn 233 = .ok (.ladd, 1) := by decide +kernel
theorem d_AckBookModel_comeIn_234 : decode c_AckBookModel_comeIn 234 = .ok (.lastore, 1) := by decide +kernel
theorem d_AckBookModel_comeIn_235 : decode c_AckBookModel_comeIn 235 = .ok (.aload_n 0, 1) := by decide +kernel
theorem d_AckBookModel_comeIn_236 : decode c_AckBookModel_comeIn 236 = .ok (.iload_n 1, 1) := by decide +kernel
theorem d_AckBookModel_comeIn_237 : decode c_AckBookModel_comeIn 237 = .ok (.bipush (65), 2) := by decide +kernel
theorem d_AckBookModel_comeIn_239 : decode c_AckBookModel_comeIn 239 = .ok (.iload_n 1, 1) := by decide +kernel
theorem d_AckBookModel_comeIn_240 : decode c_AckBookModel_comeIn 240 = .ok (.imul, 1) := by decide +kernel
theorem d_AckBookModel_comeIn_241 : decode c_AckBookModel_comeIn 241 = .ok (.invokevirtual 197, 3) := by decide +kernel
theorem d_AckBookModel_comeIn_159 : decode c_AckBookModel_comeIn 159 = .ok (.iload 4, 2) := by decide +kernel
theorem d_AckBookModel_comeIn_161 : decode c_AckBookModel_comeIn 161 = .ok (.bipush (65), 2) := by decide +kernel
theorem d_AckBookModel_comeIn_163 : decode c_AckBookModel_comeIn 163 = .ok (.iload_n 1, 1) := by decide +kernel
theorem d_AckBookModel_comeIn_164 : decode c_AckBookModel_comeIn 164 = .ok (.imul, 1) := by decide +kernel
theorem d_AckBookModel_comeIn_165 : decode c_AckBookModel_comeIn 165 = .ok (.if_icmp .le (42), 3) := by decide +kernel
theorem d_AckBookModel_comeIn_168 : decode c_AckBookModel_comeIn 168 = .ok (.aload_n 0, 1) := by decide +kernel
theorem d_AckBookModel_comeIn_169 : decode c_AckBookModel_comeIn 169 = .ok (.getfield 85, 3) := by decide +kernel
theorem d_AckBookModel_comeIn_172 : decode c_AckBookModel_comeIn 172 = .ok (.iload 4, 2) := by decide +kernel
theorem d_AckBookModel_comeIn_174 : decode c_AckBookModel_comeIn 174 = .ok (.iconst (1), 1) := by decide +kernel
theorem d_AckBookModel_comeIn_175 : decode c_AckBookModel_comeIn 175 = .ok (.isub, 1) := by decide +kernel
theorem d_AckBookModel_comeIn_176 : decode c_AckBookModel_comeIn 176 = .ok (.laload, 1) := by decide +kernel
theorem d_AckBookModel_comeIn_177 : decode c_AckBookModel_comeIn 177 = .ok (.lload_n 2, 1) := by decide +kernel
theorem d_AckBookModel_comeIn_178 : decode c_AckBookModel_comeIn 178 = .ok (.lconst 1, 1) := by decide +kernel
theorem d_AckBookModel_comeIn_179 : decode c_AckBookModel_comeIn 179 = .ok (.lsub, 1) := by decide +kernel
theorem d_AckBookModel_comeIn_180 : decode c_AckBookModel_comeIn 180 = .ok (.lcmp, 1) := by decide +kernel
theorem d_AckBookModel_comeIn_181 : decode c_AckBookModel_comeIn 181 = .ok (.ifCond .ne (26), 3) := by decide +kernel
theorem d_AckBookModel_comeIn_184 : decode c_AckBookModel_comeIn 184 = .ok (.aload_n 0, 1) := by decide +kernel
theorem d_AckBookModel_comeIn_185 : decode c_AckBookModel_comeIn 185 = .ok (.getfield 85, 3) := by decide +kernel
theorem d_AckBookModel_comeIn_188 : decode c_AckBookModel_comeIn 188 = .ok (.iload 4, 2) := by decide +kernel
theorem d_AckBookModel_comeIn_190 : decode c_AckBookModel_comeIn 190 = .ok (.iconst (1), 1) := by decide +kernel
theorem d_AckBookModel_comeIn_191 : decode c_AckBookModel_comeIn 191 = .ok (.isub, 1) := by decide +kernel
theorem d_AckBookModel_comeIn_192 : decode c_AckBookModel_comeIn 192 = .ok (.aload_n 0, 1) := by decide +kernel
theorem d_AckBookModel_comeIn_193 : decode c_AckBookModel_comeIn 193 = .ok (.getfield 85, 3) := by decide +kernel
theorem d_AckBookModel_comeIn_196 : decode c_AckBookModel_comeIn 196 = .ok (.iload 4, 2) := by decide +kernel
theorem d_AckBookModel_comeIn_198 : decode c_AckBookModel_comeIn 198 = .ok (.laload, 1) := by decide +kernel
theorem d_AckBookModel_comeIn_199 : decode c_AckBookModel_comeIn 199 = .ok (.lastore, 1) := by decide +kernel
theorem d_AckBookModel_comeIn_200 : decode c_AckBookModel_comeIn 200 = .ok (.aload_n 0, 1) := by decide +kernel
theorem d_AckBookModel_comeIn_201 : decode c_AckBookModel_comeIn 201 = .ok (.iload_n 1, 1) := by decide +kernel
theorem d_AckBookModel_comeIn_202 : decode c_AckBookModel_comeIn 202 = .ok (.iload 4, 2) := by decide +kernel
theorem d_AckBookModel_comeIn_204 : decode c_AckBookModel_comeIn 204 = .ok (.invokevirtual 197, 3) := by decide +kernel
theorem d_AckBookModel_comeIn_74 : decode c_AckBookModel_comeIn 74 = .ok (.aload_n 0, 1) := by decide +kernel
theorem d_AckBookModel_comeIn_75 : decode c_AckBookModel_comeIn 75 = .ok (.getfield 82, 3) := by decide +kernel
theorem d_AckBookModel_comeIn_78 : decode c_AckBookModel_comeIn 78 = .ok (.iload 4, 2) := by decide +kernel
theorem d_AckBookModel_comeIn_80 : decode c_AckBookModel_comeIn 80 = .ok (.lload_n 2, 1) := by decide +kernel
theorem d_AckBookModel_comeIn_81 : decode c_AckBookModel_comeIn 81 = .ok (.lastore, 1) := by decide +kernel
theorem d_AckBookModel_comeIn_82 : decode c_AckBookModel_comeIn 82 = .ok (.aload_n 0, 1) := by decide +kernel
theorem d_AckBookModel_comeIn_83 : decode c_AckBookModel_comeIn 83 = .ok (.getfield 85, 3) := by decide +kernel
theorem d_AckBookModel_comeIn_86 : decode c_AckBookModel_comeIn 86 = .ok (.iload 4, 2) := by decide +kernel
theorem d_AckBookModel_comeIn_88 : decode c_AckBookModel_comeIn 88 = .ok (.lload_n 2, 1) := by decide +kernel
theorem d_AckBookModel_comeIn_89 : decode c_AckBookModel_comeIn 89 = .ok (.lastore, 1) := by decide +kernel
theorem d_AckBookModel_comeIn_90 : decode c_AckBookModel_comeIn 90 = .ok (.aload_n 0, 1) := by decide +kernel
theorem d_AckBookModel_comeIn_91 : decode c_AckBookModel_comeIn 91 = .ok (.getfield 79, 3) := by decide +kernel
theorem d_AckBookModel_comeIn_94 : decode c_AckBookModel_comeIn 94 = .ok (.iload_n 1, 1) := by decide +kernel
theorem d_AckBookModel_comeIn_95 : decode c_AckBookModel_comeIn 95 = .ok (.dup2, 1) := by decide +kernel
theorem d_AckBookModel_comeIn_96 : decode c_AckBookModel_comeIn 96 = .ok (.iaload, 1) := by decide +kernel
theorem d_AckBookModel_comeIn_97 : decode c_AckBookModel_comeIn 97 = .ok (.iconst (1), 1) := by decide +kernel
theorem d_AckBookModel_comeIn_98 : decode c_AckBookModel_comeIn 98 = .ok (.iadd, 1) := by decide +kernel
theorem d_AckBookModel_comeIn_99 : decode c_AckBookModel_comeIn 99 = .ok (.iastore, 1) := by decide +kernel
theorem d_AckBookModel_comeIn_100 : decode c_AckBookModel_comeIn 100 = .ok (.iload 4, 2) := by decide +kernel
theorem d_AckBookModel_comeIn_102 : decode c_AckBookModel_comeIn 102 = .ok (.iconst (1), 1) := by decide +kernel
theorem d_AckBookModel_comeIn_103 : decode c_AckBookModel_comeIn 103 = .ok (.iadd, 1) := by decide +kernel
theorem d_AckBookModel_comeIn_104 : decode c_AckBookModel_comeIn 104 = .ok (.bipush (65), 2) := by decide +kernel
theorem d_AckBookModel_comeIn_106 : decode c_AckBookModel_comeIn 106 = .ok (.iload_n 1, 1) := by decide +kernel
theorem d_AckBookModel_comeIn_107 : decode c_AckBookModel_comeIn 107 = .ok (.imul, 1) := by decide +kernel
theorem d_AckBookModel_comeIn_108 : decode c_AckBookModel_comeIn 108 = .ok (.aload_n 0, 1) := by decide +kernel
theorem d_AckBookModel_comeIn_109 : decode c_AckBookModel_comeIn 109 = .ok (.getfield 79, 3) := by decide +kernel
theorem d_AckBookModel_comeIn_112 : decode c_AckBookModel_comeIn 112 = .ok (.iload_n 1, 1) := by decide +kernel
theorem d_AckBookModel_comeIn_113 : decode c_AckBookModel_comeIn 113 = .ok (.iaload, 1) := by decide +kernel
theorem d_AckBookModel_comeIn_114 : decode c_AckBookModel_comeIn 114 = .ok (.iadd, 1) := by decide +kernel
theorem d_AckBookModel_comeIn_115 : decode c_AckBookModel_comeIn 115 = .ok (.if_icmp .ge (44), 3) := by decide +kernel
theorem d_AckBookModel_comeIn_118 : decode c_AckBookModel_comeIn 118 = .ok (.aload_n 0, 1) := by decide +kernel
theorem d_AckBookModel_comeIn_119 : decode c_AckBookModel_comeIn 119 = .ok (.getfield 82, 3) := by decide +kernel
theorem d_AckBookModel_comeIn_122 : decode c_AckBookModel_comeIn 122 = .ok (.iload 4, 2) := by decide +kernel
theorem d_AckBookModel_comeIn_124 : decode c_AckBookModel_comeIn 124 = .ok (.iconst (1), 1) := by decide +kernel
theorem d_AckBookModel_comeIn_125 : decode c_AckBookModel_comeIn 125 = .ok (.iadd, 1) := by decide +kernel
theorem d_AckBookModel_comeIn_126 : decode c_AckBookModel_comeIn 126 = .ok (.laload, 1) := by decide +kernel
theorem d_AckBookModel_comeIn_127 : decode c_AckBookModel_comeIn 127 = .ok (.lload_n 2, 1) := by decide +kernel
