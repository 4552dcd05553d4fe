theorem d_AckBookModel_takeOut_21 : decode c_AckBookModel_takeOut 21 = .ok (.iload_n 1, 1) := by decide +kernel
theorem d_AckBookModel_takeOut_22 : decode c_AckBookModel_takeOut 22 = .ok (.iaload, 1) := by decide +kernel
theorem d_AckBookModel_takeOut_23 : decode c_AckBookModel_takeOut 23 = .ok (.iadd, 1) := by decide +kernel
theorem d_AckBookModel_takeOut_24 : decode c_AckBookModel_takeOut 24 = .ok (.if_icmp .ge (37), 3) := by decide +kernel
theorem d_AckBookModel_takeOut_61 : decode c_AckBookModel_takeOut 61 = .ok (.return_, 1) := by decide +kernel
theorem d_AckBookModel_takeOut_27 : decode c_AckBookModel_takeOut 27 = .ok (.aload_n 0, 1) := by decide +kernel
theorem d_AckBookModel_takeOut_28 : decode c_AckBookModel_takeOut 28 = .ok (.getfield 82, 3) := by decide +kernel
theorem d_AckBookModel_takeOut_31 : decode c_AckBookModel_takeOut 31 = .ok (.iload_n 3, 1) := by decide +kernel
theorem d_AckBookModel_takeOut_32 : decode c_AckBookModel_takeOut 32 = .ok (.aload_n 0, 1) := by decide +kernel
theorem d_AckBookModel_takeOut_33 : decode c_AckBookModel_takeOut 33 = .ok (.getfield 82, 3) := by decide +kernel
theorem d_AckBookModel_takeOut_36 : decode c_AckBookModel_takeOut 36 = .ok (.iload_n 3, 1) := by decide +kernel
theorem d_AckBookModel_takeOut_37 : decode c_AckBookModel_takeOut 37 = .ok (.iconst (1), 1) := by decide +kernel
theorem d_AckBookModel_takeOut_38 : decode c_AckBookModel_takeOut 38 = .ok (.iadd, 1) := by decide +kernel
theorem d_AckBookModel_takeOut_39 : decode c_AckBookModel_takeOut 39 = .ok (.laload, 1) := by decide +kernel
theorem d_AckBookModel_takeOut_40 : decode c_AckBookModel_takeOut 40 = .ok (.lastore, 1) := by decide +kernel
theorem d_AckBookModel_takeOut_41 : decode c_AckBookModel_takeOut 41 = .ok (.aload_n 0, 1) := by decide +kernel
theorem d_AckBookModel_takeOut_42 : decode c_AckBookModel_takeOut 42 = .ok (.getfield 85, 3) := by decide +kernel
theorem d_AckBookModel_takeOut_45 : decode c_AckBookModel_takeOut 45 = .ok (.iload_n 3, 1) := by decide +kernel
theorem d_AckBookModel_takeOut_46 : decode c_AckBookModel_takeOut 46 = .ok (.aload_n 0, 1) := by decide +kernel
theorem d_AckBookModel_takeOut_47 : decode c_AckBookModel_takeOut 47 = .ok (.getfield 85, 3) := by decide +kernel
theorem d_AckBookModel_takeOut_50 : decode c_AckBookModel_takeOut 50 = .ok (.iload_n 3, 1) := by decide +kernel
theorem d_AckBookModel_takeOut_51 : decode c_AckBookModel_takeOut 51 = .ok (.iconst (1), 1) := by decide +kernel
theorem d_AckBookModel_takeOut_52 : decode c_AckBookModel_takeOut 52 = .ok (.iadd, 1) := by decide +kernel
theorem d_AckBookModel_takeOut_53 : decode c_AckBookModel_takeOut 53 = .ok (.laload, 1) := by decide +kernel
theorem d_AckBookModel_takeOut_54 : decode c_AckBookModel_takeOut 54 = .ok (.lastore, 1) := by decide +kernel
theorem d_AckBookModel_takeOut_55 : decode c_AckBookModel_takeOut 55 = .ok (.iinc 3 (1), 3) := by decide +kernel
theorem d_AckBookModel_takeOut_58 : decode c_AckBookModel_takeOut 58 = .ok (.goto (-46), 3) := by decide +kernel
theorem d_AckBookModel_takeOut_0 : decode c_AckBookModel_takeOut 0 = .ok (.aload_n 0, 1) := by decide +kernel
theorem d_AckBookModel_takeOut_1 : decode c_AckBookModel_takeOut 1 = .ok (.getfield 79, 3) := by decide +kernel
theorem d_AckBookModel_takeOut_4 : decode c_AckBookModel_takeOut 4 = .ok (.iload_n 1, 1) := by decide +kernel
theorem d_AckBookModel_takeOut_5 : decode c_AckBookModel_takeOut 5 = .ok (.dup2, 1) := by decide +kernel
theorem d_AckBookModel_takeOut_6 : decode c_AckBookModel_takeOut 6 = .ok (.iaload, 1) := by decide +kernel
theorem d_AckBookModel_takeOut_7 : decode c_AckBookModel_takeOut 7 = .ok (.iconst (1), 1) := by decide +kernel
theorem d_AckBookModel_takeOut_8 : decode c_AckBookModel_takeOut 8 = .ok (.isub, 1) := by decide +kernel
theorem d_AckBookModel_takeOut_9 : decode c_AckBookModel_takeOut 9 = .ok (.iastore, 1) := by decide +kernel
theorem d_AckBookModel_takeOut_10 : decode c_AckBookModel_takeOut 10 = .ok (.iload_n 2, 1) := by decide +kernel
theorem d_AckBookModel_takeOut_11 : decode c_AckBookModel_takeOut 11 = .ok (.istore_n 3, 1) := by decide +kernel
theorem d_AckBookModel_comeIn_13 : decode c_AckBookModel_comeIn 13 = .ok (.iload 4, 2) := by decide +kernel
theorem d_AckBookModel_comeIn_15 : decode c_AckBookModel_comeIn 15 = .ok (.bipush (65), 2) := by decide +kernel
theorem d_AckBookModel_comeIn_17 : decode c_AckBookModel_comeIn 17 = .ok (.iload_n 1, 1) := by decide +kernel
theorem d_AckBookModel_comeIn_18 : decode c_AckBookModel_comeIn 18 = .ok (.imul, 1) := by decide +kernel
theorem d_AckBookModel_comeIn_19 : decode c_AckBookModel_comeIn 19 = .ok (.if_icmp .le (55), 3) := by decide +kernel
theorem d_AckBookModel_comeIn_74 : decode c_AckBookModel_comeIn 74 = .ok (.aload_n 0, 1) := by decide +kernel
theorem d_AckBookModel_comeIn_75 : decode c_AckBookModel_comeIn 75 = .ok (.getfield 82, 3) := by decide +kernel
theorem d_AckBookModel_comeIn_78 : decode c_AckBookModel_comeIn 78 = .ok (.iload 4, 2) := by decide +kernel
theorem d_AckBookModel_comeIn_80 : decode c_AckBookModel_comeIn 80 = .ok (.lload_n 2, 1) := by decide +kernel
theorem d_AckBookModel_comeIn_81 : decode c_AckBookModel_comeIn 81 = .ok (.lastore, 1) := by decide +kernel
theorem d_AckBookModel_comeIn_82 : decode c_AckBookModel_comeIn 82 = .ok (.aload_n 0, 1) := by decide +kernel
theorem d_AckBookModel_comeIn_83 : decode c_AckBookModel_comeIn 83 = .ok (.getfield 85, 3) := by decide +kernel
theorem d_AckBookModel_comeIn_86 : decode c_AckBookModel_comeIn 86 = .ok (.iload 4, 2) := by decide +kernel
theorem d_AckBookModel_comeIn_88 : decode c_AckBookModel_comeIn 88 = .ok (.lload_n 2, 1) := by decide +kernel
theorem d_AckBookModel_comeIn_89 : decode c_AckBookModel_comeIn 89 = .ok (.lastore, 1) := by decide +kernel
theorem d_AckBookModel_comeIn_90 : decode c_AckBookModel_comeIn 90 = .ok (.aload_n 0, 1) := by decide +kernel
theorem d_AckBookModel_comeIn_91 : decode c_AckBookModel_comeIn 91 = .ok (.getfield 79, 3) := by decide +kernel
theorem d_AckBookModel_comeIn_94 : decode c_AckBookModel_comeIn 94 = .ok (.iload_n 1, 1) := by decide +kernel
theorem d_AckBookModel_comeIn_95 : decode c_AckBookModel_comeIn 95 = .ok (.dup2, 1) := by decide +kernel
theorem d_AckBookModel_comeIn_96 : decode c_AckBookModel_comeIn 96 = .ok (.iaload, 1) := by decide +kernel
theorem d_AckBookModel_comeIn_97 : decode c_AckBookModel_comeIn 97 = .ok (.iconst (1), 1) := by decide +kernel
theorem d_AckBookModel_comeIn_98 : decode c_AckBookModel_comeIn 98 = .ok (.iadd, 1) := by decide +kernel
theorem d_AckBookModel_comeIn_99 : decode c_AckBookModel_comeIn 99 = .ok (.iastore, 1) := by decide +kernel
theorem d_AckBookModel_comeIn_100 : decode c_AckBookModel_comeIn 100 = .ok (.iload 4, 2) := by decide +kernel
theorem d_AckBookModel_comeIn_102 : decode c_AckBookModel_comeIn 102 = .ok (.iconst (1), 1) := by decide +kernel
theorem d_AckBookModel_comeIn_103 : decode c_AckBookModel_comeIn 103 = .ok (.iadd, 1) := by decide +kernel
theorem d_AckBookModel_comeIn_104 : decode c_AckBookModel_comeIn 104 = .ok (.bipush (65), 2) := by decide +kernel
theorem d_AckBookModel_comeIn_106 : decode c_AckBookModel_comeIn 106 = .ok (.iload_n 1, 1) := by decide +kernel
theorem d_AckBookModel_comeIn_107 : decode c_AckBookModel_comeIn 107 = .ok (.imul, 1) := by decide +kernel
theorem d_AckBookModel_comeIn_108 : decode c_AckBookModel_comeIn 108 = .ok (.aload_n 0, 1) := by decide +kernel
theorem d_AckBookModel_comeIn_109 : decode c_AckBookModel_comeIn 109 = .ok (.getfield 79, 3) := by decide +kernel
theorem d_AckBookModel_comeIn_112 : decode c_AckBookModel_comeIn 112 = .ok (.iload_n 1, 1) := by decide +kernel
theorem d_AckBookModel_comeIn_113 : decode c_AckBookModel_comeIn 113 = .ok (.iaload, 1) := by decide +kernel
theorem d_AckBookModel_comeIn_114 : decode c_AckBookModel_comeIn 114 = .ok (.iadd, 1) := by decide +kernel
theorem d_AckBookModel_comeIn_115 : decode c_AckBookModel_comeIn 115 = .ok (.if_icmp .ge (44), 3) := by decide +kernel
theorem d_AckBookModel_comeIn_159 : decode c_AckBookModel_comeIn 159 = .ok (.iload 4, 2) := by decide +kernel
theorem d_AckBookModel_comeIn_161 : decode c_AckBookModel_comeIn 161 = .ok (.bipush (65), 2) := by decide +kernel
theorem d_AckBookModel_comeIn_163 : decode c_AckBookModel_comeIn 163 = .ok (.iload_n 1, 1) := by decide +kernel
theorem d_AckBookModel_comeIn_164 : decode c_AckBookModel_comeIn 164 = .ok (.imul, 1) := by decide +kernel
theorem d_AckBookModel_comeIn_165 : decode c_AckBookModel_comeIn 165 = .ok (.if_icmp .le (42), 3) := by decide +kernel
theorem d_AckBookModel_comeIn_207 : decode c_AckBookModel_comeIn 207 = .ok (.aload_n 0, 1) := by decide +kernel
theorem d_AckBookModel_comeIn_208 : decode c_AckBookModel_comeIn 208 = .ok (.getfield 79, 3) := by decide +kernel
theorem d_AckBookModel_comeIn_211 : decode c_AckBookModel_comeIn 211 = .ok (.iload_n 1, 1) := by decide +kernel
theorem d_AckBookModel_comeIn_212 : decode c_AckBookModel_comeIn 212 = .ok (.iaload, 1) := by decide +kernel
theorem d_AckBookModel_comeIn_213 : decode c_AckBookModel_comeIn 213 = .ok (.bipush (64), 2) := by decide +kernel
theorem d_AckBookModel_comeIn_215 : decode c_AckBookModel_comeIn 215 = .ok (.if_icmp .le (29), 3) := by decide +kernel
theorem d_AckBookModel_comeIn_244 : decode c_AckBookModel_comeIn 244 = .ok (.return_, 1) := by decide +kernel
theorem d_AckBookModel_comeIn_218 : decode c_AckBookModel_comeIn 218 = .ok (.aload_n 0, 1) := by decide +kernel
theorem d_AckBookModel_comeIn_219 : decode c_AckBookModel_comeIn 219 = .ok (.getfield 88, 3) := by decide +kernel
theorem d_AckBookModel_comeIn_222 : decode c_AckBookModel_comeIn 222 = .ok (.iload_n 1, 1) := by decide +kernel
theorem d_AckBookModel_comeIn_223 : decode c_AckBookModel_comeIn 223 = .ok (.aload_n 0, 1) := by decide +kernel
theorem d_AckBookModel_comeIn_224 : decode c_AckBookModel_comeIn 224 = .ok (.getfield 85, 3) := by decide +kernel
theorem d_AckBookModel_comeIn_227 : decode c_AckBookModel_comeIn 227 = .ok (.bipush (65), 2) := by decide +kernel
theorem d_AckBookModel_comeIn_229 : decode c_AckBookModel_comeIn 229 = .ok (.iload_n 1, 1) := by decide +kernel
theorem d_AckBookModel_comeIn_230 : decode c_AckBookModel_comeIn 230 = .ok (.imul, 1) := by decide +kernel
theorem d_AckBookModel_comeIn_231 : decode c_AckBookModel_comeIn 231 = .ok (.laload, 1) := by decide +kernel
theorem d_AckBookModel_comeIn_232 : decode c_AckBookModel_comeIn 232 = .ok (.lconst 1, 1) := by decide +kernel
theorem d_AckBookModel_comeIn_233 : decode c_AckBookModel_comeIn 233 = .ok (.ladd, 1) := by decide +kernel
theorem d_AckBookModel_comeIn_234 : decode c_AckBookModel_comeIn 234 = .ok (.lastore, 1) := by decide +kernel
theorem d_AckBookModel_comeIn_235 : decode c_AckBookModel_comeIn 235 = .ok (.aload_n 0, 1) := by decide +kernel
theorem d_AckBookModel_comeIn_236 : decode c_AckBookModel_comeIn 236 = .ok (.iload_n 1, 1) := by decide +kernel
theorem d_AckBookModel_comeIn_237 : decode c_AckBookModel_comeIn 237 = .ok (.bipush (65), 2) := by decide +kernel
theorem d_AckBookModel_comeIn_239 : decode c_AckBookModel_comeIn 239 = .ok (.iload_n 1, 1) := by decide +kernel
theorem d_AckBookModel_comeIn_240 : decode c_AckBookModel_comeIn 240 = .ok (.imul, 1) := by decide +kernel
theorem d_AckBookModel_comeIn_241 : decode c_AckBookModel_comeIn 241 = .ok (.invokevirtual 197, 3) := by decide +kernel
theorem d_AckBookModel_comeIn_168 : decode c_AckBookModel_comeIn 168 = .ok (.aload_n 0, 1) := by decide +kernel
theorem d_AckBookModel_comeIn_169 : decode c_AckBookModel_comeIn 169 = .ok (.getfield 85, 3) := by decide +kernel
theorem d_AckBookModel_comeIn_172 : decode c_AckBookModel_comeIn 172 = .ok (.iload 4, 2) := by decide +kernel
theorem d_AckBookModel_comeIn_174 : decode c_AckBookModel_comeIn 174 = .ok (.iconst (1), 1) := by decide +kernel
theorem d_AckBookModel_comeIn_175 : decode c_AckBookModel_comeIn 175 = .ok (.isub, 1) := by decide +kernel
theorem d_AckBookModel_comeIn_176 : decode c_AckBookModel_comeIn 176 = .ok (.laload, 1) := by decide +kernel
theorem d_AckBookModel_comeIn_177 : decode c_AckBookModel_comeIn 177 = .ok (.lload_n 2, 1) := by decide +kernel
theorem d_AckBookModel_comeIn_178 : decode c_AckBookModel_comeIn 178 = .ok (.lconst 1, 1) := by decide +kernel
theorem d_AckBookModel_comeIn_179 : decode c_AckBookModel_comeIn 179 = .ok (.lsub, 1) := by decide +kernel
theorem d_AckBookModel_comeIn_180 : decode c_AckBookModel_comeIn 180 = .ok (.lcmp, 1) := by decide +kernel
theorem d_AckBookModel_comeIn_181 : decode c_AckBookModel_comeIn 181 = .ok (.ifCond .ne (26), 3) := by decide +kernel
theorem d_AckBookModel_comeIn_184 : decode c_AckBookModel_comeIn 184 = .ok (.aload_n 0, 1) := by decide +kernel
theorem d_AckBookModel_comeIn_185 : decode c_AckBookModel_comeIn 185 = .ok (.getfield 85, 3) := by decide +kernel
theorem d_AckBookModel_comeIn_188 : decode c_AckBookModel_comeIn 188 = .ok (.iload 4, 2) := by decide +kernel
theorem d_AckBookModel_comeIn_190 : decode c_AckBookModel_comeIn 190 = .ok (.iconst (1), 1) := by decide +kernel
theorem d_AckBookModel_comeIn_191 : decode c_AckBookModel_comeIn 191 = .ok (.isub, 1) := by decide +kernel
theorem d_AckBookModel_comeIn_192 : decode c_AckBookModel_comeIn 192 = .ok (.aload_n 0, 1) := by decide +kernel
theorem d_AckBookModel_comeIn_193 : decode c_AckBookModel_comeIn 193 = .ok (.getfield 85, 3) := by decide +kernel
