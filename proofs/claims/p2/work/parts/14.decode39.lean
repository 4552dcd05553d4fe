theorem d_AckBookLaw_law_28 : decode c_AckBookLaw_law 28 = .ok (.isub, 1) := by decide +kernel
theorem d_AckBookLaw_law_29 : decode c_AckBookLaw_law 29 = .ok (.if_icmp .gt (833), 3) := by decide +kernel
theorem d_AckBookLaw_law_862 : decode c_AckBookLaw_law 862 = .ok (.iconst (1), 1) := by decide +kernel
theorem d_AckBookLaw_law_863 : decode c_AckBookLaw_law 863 = .ok (.ireturn, 1) := by decide +kernel
theorem d_AckBookLaw_law_32 : decode c_AckBookLaw_law 32 = .ok (.aload_n 0, 1) := by decide +kernel
theorem d_AckBookLaw_law_33 : decode c_AckBookLaw_law 33 = .ok (.iload 4, 2) := by decide +kernel
theorem d_AckBookLaw_law_35 : decode c_AckBookLaw_law 35 = .ok (.iaload, 1) := by decide +kernel
theorem d_AckBookLaw_law_36 : decode c_AckBookLaw_law 36 = .ok (.bipush (15), 2) := by decide +kernel
theorem d_AckBookLaw_law_38 : decode c_AckBookLaw_law 38 = .ok (.iand, 1) := by decide +kernel
theorem d_AckBookLaw_law_39 : decode c_AckBookLaw_law 39 = .ok (.tableswitch (817) (0) (14) #[73, 197, 301, 341, 354, 379, 390, 429, 485, 525, 625, 653, 681, 749, 777], 73) := by decide +kernel
theorem d_AckBookLaw_law_112 : decode c_AckBookLaw_law 112 = .ok (.aload_n 1, 1) := by decide +kernel
theorem d_AckBookLaw_law_113 : decode c_AckBookLaw_law 113 = .ok (.aload_n 0, 1) := by decide +kernel
theorem d_AckBookLaw_law_114 : decode c_AckBookLaw_law 114 = .ok (.iload 4, 2) := by decide +kernel
theorem d_AckBookLaw_law_116 : decode c_AckBookLaw_law 116 = .ok (.iconst (1), 1) := by decide +kernel
theorem d_AckBookLaw_law_117 : decode c_AckBookLaw_law 117 = .ok (.iadd, 1) := by decide +kernel
theorem d_AckBookLaw_law_118 : decode c_AckBookLaw_law 118 = .ok (.iaload, 1) := by decide +kernel
theorem d_AckBookLaw_law_119 : decode c_AckBookLaw_law 119 = .ok (.aload_n 0, 1) := by decide +kernel
theorem d_AckBookLaw_law_120 : decode c_AckBookLaw_law 120 = .ok (.iload 4, 2) := by decide +kernel
theorem d_AckBookLaw_law_122 : decode c_AckBookLaw_law 122 = .ok (.iconst (2), 1) := by decide +kernel
theorem d_AckBookLaw_law_123 : decode c_AckBookLaw_law 123 = .ok (.iadd, 1) := by decide +kernel
theorem d_AckBookLaw_law_124 : decode c_AckBookLaw_law 124 = .ok (.iaload, 1) := by decide +kernel
theorem d_AckBookLaw_law_125 : decode c_AckBookLaw_law 125 = .ok (.aload_n 0, 1) := by decide +kernel
theorem d_AckBookLaw_law_126 : decode c_AckBookLaw_law 126 = .ok (.iload 4, 2) := by decide +kernel
theorem d_AckBookLaw_law_128 : decode c_AckBookLaw_law 128 = .ok (.iconst (3), 1) := by decide +kernel
theorem d_AckBookLaw_law_129 : decode c_AckBookLaw_law 129 = .ok (.iadd, 1) := by decide +kernel
theorem d_AckBookLaw_law_130 : decode c_AckBookLaw_law 130 = .ok (.iaload, 1) := by decide +kernel
theorem d_AckBookLaw_law_131 : decode c_AckBookLaw_law 131 = .ok (.ifCond .eq (7), 3) := by decide +kernel
theorem d_AckBookLaw_law_138 : decode c_AckBookLaw_law 138 = .ok (.iconst (0), 1) := by decide +kernel
theorem d_AckBookLaw_law_134 : decode c_AckBookLaw_law 134 = .ok (.iconst (1), 1) := by decide +kernel
theorem d_AckBookLaw_law_135 : decode c_AckBookLaw_law 135 = .ok (.goto (4), 3) := by decide +kernel
theorem d_AckBookLaw_law_236 : decode c_AckBookLaw_law 236 = .ok (.aload_n 1, 1) := by decide +kernel
theorem d_AckBookLaw_law_237 : decode c_AckBookLaw_law 237 = .ok (.aload_n 0, 1) := by decide +kernel
theorem d_AckBookLaw_law_238 : decode c_AckBookLaw_law 238 = .ok (.iload 4, 2) := by decide +kernel
theorem d_AckBookLaw_law_240 : decode c_AckBookLaw_law 240 = .ok (.iconst (1), 1) := by decide +kernel
theorem d_AckBookLaw_law_241 : decode c_AckBookLaw_law 241 = .ok (.iadd, 1) := by decide +kernel
theorem d_AckBookLaw_law_242 : decode c_AckBookLaw_law 242 = .ok (.iaload, 1) := by decide +kernel
theorem d_AckBookLaw_law_243 : decode c_AckBookLaw_law 243 = .ok (.i2l, 1) := by decide +kernel
theorem d_AckBookLaw_law_244 : decode c_AckBookLaw_law 244 = .ok (.bipush (32), 2) := by decide +kernel
theorem d_AckBookLaw_law_246 : decode c_AckBookLaw_law 246 = .ok (.lshl, 1) := by decide +kernel
theorem d_AckBookLaw_law_247 : decode c_AckBookLaw_law 247 = .ok (.aload_n 0, 1) := by decide +kernel
theorem d_AckBookLaw_law_248 : decode c_AckBookLaw_law 248 = .ok (.iload 4, 2) := by decide +kernel
theorem d_AckBookLaw_law_250 : decode c_AckBookLaw_law 250 = .ok (.iconst (2), 1) := by decide +kernel
theorem d_AckBookLaw_law_251 : decode c_AckBookLaw_law 251 = .ok (.iadd, 1) := by decide +kernel
theorem d_AckBookLaw_law_252 : decode c_AckBookLaw_law 252 = .ok (.iaload, 1) := by decide +kernel
theorem d_AckBookLaw_law_253 : decode c_AckBookLaw_law 253 = .ok (.i2l, 1) := by decide +kernel
theorem d_AckBookLaw_law_254 : decode c_AckBookLaw_law 254 = .ok (.ldc2_w 75, 3) := by decide +kernel
theorem d_AckBookLaw_law_257 : decode c_AckBookLaw_law 257 = .ok (.land, 1) := by decide +kernel
theorem d_AckBookLaw_law_258 : decode c_AckBookLaw_law 258 = .ok (.lor, 1) := by decide +kernel
theorem d_AckBookLaw_law_259 : decode c_AckBookLaw_law 259 = .ok (.aload_n 0, 1) := by decide +kernel
theorem d_AckBookLaw_law_260 : decode c_AckBookLaw_law 260 = .ok (.iload 4, 2) := by decide +kernel
theorem d_AckBookLaw_law_262 : decode c_AckBookLaw_law 262 = .ok (.iconst (3), 1) := by decide +kernel
theorem d_AckBookLaw_law_263 : decode c_AckBookLaw_law 263 = .ok (.iadd, 1) := by decide +kernel
theorem d_AckBookLaw_law_264 : decode c_AckBookLaw_law 264 = .ok (.iaload, 1) := by decide +kernel
theorem d_AckBookLaw_law_265 : decode c_AckBookLaw_law 265 = .ok (.i2l, 1) := by decide +kernel
theorem d_AckBookLaw_law_266 : decode c_AckBookLaw_law 266 = .ok (.bipush (32), 2) := by decide +kernel
theorem d_AckBookLaw_law_268 : decode c_AckBookLaw_law 268 = .ok (.lshl, 1) := by decide +kernel
theorem d_AckBookLaw_law_269 : decode c_AckBookLaw_law 269 = .ok (.aload_n 0, 1) := by decide +kernel
theorem d_AckBookLaw_law_270 : decode c_AckBookLaw_law 270 = .ok (.iload 4, 2) := by decide +kernel
theorem d_AckBookLaw_law_272 : decode c_AckBookLaw_law 272 = .ok (.iconst (4), 1) := by decide +kernel
theorem d_AckBookLaw_law_273 : decode c_AckBookLaw_law 273 = .ok (.iadd, 1) := by decide +kernel
theorem d_AckBookLaw_law_274 : decode c_AckBookLaw_law 274 = .ok (.iaload, 1) := by decide +kernel
theorem d_AckBookLaw_law_275 : decode c_AckBookLaw_law 275 = .ok (.i2l, 1) := by decide +kernel
theorem d_AckBookLaw_law_276 : decode c_AckBookLaw_law 276 = .ok (.ldc2_w 75, 3) := by decide +kernel
theorem d_AckBookLaw_law_279 : decode c_AckBookLaw_law 279 = .ok (.land, 1) := by decide +kernel
theorem d_AckBookLaw_law_280 : decode c_AckBookLaw_law 280 = .ok (.lor, 1) := by decide +kernel
theorem d_AckBookLaw_law_281 : decode c_AckBookLaw_law 281 = .ok (.aload_n 3, 1) := by decide +kernel
theorem d_AckBookLaw_law_282 : decode c_AckBookLaw_law 282 = .ok (.invokestatic 77, 3) := by decide +kernel
theorem d_AckBookLaw_law_285 : decode c_AckBookLaw_law 285 = .ok (.istore 5, 2) := by decide +kernel
theorem d_AckBookLaw_law_287 : decode c_AckBookLaw_law 287 = .ok (.aload_n 2, 1) := by decide +kernel
theorem d_AckBookLaw_law_288 : decode c_AckBookLaw_law 288 = .ok (.aload_n 0, 1) := by decide +kernel
theorem d_AckBookLaw_law_289 : decode c_AckBookLaw_law 289 = .ok (.iload 4, 2) := by decide +kernel
theorem d_AckBookLaw_law_291 : decode c_AckBookLaw_law 291 = .ok (.iconst (1), 1) := by decide +kernel
theorem d_AckBookLaw_law_292 : decode c_AckBookLaw_law 292 = .ok (.iadd, 1) := by decide +kernel
theorem d_AckBookLaw_law_293 : decode c_AckBookLaw_law 293 = .ok (.iaload, 1) := by decide +kernel
theorem d_AckBookLaw_law_294 : decode c_AckBookLaw_law 294 = .ok (.i2l, 1) := by decide +kernel
theorem d_AckBookLaw_law_295 : decode c_AckBookLaw_law 295 = .ok (.bipush (32), 2) := by decide +kernel
theorem d_AckBookLaw_law_297 : decode c_AckBookLaw_law 297 = .ok (.lshl, 1) := by decide +kernel
theorem d_AckBookLaw_law_298 : decode c_AckBookLaw_law 298 = .ok (.aload_n 0, 1) := by decide +kernel
theorem d_AckBookLaw_law_299 : decode c_AckBookLaw_law 299 = .ok (.iload 4, 2) := by decide +kernel
theorem d_AckBookLaw_law_301 : decode c_AckBookLaw_law 301 = .ok (.iconst (2), 1) := by decide +kernel
theorem d_AckBookLaw_law_302 : decode c_AckBookLaw_law 302 = .ok (.iadd, 1) := by decide +kernel
theorem d_AckBookLaw_law_303 : decode c_AckBookLaw_law 303 = .ok (.iaload, 1) := by decide +kernel
theorem d_AckBookLaw_law_304 : decode c_AckBookLaw_law 304 = .ok (.i2l, 1) := by decide +kernel
theorem d_AckBookLaw_law_305 : decode c_AckBookLaw_law 305 = .ok (.ldc2_w 75, 3) := by decide +kernel
theorem d_AckBookLaw_law_308 : decode c_AckBookLaw_law 308 = .ok (.land, 1) := by decide +kernel
theorem d_AckBookLaw_law_309 : decode c_AckBookLaw_law 309 = .ok (.lor, 1) := by decide +kernel
theorem d_AckBookLaw_law_310 : decode c_AckBookLaw_law 310 = .ok (.aload_n 0, 1) := by decide +kernel
theorem d_AckBookLaw_law_311 : decode c_AckBookLaw_law 311 = .ok (.iload 4, 2) := by decide +kernel
theorem d_AckBookLaw_law_313 : decode c_AckBookLaw_law 313 = .ok (.iconst (3), 1) := by decide +kernel
theorem d_AckBookLaw_law_314 : decode c_AckBookLaw_law 314 = .ok (.iadd, 1) := by decide +kernel
theorem d_AckBookLaw_law_315 : decode c_AckBookLaw_law 315 = .ok (.iaload, 1) := by decide +kernel
theorem d_AckBookLaw_law_316 : decode c_AckBookLaw_law 316 = .ok (.i2l, 1) := by decide +kernel
theorem d_AckBookLaw_law_317 : decode c_AckBookLaw_law 317 = .ok (.bipush (32), 2) := by decide +kernel
theorem d_AckBookLaw_law_319 : decode c_AckBookLaw_law 319 = .ok (.lshl, 1) := by decide +kernel
theorem d_AckBookLaw_law_320 : decode c_AckBookLaw_law 320 = .ok (.aload_n 0, 1) := by decide +kernel
theorem d_AckBookLaw_law_321 : decode c_AckBookLaw_law 321 = .ok (.iload 4, 2) := by decide +kernel
theorem d_AckBookLaw_law_323 : decode c_AckBookLaw_law 323 = .ok (.iconst (4), 1) := by decide +kernel
theorem d_AckBookLaw_law_324 : decode c_AckBookLaw_law 324 = .ok (.iadd, 1) := by decide +kernel
theorem d_AckBookLaw_law_325 : decode c_AckBookLaw_law 325 = .ok (.iaload, 1) := by decide +kernel
theorem d_AckBookLaw_law_326 : decode c_AckBookLaw_law 326 = .ok (.i2l, 1) := by decide +kernel
theorem d_AckBookLaw_law_327 : decode c_AckBookLaw_law 327 = .ok (.ldc2_w 75, 3) := by decide +kernel
theorem d_AckBookLaw_law_330 : decode c_AckBookLaw_law 330 = .ok (.land, 1) := by decide +kernel
theorem d_AckBookLaw_law_331 : decode c_AckBookLaw_law 331 = .ok (.lor, 1) := by decide +kernel
theorem d_AckBookLaw_law_332 : decode c_AckBookLaw_law 332 = .ok (.invokevirtual 80, 3) := by decide +kernel
theorem d_AckBookLaw_law_335 : decode c_AckBookLaw_law 335 = .ok (.istore 6, 2) := by decide +kernel
theorem d_AckBookLaw_law_337 : decode c_AckBookLaw_law 337 = .ok (.goto (519), 3) := by decide +kernel
theorem d_AckBookLaw_law_340 : decode c_AckBookLaw_law 340 = .ok (.aload_n 1, 1) := by decide +kernel
theorem d_AckBookLaw_law_341 : decode c_AckBookLaw_law 341 = .ok (.aload_n 0, 1) := by decide +kernel
theorem d_AckBookLaw_law_342 : decode c_AckBookLaw_law 342 = .ok (.iload 4, 2) := by decide +kernel
theorem d_AckBookLaw_law_344 : decode c_AckBookLaw_law 344 = .ok (.iconst (1), 1) := by decide +kernel
theorem d_AckBookLaw_law_345 : decode c_AckBookLaw_law 345 = .ok (.iadd, 1) := by decide +kernel
theorem d_AckBookLaw_law_346 : decode c_AckBookLaw_law 346 = .ok (.iaload, 1) := by decide +kernel
theorem d_AckBookLaw_law_347 : decode c_AckBookLaw_law 347 = .ok (.aload_n 0, 1) := by decide +kernel
theorem d_AckBookLaw_law_348 : decode c_AckBookLaw_law 348 = .ok (.iload 4, 2) := by decide +kernel
theorem d_AckBookLaw_law_350 : decode c_AckBookLaw_law 350 = .ok (.iconst (2), 1) := by decide +kernel
theorem d_AckBookLaw_law_351 : decode c_AckBookLaw_law 351 = .ok (.iadd, 1) := by decide +kernel
theorem d_AckBookLaw_law_352 : decode c_AckBookLaw_law 352 = .ok (.iaload, 1) := by decide +kernel
theorem d_AckBookLaw_law_353 : decode c_AckBookLaw_law 353 = .ok (.aload_n 3, 1) := by decide +kernel
theorem d_AckBookLaw_law_354 : decode c_AckBookLaw_law 354 = .ok (.invokestatic 81, 3) := by decide +kernel
theorem d_AckBookLaw_law_357 : decode c_AckBookLaw_law 357 = .ok (.istore 5, 2) := by decide +kernel
