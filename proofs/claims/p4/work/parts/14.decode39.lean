theorem d_AckBookLaw_law_120 : decode c_AckBookLaw_law 120 = .ok (.iload 4, 2) := by decide +kernel
theorem d_AckBookLaw_law_122 : decode c_AckBookLaw_law 122 = .ok (.iconst (2), 1) := by decide +kernel
theorem d_AckBookLaw_law_123 : decode c_AckBookLaw_law 123 = .ok (.iadd, 1) := by decide +kernel
theorem d_AckBookLaw_law_124 : decode c_AckBookLaw_law 124 = .ok (.iaload, 1) := by decide +kernel
theorem d_AckBookLaw_law_125 : decode c_AckBookLaw_law 125 = .ok (.aload_n 0, 1) := by decide +kernel
theorem d_AckBookLaw_law_126 : decode c_AckBookLaw_law 126 = .ok (.iload 4, 2) := by decide +kernel
theorem d_AckBookLaw_law_128 : decode c_AckBookLaw_law 128 = .ok (.iconst (3), 1) := by decide +kernel
theorem d_AckBookLaw_law_129 : decode c_AckBookLaw_law 129 = .ok (.iadd, 1) := by decide +kernel
theorem d_AckBookLaw_law_130 : decode c_AckBookLaw_law 130 = .ok (.iaload, 1) := by decide +kernel
theorem d_AckBookLaw_law_131 : decode c_AckBookLaw_law 131 = .ok (.ifCond .eq (7), 3) := by decide +kernel
theorem d_AckBookLaw_law_138 : decode c_AckBookLaw_law 138 = .ok (.iconst (0), 1) := by decide +kernel
theorem d_AckBookLaw_law_134 : decode c_AckBookLaw_law 134 = .ok (.iconst (1), 1) := by decide +kernel
theorem d_AckBookLaw_law_135 : decode c_AckBookLaw_law 135 = .ok (.goto (4), 3) := by decide +kernel
theorem d_AckBookLaw_law_208 : decode c_AckBookLaw_law 208 = .ok (.aload_n 1, 1) := by decide +kernel
theorem d_AckBookLaw_law_209 : decode c_AckBookLaw_law 209 = .ok (.aload_n 0, 1) := by decide +kernel
theorem d_AckBookLaw_law_210 : decode c_AckBookLaw_law 210 = .ok (.iload 4, 2) := by decide +kernel
theorem d_AckBookLaw_law_212 : decode c_AckBookLaw_law 212 = .ok (.iconst (1), 1) := by decide +kernel
theorem d_AckBookLaw_law_213 : decode c_AckBookLaw_law 213 = .ok (.iadd, 1) := by decide +kernel
theorem d_AckBookLaw_law_214 : decode c_AckBookLaw_law 214 = .ok (.iaload, 1) := by decide +kernel
theorem d_AckBookLaw_law_215 : decode c_AckBookLaw_law 215 = .ok (.i2l, 1) := by decide +kernel
theorem d_AckBookLaw_law_216 : decode c_AckBookLaw_law 216 = .ok (.bipush (32), 2) := by decide +kernel
theorem d_AckBookLaw_law_218 : decode c_AckBookLaw_law 218 = .ok (.lshl, 1) := by decide +kernel
theorem d_AckBookLaw_law_219 : decode c_AckBookLaw_law 219 = .ok (.aload_n 0, 1) := by decide +kernel
theorem d_AckBookLaw_law_220 : decode c_AckBookLaw_law 220 = .ok (.iload 4, 2) := by decide +kernel
theorem d_AckBookLaw_law_222 : decode c_AckBookLaw_law 222 = .ok (.iconst (2), 1) := by decide +kernel
theorem d_AckBookLaw_law_223 : decode c_AckBookLaw_law 223 = .ok (.iadd, 1) := by decide +kernel
theorem d_AckBookLaw_law_224 : decode c_AckBookLaw_law 224 = .ok (.iaload, 1) := by decide +kernel
theorem d_AckBookLaw_law_225 : decode c_AckBookLaw_law 225 = .ok (.i2l, 1) := by decide +kernel
theorem d_AckBookLaw_law_226 : decode c_AckBookLaw_law 226 = .ok (.ldc2_w 71, 3) := by decide +kernel
theorem d_AckBookLaw_law_229 : decode c_AckBookLaw_law 229 = .ok (.land, 1) := by decide +kernel
theorem d_AckBookLaw_law_230 : decode c_AckBookLaw_law 230 = .ok (.lor, 1) := by decide +kernel
theorem d_AckBookLaw_law_231 : decode c_AckBookLaw_law 231 = .ok (.aload_n 0, 1) := by decide +kernel
theorem d_AckBookLaw_law_232 : decode c_AckBookLaw_law 232 = .ok (.iload 4, 2) := by decide +kernel
theorem d_AckBookLaw_law_234 : decode c_AckBookLaw_law 234 = .ok (.iconst (3), 1) := by decide +kernel
theorem d_AckBookLaw_law_235 : decode c_AckBookLaw_law 235 = .ok (.iadd, 1) := by decide +kernel
theorem d_AckBookLaw_law_236 : decode c_AckBookLaw_law 236 = .ok (.iaload, 1) := by decide +kernel
theorem d_AckBookLaw_law_237 : decode c_AckBookLaw_law 237 = .ok (.i2l, 1) := by decide +kernel
theorem d_AckBookLaw_law_238 : decode c_AckBookLaw_law 238 = .ok (.bipush (32), 2) := by decide +kernel
theorem d_AckBookLaw_law_240 : decode c_AckBookLaw_law 240 = .ok (.lshl, 1) := by decide +kernel
theorem d_AckBookLaw_law_241 : decode c_AckBookLaw_law 241 = .ok (.aload_n 0, 1) := by decide +kernel
theorem d_AckBookLaw_law_242 : decode c_AckBookLaw_law 242 = .ok (.iload 4, 2) := by decide +kernel
theorem d_AckBookLaw_law_244 : decode c_AckBookLaw_law 244 = .ok (.iconst (4), 1) := by decide +kernel
theorem d_AckBookLaw_law_245 : decode c_AckBookLaw_law 245 = .ok (.iadd, 1) := by decide +kernel
theorem d_AckBookLaw_law_246 : decode c_AckBookLaw_law 246 = .ok (.iaload, 1) := by decide +kernel
theorem d_AckBookLaw_law_247 : decode c_AckBookLaw_law 247 = .ok (.i2l, 1) := by decide +kernel
theorem d_AckBookLaw_law_248 : decode c_AckBookLaw_law 248 = .ok (.ldc2_w 71, 3) := by decide +kernel
theorem d_AckBookLaw_law_251 : decode c_AckBookLaw_law 251 = .ok (.land, 1) := by decide +kernel
theorem d_AckBookLaw_law_252 : decode c_AckBookLaw_law 252 = .ok (.lor, 1) := by decide +kernel
theorem d_AckBookLaw_law_253 : decode c_AckBookLaw_law 253 = .ok (.aload_n 3, 1) := by decide +kernel
theorem d_AckBookLaw_law_254 : decode c_AckBookLaw_law 254 = .ok (.invokestatic 73, 3) := by decide +kernel
theorem d_AckBookLaw_law_257 : decode c_AckBookLaw_law 257 = .ok (.istore 5, 2) := by decide +kernel
theorem d_AckBookLaw_law_259 : decode c_AckBookLaw_law 259 = .ok (.aload_n 2, 1) := by decide +kernel
theorem d_AckBookLaw_law_260 : decode c_AckBookLaw_law 260 = .ok (.aload_n 0, 1) := by decide +kernel
theorem d_AckBookLaw_law_261 : decode c_AckBookLaw_law 261 = .ok (.iload 4, 2) := by decide +kernel
theorem d_AckBookLaw_law_263 : decode c_AckBookLaw_law 263 = .ok (.iconst (1), 1) := by decide +kernel
theorem d_AckBookLaw_law_264 : decode c_AckBookLaw_law 264 = .ok (.iadd, 1) := by decide +kernel
theorem d_AckBookLaw_law_265 : decode c_AckBookLaw_law 265 = .ok (.iaload, 1) := by decide +kernel
theorem d_AckBookLaw_law_266 : decode c_AckBookLaw_law 266 = .ok (.i2l, 1) := by decide +kernel
theorem d_AckBookLaw_law_267 : decode c_AckBookLaw_law 267 = .ok (.bipush (32), 2) := by decide +kernel
theorem d_AckBookLaw_law_269 : decode c_AckBookLaw_law 269 = .ok (.lshl, 1) := by decide +kernel
theorem d_AckBookLaw_law_270 : decode c_AckBookLaw_law 270 = .ok (.aload_n 0, 1) := by decide +kernel
theorem d_AckBookLaw_law_271 : decode c_AckBookLaw_law 271 = .ok (.iload 4, 2) := by decide +kernel
theorem d_AckBookLaw_law_273 : decode c_AckBookLaw_law 273 = .ok (.iconst (2), 1) := by decide +kernel
theorem d_AckBookLaw_law_274 : decode c_AckBookLaw_law 274 = .ok (.iadd, 1) := by decide +kernel
theorem d_AckBookLaw_law_275 : decode c_AckBookLaw_law 275 = .ok (.iaload, 1) := by decide +kernel
theorem d_AckBookLaw_law_276 : decode c_AckBookLaw_law 276 = .ok (.i2l, 1) := by decide +kernel
theorem d_AckBookLaw_law_277 : decode c_AckBookLaw_law 277 = .ok (.ldc2_w 71, 3) := by decide +kernel
theorem d_AckBookLaw_law_280 : decode c_AckBookLaw_law 280 = .ok (.land, 1) := by decide +kernel
theorem d_AckBookLaw_law_281 : decode c_AckBookLaw_law 281 = .ok (.lor, 1) := by decide +kernel
theorem d_AckBookLaw_law_282 : decode c_AckBookLaw_law 282 = .ok (.aload_n 0, 1) := by decide +kernel
theorem d_AckBookLaw_law_283 : decode c_AckBookLaw_law 283 = .ok (.iload 4, 2) := by decide +kernel
theorem d_AckBookLaw_law_285 : decode c_AckBookLaw_law 285 = .ok (.iconst (3), 1) := by decide +kernel
theorem d_AckBookLaw_law_286 : decode c_AckBookLaw_law 286 = .ok (.iadd, 1) := by decide +kernel
theorem d_AckBookLaw_law_287 : decode c_AckBookLaw_law 287 = .ok (.iaload, 1) := by decide +kernel
theorem d_AckBookLaw_law_288 : decode c_AckBookLaw_law 288 = .ok (.i2l, 1) := by decide +kernel
theorem d_AckBookLaw_law_289 : decode c_AckBookLaw_law 289 = .ok (.bipush (32), 2) := by decide +kernel
theorem d_AckBookLaw_law_291 : decode c_AckBookLaw_law 291 = .ok (.lshl, 1) := by decide +kernel
theorem d_AckBookLaw_law_292 : decode c_AckBookLaw_law 292 = .ok (.aload_n 0, 1) := by decide +kernel
theorem d_AckBookLaw_law_293 : decode c_AckBookLaw_law 293 = .ok (.iload 4, 2) := by decide +kernel
theorem d_AckBookLaw_law_295 : decode c_AckBookLaw_law 295 = .ok (.iconst (4), 1) := by decide +kernel
theorem d_AckBookLaw_law_296 : decode c_AckBookLaw_law 296 = .ok (.iadd, 1) := by decide +kernel
theorem d_AckBookLaw_law_297 : decode c_AckBookLaw_law 297 = .ok (.iaload, 1) := by decide +kernel
theorem d_AckBookLaw_law_298 : decode c_AckBookLaw_law 298 = .ok (.i2l, 1) := by decide +kernel
theorem d_AckBookLaw_law_299 : decode c_AckBookLaw_law 299 = .ok (.ldc2_w 71, 3) := by decide +kernel
theorem d_AckBookLaw_law_302 : decode c_AckBookLaw_law 302 = .ok (.land, 1) := by decide +kernel
theorem d_AckBookLaw_law_303 : decode c_AckBookLaw_law 303 = .ok (.lor, 1) := by decide +kernel
theorem d_AckBookLaw_law_304 : decode c_AckBookLaw_law 304 = .ok (.invokevirtual 76, 3) := by decide +kernel
theorem d_AckBookLaw_law_307 : decode c_AckBookLaw_law 307 = .ok (.istore 6, 2) := by decide +kernel
theorem d_AckBookLaw_law_309 : decode c_AckBookLaw_law 309 = .ok (.goto (547), 3) := by decide +kernel
theorem d_AckBookLaw_law_312 : decode c_AckBookLaw_law 312 = .ok (.aload_n 1, 1) := by decide +kernel
theorem d_AckBookLaw_law_313 : decode c_AckBookLaw_law 313 = .ok (.aload_n 0, 1) := by decide +kernel
theorem d_AckBookLaw_law_314 : decode c_AckBookLaw_law 314 = .ok (.iload 4, 2) := by decide +kernel
theorem d_AckBookLaw_law_316 : decode c_AckBookLaw_law 316 = .ok (.iconst (1), 1) := by decide +kernel
theorem d_AckBookLaw_law_317 : decode c_AckBookLaw_law 317 = .ok (.iadd, 1) := by decide +kernel
theorem d_AckBookLaw_law_318 : decode c_AckBookLaw_law 318 = .ok (.iaload, 1) := by decide +kernel
theorem d_AckBookLaw_law_319 : decode c_AckBookLaw_law 319 = .ok (.aload_n 0, 1) := by decide +kernel
theorem d_AckBookLaw_law_320 : decode c_AckBookLaw_law 320 = .ok (.iload 4, 2) := by decide +kernel
theorem d_AckBookLaw_law_322 : decode c_AckBookLaw_law 322 = .ok (.iconst (2), 1) := by decide +kernel
theorem d_AckBookLaw_law_323 : decode c_AckBookLaw_law 323 = .ok (.iadd, 1) := by decide +kernel
theorem d_AckBookLaw_law_324 : decode c_AckBookLaw_law 324 = .ok (.iaload, 1) := by decide +kernel
theorem d_AckBookLaw_law_325 : decode c_AckBookLaw_law 325 = .ok (.aload_n 3, 1) := by decide +kernel
theorem d_AckBookLaw_law_326 : decode c_AckBookLaw_law 326 = .ok (.invokestatic 77, 3) := by decide +kernel
theorem d_AckBookLaw_law_329 : decode c_AckBookLaw_law 329 = .ok (.istore 5, 2) := by decide +kernel
theorem d_AckBookLaw_law_331 : decode c_AckBookLaw_law 331 = .ok (.aload_n 2, 1) := by decide +kernel
theorem d_AckBookLaw_law_332 : decode c_AckBookLaw_law 332 = .ok (.aload_n 0, 1) := by decide +kernel
theorem d_AckBookLaw_law_333 : decode c_AckBookLaw_law 333 = .ok (.iload 4, 2) := by decide +kernel
theorem d_AckBookLaw_law_335 : decode c_AckBookLaw_law 335 = .ok (.iconst (1), 1) := by decide +kernel
theorem d_AckBookLaw_law_336 : decode c_AckBookLaw_law 336 = .ok (.iadd, 1) := by decide +kernel
theorem d_AckBookLaw_law_337 : decode c_AckBookLaw_law 337 = .ok (.iaload, 1) := by decide +kernel
theorem d_AckBookLaw_law_338 : decode c_AckBookLaw_law 338 = .ok (.aload_n 0, 1) := by decide +kernel
theorem d_AckBookLaw_law_339 : decode c_AckBookLaw_law 339 = .ok (.iload 4, 2) := by decide +kernel
theorem d_AckBookLaw_law_341 : decode c_AckBookLaw_law 341 = .ok (.iconst (2), 1) := by decide +kernel
theorem d_AckBookLaw_law_342 : decode c_AckBookLaw_law 342 = .ok (.iadd, 1) := by decide +kernel
theorem d_AckBookLaw_law_343 : decode c_AckBookLaw_law 343 = .ok (.iaload, 1) := by decide +kernel
theorem d_AckBookLaw_law_344 : decode c_AckBookLaw_law 344 = .ok (.invokevirtual 80, 3) := by decide +kernel
theorem d_AckBookLaw_law_347 : decode c_AckBookLaw_law 347 = .ok (.istore 6, 2) := by decide +kernel
theorem d_AckBookLaw_law_349 : decode c_AckBookLaw_law 349 = .ok (.aload_n 2, 1) := by decide +kernel
theorem d_AckBookLaw_law_350 : decode c_AckBookLaw_law 350 = .ok (.invokevirtual 81, 3) := by decide +kernel
theorem d_AckBookLaw_law_353 : decode c_AckBookLaw_law 353 = .ok (.iload 5, 2) := by decide +kernel
theorem d_AckBookLaw_law_355 : decode c_AckBookLaw_law 355 = .ok (.if_icmp .eq (5), 3) := by decide +kernel
