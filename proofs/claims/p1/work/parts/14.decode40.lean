theorem d_AckBookLaw_law_276 : decode c_AckBookLaw_law 276 = .ok (.ldc2_w 75, 3) := by decide +kernel
theorem d_AckBookLaw_law_279 : decode c_AckBookLaw_law 279 = .ok (.land, 1) := by decide +kernel
theorem d_AckBookLaw_law_280 : decode c_AckBookLaw_law 280 = .ok (.lor, 1) := by decide +kernel
theorem d_AckBookLaw_law_281 : decode c_AckBookLaw_law 281 = .ok (.aload_n 3, 1) := by decide +kernel
theorem d_AckBookLaw_law_282 : decode c_AckBookLaw_law 282 = .ok (.invokestatic 77, 3) := by decide +kernel
theorem d_AckBookLaw_law_285 : decode c_AckBookLaw_law 285 = .ok (.istore 5, 2) := by decide +kernel
theorem d_AckBookLaw_law_287 : decode c_AckBookLaw_law 287 = .ok (.aload_n 2, 1) := by decide +kernel
theorem d_AckBookLaw_law_288 : decode c_AckBookLaw_law 288 = .ok (.aload_n 0, 1) := by decide +kernel
theorem d_AckBookLaw_law_289 : decode c_AckBookLaw_law 289 = .ok (.iload 4, 2) := by decide +kernel
theorem d_AckBookLaw_law_291 : decode c_AckBookLaw_law 291 = .ok (.iconst (1), 1) := by decide +kernel
theorem d_AckBookLaw_law_292 : decode c_AckBookLaw_law 292 = .ok (.iadd, 1) := by decide +kernel
theorem d_AckBookLaw_law_293 : decode c_AckBookLaw_law 293 = .ok (.iaload, 1) := by decide +kernel
theorem d_AckBookLaw_law_294 : decode c_AckBookLaw_law 294 = .ok (.i2l, 1) := by decide +kernel
theorem d_AckBookLaw_law_295 : decode c_AckBookLaw_law 295 = .ok (.bipush (32), 2) := by decide +kernel
theorem d_AckBookLaw_law_297 : decode c_AckBookLaw_law 297 = .ok (.lshl, 1) := by decide +kernel
theorem d_AckBookLaw_law_298 : decode c_AckBookLaw_law 298 = .ok (.aload_n 0, 1) := by decide +kernel
theorem d_AckBookLaw_law_299 : decode c_AckBookLaw_law 299 = .ok (.iload 4, 2) := by decide +kernel
theorem d_AckBookLaw_law_301 : decode c_AckBookLaw_law 301 = .ok (.iconst (2), 1) := by decide +kernel
theorem d_AckBookLaw_law_302 : decode c_AckBookLaw_law 302 = .ok (.iadd, 1) := by decide +kernel
theorem d_AckBookLaw_law_303 : decode c_AckBookLaw_law 303 = .ok (.iaload, 1) := by decide +kernel
theorem d_AckBookLaw_law_304 : decode c_AckBookLaw_law 304 = .ok (.i2l, 1) := by decide +kernel
theorem d_AckBookLaw_law_305 : decode c_AckBookLaw_law 305 = .ok (.ldc2_w 75, 3) := by decide +kernel
theorem d_AckBookLaw_law_308 : decode c_AckBookLaw_law 308 = .ok (.land, 1) := by decide +kernel
theorem d_AckBookLaw_law_309 : decode c_AckBookLaw_law 309 = .ok (.lor, 1) := by decide +kernel
theorem d_AckBookLaw_law_310 : decode c_AckBookLaw_law 310 = .ok (.aload_n 0, 1) := by decide +kernel
theorem d_AckBookLaw_law_311 : decode c_AckBookLaw_law 311 = .ok (.iload 4, 2) := by decide +kernel
theorem d_AckBookLaw_law_313 : decode c_AckBookLaw_law 313 = .ok (.iconst (3), 1) := by decide +kernel
theorem d_AckBookLaw_law_314 : decode c_AckBookLaw_law 314 = .ok (.iadd, 1) := by decide +kernel
theorem d_AckBookLaw_law_315 : decode c_AckBookLaw_law 315 = .ok (.iaload, 1) := by decide +kernel
theorem d_AckBookLaw_law_316 : decode c_AckBookLaw_law 316 = .ok (.i2l, 1) := by decide +kernel
theorem d_AckBookLaw_law_317 : decode c_AckBookLaw_law 317 = .ok (.bipush (32), 2) := by decide +kernel
theorem d_AckBookLaw_law_319 : decode c_AckBookLaw_law 319 = .ok (.lshl, 1) := by decide +kernel
theorem d_AckBookLaw_law_320 : decode c_AckBookLaw_law 320 = .ok (.aload_n 0, 1) := by decide +kernel
theorem d_AckBookLaw_law_321 : decode c_AckBookLaw_law 321 = .ok (.iload 4, 2) := by decide +kernel
theorem d_AckBookLaw_law_323 : decode c_AckBookLaw_law 323 = .ok (.iconst (4), 1) := by decide +kernel
theorem d_AckBookLaw_law_324 : decode c_AckBookLaw_law 324 = .ok (.iadd, 1) := by decide +kernel
theorem d_AckBookLaw_law_325 : decode c_AckBookLaw_law 325 = .ok (.iaload, 1) := by decide +kernel
theorem d_AckBookLaw_law_326 : decode c_AckBookLaw_law 326 = .ok (.i2l, 1) := by decide +kernel
theorem d_AckBookLaw_law_327 : decode c_AckBookLaw_law 327 = .ok (.ldc2_w 75, 3) := by decide +kernel
theorem d_AckBookLaw_law_330 : decode c_AckBookLaw_law 330 = .ok (.land, 1) := by decide +kernel
theorem d_AckBookLaw_law_331 : decode c_AckBookLaw_law 331 = .ok (.lor, 1) := by decide +kernel
theorem d_AckBookLaw_law_332 : decode c_AckBookLaw_law 332 = .ok (.invokevirtual 80, 3) := by decide +kernel
theorem d_AckBookLaw_law_335 : decode c_AckBookLaw_law 335 = .ok (.istore 6, 2) := by decide +kernel
theorem d_AckBookLaw_law_337 : decode c_AckBookLaw_law 337 = .ok (.aload_n 2, 1) := by decide +kernel
theorem d_AckBookLaw_law_338 : decode c_AckBookLaw_law 338 = .ok (.invokevirtual 71, 3) := by decide +kernel
theorem d_AckBookLaw_law_341 : decode c_AckBookLaw_law 341 = .ok (.iload 5, 2) := by decide +kernel
theorem d_AckBookLaw_law_343 : decode c_AckBookLaw_law 343 = .ok (.if_icmp .eq (5), 3) := by decide +kernel
theorem d_AckBookLaw_law_348 : decode c_AckBookLaw_law 348 = .ok (.iload 5, 2) := by decide +kernel
theorem d_AckBookLaw_law_350 : decode c_AckBookLaw_law 350 = .ok (.ifCond .ne (15), 3) := by decide +kernel
theorem d_AckBookLaw_law_353 : decode c_AckBookLaw_law 353 = .ok (.aload_n 3, 1) := by decide +kernel
theorem d_AckBookLaw_law_354 : decode c_AckBookLaw_law 354 = .ok (.iconst (0), 1) := by decide +kernel
theorem d_AckBookLaw_law_355 : decode c_AckBookLaw_law 355 = .ok (.laload, 1) := by decide +kernel
theorem d_AckBookLaw_law_356 : decode c_AckBookLaw_law 356 = .ok (.iload 6, 2) := by decide +kernel
theorem d_AckBookLaw_law_358 : decode c_AckBookLaw_law 358 = .ok (.i2l, 1) := by decide +kernel
theorem d_AckBookLaw_law_359 : decode c_AckBookLaw_law 359 = .ok (.lcmp, 1) := by decide +kernel
theorem d_AckBookLaw_law_360 : decode c_AckBookLaw_law 360 = .ok (.ifCond .eq (5), 3) := by decide +kernel
theorem d_AckBookLaw_law_365 : decode c_AckBookLaw_law 365 = .ok (.goto (794), 3) := by decide +kernel
theorem d_AckBookLaw_law_363 : decode c_AckBookLaw_law 363 = .ok (.iconst (0), 1) := by decide +kernel
theorem d_AckBookLaw_law_364 : decode c_AckBookLaw_law 364 = .ok (.ireturn, 1) := by decide +kernel
theorem d_AckBookLaw_law_346 : decode c_AckBookLaw_law 346 = .ok (.iconst (0), 1) := by decide +kernel
theorem d_AckBookLaw_law_347 : decode c_AckBookLaw_law 347 = .ok (.ireturn, 1) := by decide +kernel
theorem d_AckBookLaw_law_368 : decode c_AckBookLaw_law 368 = .ok (.aload_n 1, 1) := by decide +kernel
theorem d_AckBookLaw_law_369 : decode c_AckBookLaw_law 369 = .ok (.aload_n 0, 1) := by decide +kernel
theorem d_AckBookLaw_law_370 : decode c_AckBookLaw_law 370 = .ok (.iload 4, 2) := by decide +kernel
theorem d_AckBookLaw_law_372 : decode c_AckBookLaw_law 372 = .ok (.iconst (1), 1) := by decide +kernel
theorem d_AckBookLaw_law_373 : decode c_AckBookLaw_law 373 = .ok (.iadd, 1) := by decide +kernel
theorem d_AckBookLaw_law_374 : decode c_AckBookLaw_law 374 = .ok (.iaload, 1) := by decide +kernel
theorem d_AckBookLaw_law_375 : decode c_AckBookLaw_law 375 = .ok (.aload_n 0, 1) := by decide +kernel
theorem d_AckBookLaw_law_376 : decode c_AckBookLaw_law 376 = .ok (.iload 4, 2) := by decide +kernel
theorem d_AckBookLaw_law_378 : decode c_AckBookLaw_law 378 = .ok (.iconst (2), 1) := by decide +kernel
theorem d_AckBookLaw_law_379 : decode c_AckBookLaw_law 379 = .ok (.iadd, 1) := by decide +kernel
theorem d_AckBookLaw_law_380 : decode c_AckBookLaw_law 380 = .ok (.iaload, 1) := by decide +kernel
theorem d_AckBookLaw_law_381 : decode c_AckBookLaw_law 381 = .ok (.aload_n 3, 1) := by decide +kernel
theorem d_AckBookLaw_law_382 : decode c_AckBookLaw_law 382 = .ok (.invokestatic 81, 3) := by decide +kernel
theorem d_AckBookLaw_law_385 : decode c_AckBookLaw_law 385 = .ok (.istore 5, 2) := by decide +kernel
theorem d_AckBookLaw_law_387 : decode c_AckBookLaw_law 387 = .ok (.aload_n 2, 1) := by decide +kernel
theorem d_AckBookLaw_law_388 : decode c_AckBookLaw_law 388 = .ok (.aload_n 0, 1) := by decide +kernel
theorem d_AckBookLaw_law_389 : decode c_AckBookLaw_law 389 = .ok (.iload 4, 2) := by decide +kernel
theorem d_AckBookLaw_law_391 : decode c_AckBookLaw_law 391 = .ok (.iconst (1), 1) := by decide +kernel
theorem d_AckBookLaw_law_392 : decode c_AckBookLaw_law 392 = .ok (.iadd, 1) := by decide +kernel
theorem d_AckBookLaw_law_393 : decode c_AckBookLaw_law 393 = .ok (.iaload, 1) := by decide +kernel
theorem d_AckBookLaw_law_394 : decode c_AckBookLaw_law 394 = .ok (.aload_n 0, 1) := by decide +kernel
theorem d_AckBookLaw_law_395 : decode c_AckBookLaw_law 395 = .ok (.iload 4, 2) := by decide +kernel
theorem d_AckBookLaw_law_397 : decode c_AckBookLaw_law 397 = .ok (.iconst (2), 1) := by decide +kernel
theorem d_AckBookLaw_law_398 : decode c_AckBookLaw_law 398 = .ok (.iadd, 1) := by decide +kernel
theorem d_AckBookLaw_law_399 : decode c_AckBookLaw_law 399 = .ok (.iaload, 1) := by decide +kernel
theorem d_AckBookLaw_law_400 : decode c_AckBookLaw_law 400 = .ok (.invokevirtual 84, 3) := by decide +kernel
theorem d_AckBookLaw_law_403 : decode c_AckBookLaw_law 403 = .ok (.istore 6, 2) := by decide +kernel
theorem d_AckBookLaw_law_405 : decode c_AckBookLaw_law 405 = .ok (.aload_n 2, 1) := by decide +kernel
theorem d_AckBookLaw_law_406 : decode c_AckBookLaw_law 406 = .ok (.invokevirtual 71, 3) := by decide +kernel
theorem d_AckBookLaw_law_409 : decode c_AckBookLaw_law 409 = .ok (.iload 5, 2) := by decide +kernel
theorem d_AckBookLaw_law_411 : decode c_AckBookLaw_law 411 = .ok (.if_icmp .eq (5), 3) := by decide +kernel
theorem d_AckBookLaw_law_416 : decode c_AckBookLaw_law 416 = .ok (.iload 5, 2) := by decide +kernel
theorem d_AckBookLaw_law_418 : decode c_AckBookLaw_law 418 = .ok (.ifCond .ne (15), 3) := by decide +kernel
theorem d_AckBookLaw_law_421 : decode c_AckBookLaw_law 421 = .ok (.aload_n 3, 1) := by decide +kernel
theorem d_AckBookLaw_law_422 : decode c_AckBookLaw_law 422 = .ok (.iconst (0), 1) := by decide +kernel
theorem d_AckBookLaw_law_423 : decode c_AckBookLaw_law 423 = .ok (.laload, 1) := by decide +kernel
theorem d_AckBookLaw_law_424 : decode c_AckBookLaw_law 424 = .ok (.iload 6, 2) := by decide +kernel
theorem d_AckBookLaw_law_426 : decode c_AckBookLaw_law 426 = .ok (.i2l, 1) := by decide +kernel
theorem d_AckBookLaw_law_427 : decode c_AckBookLaw_law 427 = .ok (.lcmp, 1) := by decide +kernel
theorem d_AckBookLaw_law_428 : decode c_AckBookLaw_law 428 = .ok (.ifCond .eq (5), 3) := by decide +kernel
theorem d_AckBookLaw_law_433 : decode c_AckBookLaw_law 433 = .ok (.goto (726), 3) := by decide +kernel
theorem d_AckBookLaw_law_431 : decode c_AckBookLaw_law 431 = .ok (.iconst (0), 1) := by decide +kernel
theorem d_AckBookLaw_law_432 : decode c_AckBookLaw_law 432 = .ok (.ireturn, 1) := by decide +kernel
theorem d_AckBookLaw_law_414 : decode c_AckBookLaw_law 414 = .ok (.iconst (0), 1) := by decide +kernel
theorem d_AckBookLaw_law_415 : decode c_AckBookLaw_law 415 = .ok (.ireturn, 1) := by decide +kernel
theorem d_AckBookLaw_law_436 : decode c_AckBookLaw_law 436 = .ok (.aload_n 1, 1) := by decide +kernel
theorem d_AckBookLaw_law_437 : decode c_AckBookLaw_law 437 = .ok (.invokevirtual 85, 3) := by decide +kernel
theorem d_AckBookLaw_law_440 : decode c_AckBookLaw_law 440 = .ok (.aload_n 2, 1) := by decide +kernel
theorem d_AckBookLaw_law_441 : decode c_AckBookLaw_law 441 = .ok (.invokevirtual 88, 3) := by decide +kernel
theorem d_AckBookLaw_law_444 : decode c_AckBookLaw_law 444 = .ok (.if_icmp .eq (715), 3) := by decide +kernel
theorem d_AckBookLaw_law_447 : decode c_AckBookLaw_law 447 = .ok (.iconst (0), 1) := by decide +kernel
theorem d_AckBookLaw_law_448 : decode c_AckBookLaw_law 448 = .ok (.ireturn, 1) := by decide +kernel
theorem d_AckBookLaw_law_449 : decode c_AckBookLaw_law 449 = .ok (.aload_n 1, 1) := by decide +kernel
theorem d_AckBookLaw_law_450 : decode c_AckBookLaw_law 450 = .ok (.aload_n 0, 1) := by decide +kernel
theorem d_AckBookLaw_law_451 : decode c_AckBookLaw_law 451 = .ok (.iload 4, 2) := by decide +kernel
theorem d_AckBookLaw_law_453 : decode c_AckBookLaw_law 453 = .ok (.iconst (1), 1) := by decide +kernel
theorem d_AckBookLaw_law_454 : decode c_AckBookLaw_law 454 = .ok (.iadd, 1) := by decide +kernel
theorem d_AckBookLaw_law_455 : decode c_AckBookLaw_law 455 = .ok (.iaload, 1) := by decide +kernel
theorem d_AckBookLaw_law_456 : decode c_AckBookLaw_law 456 = .ok (.invokestatic 89, 3) := by decide +kernel
