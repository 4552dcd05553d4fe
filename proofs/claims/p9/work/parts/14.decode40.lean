theorem d_AckBookLaw_law_331 : decode c_AckBookLaw_law 331 = .ok (.aload_n 2, 1) := by decide +kernel
theorem d_AckBookLaw_law_332 : decode c_AckBookLaw_law 332 = .ok (.aload_n 0, 1) := by decide +kernel
theorem d_AckBookLaw_law_333 : decode c_AckBookLaw_law 333 = .ok (.iload 4, 2) := by decide +kernel
theorem d_AckBookLaw_law_335 : decode c_AckBookLaw_law 335 = .ok (.iconst (1), 1) := by decide +kernel
theorem d_AckBookLaw_law_336 : decode c_AckBookLaw_law 336 = .ok (.iadd, 1) := by decide +kernel
theorem d_AckBookLaw_law_337 : decode c_AckBookLaw_law 337 = .ok (.iaload, 1) := by decide +kernel
theorem d_AckBookLaw_law_338 : decode c_AckBookLaw_law 338 = .ok (.aload_n 0, 1) := by decide +kernel
theorem d_AckBookLaw_law_339 : decode c_AckBookLaw_law 339 = .ok (.iload 4, 2) := by decide +kernel
theorem d_AckBookLaw_law_341 : decode c_AckBookLaw_law 341 = .ok (.iconst (2), 1) := by decide +kernel
theorem d_AckBookLaw_law_342 : decode c_AckBookLaw_law 342 = .ok (.iadd, 1) := by decide +kernel
theorem d_AckBookLaw_law_343 : decode c_AckBookLaw_law 343 = .ok (.iaload, 1) := by decide +kernel
theorem d_AckBookLaw_law_344 : decode c_AckBookLaw_law 344 = .ok (.invokevirtual 80, 3) := by decide +kernel
theorem d_AckBookLaw_law_347 : decode c_AckBookLaw_law 347 = .ok (.istore 6, 2) := by decide +kernel
theorem d_AckBookLaw_law_349 : decode c_AckBookLaw_law 349 = .ok (.goto (507), 3) := by decide +kernel
theorem d_AckBookLaw_law_352 : decode c_AckBookLaw_law 352 = .ok (.aload_n 1, 1) := by decide +kernel
theorem d_AckBookLaw_law_353 : decode c_AckBookLaw_law 353 = .ok (.invokevirtual 81, 3) := by decide +kernel
theorem d_AckBookLaw_law_356 : decode c_AckBookLaw_law 356 = .ok (.pop, 1) := by decide +kernel
theorem d_AckBookLaw_law_357 : decode c_AckBookLaw_law 357 = .ok (.aload_n 2, 1) := by decide +kernel
theorem d_AckBookLaw_law_358 : decode c_AckBookLaw_law 358 = .ok (.invokevirtual 85, 3) := by decide +kernel
theorem d_AckBookLaw_law_361 : decode c_AckBookLaw_law 361 = .ok (.pop, 1) := by decide +kernel
theorem d_AckBookLaw_law_362 : decode c_AckBookLaw_law 362 = .ok (.goto (494), 3) := by decide +kernel
theorem d_AckBookLaw_law_365 : decode c_AckBookLaw_law 365 = .ok (.aload_n 1, 1) := by decide +kernel
theorem d_AckBookLaw_law_366 : decode c_AckBookLaw_law 366 = .ok (.aload_n 0, 1) := by decide +kernel
theorem d_AckBookLaw_law_367 : decode c_AckBookLaw_law 367 = .ok (.iload 4, 2) := by decide +kernel
theorem d_AckBookLaw_law_369 : decode c_AckBookLaw_law 369 = .ok (.iconst (1), 1) := by decide +kernel
theorem d_AckBookLaw_law_370 : decode c_AckBookLaw_law 370 = .ok (.iadd, 1) := by decide +kernel
theorem d_AckBookLaw_law_371 : decode c_AckBookLaw_law 371 = .ok (.iaload, 1) := by decide +kernel
theorem d_AckBookLaw_law_372 : decode c_AckBookLaw_law 372 = .ok (.invokestatic 86, 3) := by decide +kernel
theorem d_AckBookLaw_law_375 : decode c_AckBookLaw_law 375 = .ok (.istore 5, 2) := by decide +kernel
theorem d_AckBookLaw_law_377 : decode c_AckBookLaw_law 377 = .ok (.aload_n 2, 1) := by decide +kernel
theorem d_AckBookLaw_law_378 : decode c_AckBookLaw_law 378 = .ok (.aload_n 0, 1) := by decide +kernel
theorem d_AckBookLaw_law_379 : decode c_AckBookLaw_law 379 = .ok (.iload 4, 2) := by decide +kernel
theorem d_AckBookLaw_law_381 : decode c_AckBookLaw_law 381 = .ok (.iconst (1), 1) := by decide +kernel
theorem d_AckBookLaw_law_382 : decode c_AckBookLaw_law 382 = .ok (.iadd, 1) := by decide +kernel
theorem d_AckBookLaw_law_383 : decode c_AckBookLaw_law 383 = .ok (.iaload, 1) := by decide +kernel
theorem d_AckBookLaw_law_384 : decode c_AckBookLaw_law 384 = .ok (.invokevirtual 89, 3) := by decide +kernel
theorem d_AckBookLaw_law_387 : decode c_AckBookLaw_law 387 = .ok (.goto (469), 3) := by decide +kernel
theorem d_AckBookLaw_law_390 : decode c_AckBookLaw_law 390 = .ok (.aload_n 1, 1) := by decide +kernel
theorem d_AckBookLaw_law_391 : decode c_AckBookLaw_law 391 = .ok (.invokevirtual 90, 3) := by decide +kernel
theorem d_AckBookLaw_law_394 : decode c_AckBookLaw_law 394 = .ok (.aload_n 2, 1) := by decide +kernel
theorem d_AckBookLaw_law_395 : decode c_AckBookLaw_law 395 = .ok (.invokevirtual 93, 3) := by decide +kernel
theorem d_AckBookLaw_law_398 : decode c_AckBookLaw_law 398 = .ok (.goto (458), 3) := by decide +kernel
theorem d_AckBookLaw_law_401 : decode c_AckBookLaw_law 401 = .ok (.aload_n 1, 1) := by decide +kernel
theorem d_AckBookLaw_law_402 : decode c_AckBookLaw_law 402 = .ok (.aload_n 0, 1) := by decide +kernel
theorem d_AckBookLaw_law_403 : decode c_AckBookLaw_law 403 = .ok (.iload 4, 2) := by decide +kernel
theorem d_AckBookLaw_law_405 : decode c_AckBookLaw_law 405 = .ok (.iconst (1), 1) := by decide +kernel
theorem d_AckBookLaw_law_406 : decode c_AckBookLaw_law 406 = .ok (.iadd, 1) := by decide +kernel
theorem d_AckBookLaw_law_407 : decode c_AckBookLaw_law 407 = .ok (.iaload, 1) := by decide +kernel
theorem d_AckBookLaw_law_408 : decode c_AckBookLaw_law 408 = .ok (.ifCond .eq (7), 3) := by decide +kernel
theorem d_AckBookLaw_law_415 : decode c_AckBookLaw_law 415 = .ok (.iconst (0), 1) := by decide +kernel
theorem d_AckBookLaw_law_411 : decode c_AckBookLaw_law 411 = .ok (.iconst (1), 1) := by decide +kernel
theorem d_AckBookLaw_law_412 : decode c_AckBookLaw_law 412 = .ok (.goto (4), 3) := by decide +kernel
theorem d_AckBookLaw_law_440 : decode c_AckBookLaw_law 440 = .ok (.aload_n 1, 1) := by decide +kernel
theorem d_AckBookLaw_law_441 : decode c_AckBookLaw_law 441 = .ok (.aload_n 0, 1) := by decide +kernel
theorem d_AckBookLaw_law_442 : decode c_AckBookLaw_law 442 = .ok (.iload 4, 2) := by decide +kernel
theorem d_AckBookLaw_law_444 : decode c_AckBookLaw_law 444 = .ok (.iconst (1), 1) := by decide +kernel
theorem d_AckBookLaw_law_445 : decode c_AckBookLaw_law 445 = .ok (.iadd, 1) := by decide +kernel
theorem d_AckBookLaw_law_446 : decode c_AckBookLaw_law 446 = .ok (.iaload, 1) := by decide +kernel
theorem d_AckBookLaw_law_447 : decode c_AckBookLaw_law 447 = .ok (.aload_n 0, 1) := by decide +kernel
theorem d_AckBookLaw_law_448 : decode c_AckBookLaw_law 448 = .ok (.iload 4, 2) := by decide +kernel
theorem d_AckBookLaw_law_450 : decode c_AckBookLaw_law 450 = .ok (.iconst (2), 1) := by decide +kernel
theorem d_AckBookLaw_law_451 : decode c_AckBookLaw_law 451 = .ok (.iadd, 1) := by decide +kernel
theorem d_AckBookLaw_law_452 : decode c_AckBookLaw_law 452 = .ok (.iaload, 1) := by decide +kernel
theorem d_AckBookLaw_law_453 : decode c_AckBookLaw_law 453 = .ok (.ifCond .eq (7), 3) := by decide +kernel
theorem d_AckBookLaw_law_460 : decode c_AckBookLaw_law 460 = .ok (.iconst (0), 1) := by decide +kernel
theorem d_AckBookLaw_law_456 : decode c_AckBookLaw_law 456 = .ok (.iconst (1), 1) := by decide +kernel
theorem d_AckBookLaw_law_457 : decode c_AckBookLaw_law 457 = .ok (.goto (4), 3) := by decide +kernel
theorem d_AckBookLaw_law_524 : decode c_AckBookLaw_law 524 = .ok (.aload_n 1, 1) := by decide +kernel
theorem d_AckBookLaw_law_525 : decode c_AckBookLaw_law 525 = .ok (.aload_n 0, 1) := by decide +kernel
theorem d_AckBookLaw_law_526 : decode c_AckBookLaw_law 526 = .ok (.iload 4, 2) := by decide +kernel
theorem d_AckBookLaw_law_528 : decode c_AckBookLaw_law 528 = .ok (.iconst (1), 1) := by decide +kernel
theorem d_AckBookLaw_law_529 : decode c_AckBookLaw_law 529 = .ok (.iadd, 1) := by decide +kernel
theorem d_AckBookLaw_law_530 : decode c_AckBookLaw_law 530 = .ok (.iaload, 1) := by decide +kernel
theorem d_AckBookLaw_law_531 : decode c_AckBookLaw_law 531 = .ok (.aload_n 0, 1) := by decide +kernel
theorem d_AckBookLaw_law_532 : decode c_AckBookLaw_law 532 = .ok (.iload 4, 2) := by decide +kernel
theorem d_AckBookLaw_law_534 : decode c_AckBookLaw_law 534 = .ok (.iconst (2), 1) := by decide +kernel
theorem d_AckBookLaw_law_535 : decode c_AckBookLaw_law 535 = .ok (.iadd, 1) := by decide +kernel
theorem d_AckBookLaw_law_536 : decode c_AckBookLaw_law 536 = .ok (.iaload, 1) := by decide +kernel
theorem d_AckBookLaw_law_537 : decode c_AckBookLaw_law 537 = .ok (.aload_n 3, 1) := by decide +kernel
theorem d_AckBookLaw_law_538 : decode c_AckBookLaw_law 538 = .ok (.invokestatic 106, 3) := by decide +kernel
theorem d_AckBookLaw_law_541 : decode c_AckBookLaw_law 541 = .ok (.istore 5, 2) := by decide +kernel
theorem d_AckBookLaw_law_543 : decode c_AckBookLaw_law 543 = .ok (.aload_n 2, 1) := by decide +kernel
theorem d_AckBookLaw_law_544 : decode c_AckBookLaw_law 544 = .ok (.aload_n 0, 1) := by decide +kernel
theorem d_AckBookLaw_law_545 : decode c_AckBookLaw_law 545 = .ok (.iload 4, 2) := by decide +kernel
theorem d_AckBookLaw_law_547 : decode c_AckBookLaw_law 547 = .ok (.iconst (1), 1) := by decide +kernel
theorem d_AckBookLaw_law_548 : decode c_AckBookLaw_law 548 = .ok (.iadd, 1) := by decide +kernel
theorem d_AckBookLaw_law_549 : decode c_AckBookLaw_law 549 = .ok (.iaload, 1) := by decide +kernel
theorem d_AckBookLaw_law_550 : decode c_AckBookLaw_law 550 = .ok (.aload_n 0, 1) := by decide +kernel
theorem d_AckBookLaw_law_551 : decode c_AckBookLaw_law 551 = .ok (.iload 4, 2) := by decide +kernel
theorem d_AckBookLaw_law_553 : decode c_AckBookLaw_law 553 = .ok (.iconst (2), 1) := by decide +kernel
theorem d_AckBookLaw_law_554 : decode c_AckBookLaw_law 554 = .ok (.iadd, 1) := by decide +kernel
theorem d_AckBookLaw_law_555 : decode c_AckBookLaw_law 555 = .ok (.iaload, 1) := by decide +kernel
theorem d_AckBookLaw_law_556 : decode c_AckBookLaw_law 556 = .ok (.invokevirtual 108, 3) := by decide +kernel
theorem d_AckBookLaw_law_559 : decode c_AckBookLaw_law 559 = .ok (.istore 6, 2) := by decide +kernel
theorem d_AckBookLaw_law_561 : decode c_AckBookLaw_law 561 = .ok (.goto (295), 3) := by decide +kernel
theorem d_AckBookLaw_law_564 : decode c_AckBookLaw_law 564 = .ok (.aload_n 1, 1) := by decide +kernel
theorem d_AckBookLaw_law_565 : decode c_AckBookLaw_law 565 = .ok (.aload_n 0, 1) := by decide +kernel
theorem d_AckBookLaw_law_566 : decode c_AckBookLaw_law 566 = .ok (.iload 4, 2) := by decide +kernel
theorem d_AckBookLaw_law_568 : decode c_AckBookLaw_law 568 = .ok (.iconst (1), 1) := by decide +kernel
theorem d_AckBookLaw_law_569 : decode c_AckBookLaw_law 569 = .ok (.iadd, 1) := by decide +kernel
theorem d_AckBookLaw_law_570 : decode c_AckBookLaw_law 570 = .ok (.iaload, 1) := by decide +kernel
theorem d_AckBookLaw_law_571 : decode c_AckBookLaw_law 571 = .ok (.aload_n 0, 1) := by decide +kernel
theorem d_AckBookLaw_law_572 : decode c_AckBookLaw_law 572 = .ok (.iload 4, 2) := by decide +kernel
theorem d_AckBookLaw_law_574 : decode c_AckBookLaw_law 574 = .ok (.iconst (2), 1) := by decide +kernel
theorem d_AckBookLaw_law_575 : decode c_AckBookLaw_law 575 = .ok (.iadd, 1) := by decide +kernel
theorem d_AckBookLaw_law_576 : decode c_AckBookLaw_law 576 = .ok (.iaload, 1) := by decide +kernel
theorem d_AckBookLaw_law_577 : decode c_AckBookLaw_law 577 = .ok (.i2l, 1) := by decide +kernel
theorem d_AckBookLaw_law_578 : decode c_AckBookLaw_law 578 = .ok (.bipush (32), 2) := by decide +kernel
theorem d_AckBookLaw_law_580 : decode c_AckBookLaw_law 580 = .ok (.lshl, 1) := by decide +kernel
theorem d_AckBookLaw_law_581 : decode c_AckBookLaw_law 581 = .ok (.aload_n 0, 1) := by decide +kernel
theorem d_AckBookLaw_law_582 : decode c_AckBookLaw_law 582 = .ok (.iload 4, 2) := by decide +kernel
theorem d_AckBookLaw_law_584 : decode c_AckBookLaw_law 584 = .ok (.iconst (3), 1) := by decide +kernel
theorem d_AckBookLaw_law_585 : decode c_AckBookLaw_law 585 = .ok (.iadd, 1) := by decide +kernel
theorem d_AckBookLaw_law_586 : decode c_AckBookLaw_law 586 = .ok (.iaload, 1) := by decide +kernel
theorem d_AckBookLaw_law_587 : decode c_AckBookLaw_law 587 = .ok (.i2l, 1) := by decide +kernel
theorem d_AckBookLaw_law_588 : decode c_AckBookLaw_law 588 = .ok (.ldc2_w 71, 3) := by decide +kernel
theorem d_AckBookLaw_law_591 : decode c_AckBookLaw_law 591 = .ok (.land, 1) := by decide +kernel
theorem d_AckBookLaw_law_592 : decode c_AckBookLaw_law 592 = .ok (.lor, 1) := by decide +kernel
theorem d_AckBookLaw_law_593 : decode c_AckBookLaw_law 593 = .ok (.aload_n 0, 1) := by decide +kernel
theorem d_AckBookLaw_law_594 : decode c_AckBookLaw_law 594 = .ok (.iload 4, 2) := by decide +kernel
