theorem d_AckBookLaw_law_364 : decode c_AckBookLaw_law 364 = .ok (.ireturn, 1) := by decide +kernel
theorem d_AckBookLaw_law_365 : decode c_AckBookLaw_law 365 = .ok (.aload_n 1, 1) := by decide +kernel
theorem d_AckBookLaw_law_366 : decode c_AckBookLaw_law 366 = .ok (.aload_n 0, 1) := by decide +kernel
theorem d_AckBookLaw_law_367 : decode c_AckBookLaw_law 367 = .ok (.iload 4, 2) := by decide +kernel
theorem d_AckBookLaw_law_369 : decode c_AckBookLaw_law 369 = .ok (.iconst (1), 1) := by decide +kernel
theorem d_AckBookLaw_law_370 : decode c_AckBookLaw_law 370 = .ok (.iadd, 1) := by decide +kernel
theorem d_AckBookLaw_law_371 : decode c_AckBookLaw_law 371 = .ok (.iaload, 1) := by decide +kernel
theorem d_AckBookLaw_law_372 : decode c_AckBookLaw_law 372 = .ok (.invokestatic 86, 3) := by decide +kernel
theorem d_AckBookLaw_law_375 : decode c_AckBookLaw_law 375 = .ok (.istore 5, 2) := by decide +kernel
theorem d_AckBookLaw_law_377 : decode c_AckBookLaw_law 377 = .ok (.aload_n 2, 1) := by decide +kernel
theorem d_AckBookLaw_law_378 : decode c_AckBookLaw_law 378 = .ok (.aload_n 0, 1) := by decide +kernel
theorem d_AckBookLaw_law_379 : decode c_AckBookLaw_law 379 = .ok (.iload 4, 2) := by decide +kernel
theorem d_AckBookLaw_law_381 : decode c_AckBookLaw_law 381 = .ok (.iconst (1), 1) := by decide +kernel
theorem d_AckBookLaw_law_382 : decode c_AckBookLaw_law 382 = .ok (.iadd, 1) := by decide +kernel
theorem d_AckBookLaw_law_383 : decode c_AckBookLaw_law 383 = .ok (.iaload, 1) := by decide +kernel
theorem d_AckBookLaw_law_384 : decode c_AckBookLaw_law 384 = .ok (.invokevirtual 89, 3) := by decide +kernel
theorem d_AckBookLaw_law_387 : decode c_AckBookLaw_law 387 = .ok (.goto (441), 3) := by decide +kernel
theorem d_AckBookLaw_law_390 : decode c_AckBookLaw_law 390 = .ok (.aload_n 1, 1) := by decide +kernel
theorem d_AckBookLaw_law_391 : decode c_AckBookLaw_law 391 = .ok (.invokevirtual 90, 3) := by decide +kernel
theorem d_AckBookLaw_law_394 : decode c_AckBookLaw_law 394 = .ok (.aload_n 2, 1) := by decide +kernel
theorem d_AckBookLaw_law_395 : decode c_AckBookLaw_law 395 = .ok (.invokevirtual 93, 3) := by decide +kernel
theorem d_AckBookLaw_law_398 : decode c_AckBookLaw_law 398 = .ok (.goto (430), 3) := by decide +kernel
theorem d_AckBookLaw_law_401 : decode c_AckBookLaw_law 401 = .ok (.aload_n 1, 1) := by decide +kernel
theorem d_AckBookLaw_law_402 : decode c_AckBookLaw_law 402 = .ok (.aload_n 0, 1) := by decide +kernel
theorem d_AckBookLaw_law_403 : decode c_AckBookLaw_law 403 = .ok (.iload 4, 2) := by decide +kernel
theorem d_AckBookLaw_law_405 : decode c_AckBookLaw_law 405 = .ok (.iconst (1), 1) := by decide +kernel
theorem d_AckBookLaw_law_406 : decode c_AckBookLaw_law 406 = .ok (.iadd, 1) := by decide +kernel
theorem d_AckBookLaw_law_407 : decode c_AckBookLaw_law 407 = .ok (.iaload, 1) := by decide +kernel
theorem d_AckBookLaw_law_408 : decode c_AckBookLaw_law 408 = .ok (.ifCond .eq (7), 3) := by decide +kernel
theorem d_AckBookLaw_law_415 : decode c_AckBookLaw_law 415 = .ok (.iconst (0), 1) := by decide +kernel
theorem d_AckBookLaw_law_411 : decode c_AckBookLaw_law 411 = .ok (.iconst (1), 1) := by decide +kernel
theorem d_AckBookLaw_law_412 : decode c_AckBookLaw_law 412 = .ok (.goto (4), 3) := by decide +kernel
theorem d_AckBookLaw_law_440 : decode c_AckBookLaw_law 440 = .ok (.aload_n 1, 1) := by decide +kernel
theorem d_AckBookLaw_law_441 : decode c_AckBookLaw_law 441 = .ok (.aload_n 0, 1) := by decide +kernel
theorem d_AckBookLaw_law_442 : decode c_AckBookLaw_law 442 = .ok (.iload 4, 2) := by decide +kernel
theorem d_AckBookLaw_law_444 : decode c_AckBookLaw_law 444 = .ok (.iconst (1), 1) := by decide +kernel
theorem d_AckBookLaw_law_445 : decode c_AckBookLaw_law 445 = .ok (.iadd, 1) := by decide +kernel
theorem d_AckBookLaw_law_446 : decode c_AckBookLaw_law 446 = .ok (.iaload, 1) := by decide +kernel
theorem d_AckBookLaw_law_447 : decode c_AckBookLaw_law 447 = .ok (.aload_n 0, 1) := by decide +kernel
theorem d_AckBookLaw_law_448 : decode c_AckBookLaw_law 448 = .ok (.iload 4, 2) := by decide +kernel
theorem d_AckBookLaw_law_450 : decode c_AckBookLaw_law 450 = .ok (.iconst (2), 1) := by decide +kernel
theorem d_AckBookLaw_law_451 : decode c_AckBookLaw_law 451 = .ok (.iadd, 1) := by decide +kernel
theorem d_AckBookLaw_law_452 : decode c_AckBookLaw_law 452 = .ok (.iaload, 1) := by decide +kernel
theorem d_AckBookLaw_law_453 : decode c_AckBookLaw_law 453 = .ok (.ifCond .eq (7), 3) := by decide +kernel
theorem d_AckBookLaw_law_460 : decode c_AckBookLaw_law 460 = .ok (.iconst (0), 1) := by decide +kernel
theorem d_AckBookLaw_law_456 : decode c_AckBookLaw_law 456 = .ok (.iconst (1), 1) := by decide +kernel
theorem d_AckBookLaw_law_457 : decode c_AckBookLaw_law 457 = .ok (.goto (4), 3) := by decide +kernel
theorem d_AckBookLaw_law_496 : decode c_AckBookLaw_law 496 = .ok (.aload_n 1, 1) := by decide +kernel
theorem d_AckBookLaw_law_497 : decode c_AckBookLaw_law 497 = .ok (.aload_n 0, 1) := by decide +kernel
theorem d_AckBookLaw_law_498 : decode c_AckBookLaw_law 498 = .ok (.iload 4, 2) := by decide +kernel
theorem d_AckBookLaw_law_500 : decode c_AckBookLaw_law 500 = .ok (.iconst (1), 1) := by decide +kernel
theorem d_AckBookLaw_law_501 : decode c_AckBookLaw_law 501 = .ok (.iadd, 1) := by decide +kernel
theorem d_AckBookLaw_law_502 : decode c_AckBookLaw_law 502 = .ok (.iaload, 1) := by decide +kernel
theorem d_AckBookLaw_law_503 : decode c_AckBookLaw_law 503 = .ok (.aload_n 0, 1) := by decide +kernel
theorem d_AckBookLaw_law_504 : decode c_AckBookLaw_law 504 = .ok (.iload 4, 2) := by decide +kernel
theorem d_AckBookLaw_law_506 : decode c_AckBookLaw_law 506 = .ok (.iconst (2), 1) := by decide +kernel
theorem d_AckBookLaw_law_507 : decode c_AckBookLaw_law 507 = .ok (.iadd, 1) := by decide +kernel
theorem d_AckBookLaw_law_508 : decode c_AckBookLaw_law 508 = .ok (.iaload, 1) := by decide +kernel
theorem d_AckBookLaw_law_509 : decode c_AckBookLaw_law 509 = .ok (.aload_n 3, 1) := by decide +kernel
theorem d_AckBookLaw_law_510 : decode c_AckBookLaw_law 510 = .ok (.invokestatic 103, 3) := by decide +kernel
theorem d_AckBookLaw_law_513 : decode c_AckBookLaw_law 513 = .ok (.istore 5, 2) := by decide +kernel
theorem d_AckBookLaw_law_515 : decode c_AckBookLaw_law 515 = .ok (.aload_n 2, 1) := by decide +kernel
theorem d_AckBookLaw_law_516 : decode c_AckBookLaw_law 516 = .ok (.aload_n 0, 1) := by decide +kernel
theorem d_AckBookLaw_law_517 : decode c_AckBookLaw_law 517 = .ok (.iload 4, 2) := by decide +kernel
theorem d_AckBookLaw_law_519 : decode c_AckBookLaw_law 519 = .ok (.iconst (1), 1) := by decide +kernel
theorem d_AckBookLaw_law_520 : decode c_AckBookLaw_law 520 = .ok (.iadd, 1) := by decide +kernel
theorem d_AckBookLaw_law_521 : decode c_AckBookLaw_law 521 = .ok (.iaload, 1) := by decide +kernel
theorem d_AckBookLaw_law_522 : decode c_AckBookLaw_law 522 = .ok (.aload_n 0, 1) := by decide +kernel
theorem d_AckBookLaw_law_523 : decode c_AckBookLaw_law 523 = .ok (.iload 4, 2) := by decide +kernel
theorem d_AckBookLaw_law_525 : decode c_AckBookLaw_law 525 = .ok (.iconst (2), 1) := by decide +kernel
theorem d_AckBookLaw_law_526 : decode c_AckBookLaw_law 526 = .ok (.iadd, 1) := by decide +kernel
theorem d_AckBookLaw_law_527 : decode c_AckBookLaw_law 527 = .ok (.iaload, 1) := by decide +kernel
theorem d_AckBookLaw_law_528 : decode c_AckBookLaw_law 528 = .ok (.invokevirtual 105, 3) := by decide +kernel
theorem d_AckBookLaw_law_531 : decode c_AckBookLaw_law 531 = .ok (.istore 6, 2) := by decide +kernel
theorem d_AckBookLaw_law_533 : decode c_AckBookLaw_law 533 = .ok (.goto (295), 3) := by decide +kernel
theorem d_AckBookLaw_law_536 : decode c_AckBookLaw_law 536 = .ok (.aload_n 1, 1) := by decide +kernel
theorem d_AckBookLaw_law_537 : decode c_AckBookLaw_law 537 = .ok (.aload_n 0, 1) := by decide +kernel
theorem d_AckBookLaw_law_538 : decode c_AckBookLaw_law 538 = .ok (.iload 4, 2) := by decide +kernel
theorem d_AckBookLaw_law_540 : decode c_AckBookLaw_law 540 = .ok (.iconst (1), 1) := by decide +kernel
theorem d_AckBookLaw_law_541 : decode c_AckBookLaw_law 541 = .ok (.iadd, 1) := by decide +kernel
theorem d_AckBookLaw_law_542 : decode c_AckBookLaw_law 542 = .ok (.iaload, 1) := by decide +kernel
theorem d_AckBookLaw_law_543 : decode c_AckBookLaw_law 543 = .ok (.aload_n 0, 1) := by decide +kernel
theorem d_AckBookLaw_law_544 : decode c_AckBookLaw_law 544 = .ok (.iload 4, 2) := by decide +kernel
theorem d_AckBookLaw_law_546 : decode c_AckBookLaw_law 546 = .ok (.iconst (2), 1) := by decide +kernel
theorem d_AckBookLaw_law_547 : decode c_AckBookLaw_law 547 = .ok (.iadd, 1) := by decide +kernel
theorem d_AckBookLaw_law_548 : decode c_AckBookLaw_law 548 = .ok (.iaload, 1) := by decide +kernel
theorem d_AckBookLaw_law_549 : decode c_AckBookLaw_law 549 = .ok (.i2l, 1) := by decide +kernel
theorem d_AckBookLaw_law_550 : decode c_AckBookLaw_law 550 = .ok (.bipush (32), 2) := by decide +kernel
theorem d_AckBookLaw_law_552 : decode c_AckBookLaw_law 552 = .ok (.lshl, 1) := by decide +kernel
theorem d_AckBookLaw_law_553 : decode c_AckBookLaw_law 553 = .ok (.aload_n 0, 1) := by decide +kernel
theorem d_AckBookLaw_law_554 : decode c_AckBookLaw_law 554 = .ok (.iload 4, 2) := by decide +kernel
theorem d_AckBookLaw_law_556 : decode c_AckBookLaw_law 556 = .ok (.iconst (3), 1) := by decide +kernel
theorem d_AckBookLaw_law_557 : decode c_AckBookLaw_law 557 = .ok (.iadd, 1) := by decide +kernel
theorem d_AckBookLaw_law_558 : decode c_AckBookLaw_law 558 = .ok (.iaload, 1) := by decide +kernel
theorem d_AckBookLaw_law_559 : decode c_AckBookLaw_law 559 = .ok (.i2l, 1) := by decide +kernel
theorem d_AckBookLaw_law_560 : decode c_AckBookLaw_law 560 = .ok (.ldc2_w 71, 3) := by decide +kernel
theorem d_AckBookLaw_law_563 : decode c_AckBookLaw_law 563 = .ok (.land, 1) := by decide +kernel
theorem d_AckBookLaw_law_564 : decode c_AckBookLaw_law 564 = .ok (.lor, 1) := by decide +kernel
theorem d_AckBookLaw_law_565 : decode c_AckBookLaw_law 565 = .ok (.aload_n 0, 1) := by decide +kernel
theorem d_AckBookLaw_law_566 : decode c_AckBookLaw_law 566 = .ok (.iload 4, 2) := by decide +kernel
theorem d_AckBookLaw_law_568 : decode c_AckBookLaw_law 568 = .ok (.iconst (4), 1) := by decide +kernel
theorem d_AckBookLaw_law_569 : decode c_AckBookLaw_law 569 = .ok (.iadd, 1) := by decide +kernel
theorem d_AckBookLaw_law_570 : decode c_AckBookLaw_law 570 = .ok (.iaload, 1) := by decide +kernel
theorem d_AckBookLaw_law_571 : decode c_AckBookLaw_law 571 = .ok (.ifCond .eq (7), 3) := by decide +kernel
theorem d_AckBookLaw_law_578 : decode c_AckBookLaw_law 578 = .ok (.iconst (0), 1) := by decide +kernel
theorem d_AckBookLaw_law_574 : decode c_AckBookLaw_law 574 = .ok (.iconst (1), 1) := by decide +kernel
theorem d_AckBookLaw_law_575 : decode c_AckBookLaw_law 575 = .ok (.goto (4), 3) := by decide +kernel
theorem d_AckBookLaw_law_636 : decode c_AckBookLaw_law 636 = .ok (.aload_n 1, 1) := by decide +kernel
theorem d_AckBookLaw_law_637 : decode c_AckBookLaw_law 637 = .ok (.aload_n 0, 1) := by decide +kernel
theorem d_AckBookLaw_law_638 : decode c_AckBookLaw_law 638 = .ok (.iload 4, 2) := by decide +kernel
theorem d_AckBookLaw_law_640 : decode c_AckBookLaw_law 640 = .ok (.iconst (1), 1) := by decide +kernel
theorem d_AckBookLaw_law_641 : decode c_AckBookLaw_law 641 = .ok (.iadd, 1) := by decide +kernel
theorem d_AckBookLaw_law_642 : decode c_AckBookLaw_law 642 = .ok (.iaload, 1) := by decide +kernel
theorem d_AckBookLaw_law_643 : decode c_AckBookLaw_law 643 = .ok (.aload_n 3, 1) := by decide +kernel
theorem d_AckBookLaw_law_644 : decode c_AckBookLaw_law 644 = .ok (.invokestatic 110, 3) := by decide +kernel
theorem d_AckBookLaw_law_647 : decode c_AckBookLaw_law 647 = .ok (.istore 5, 2) := by decide +kernel
theorem d_AckBookLaw_law_649 : decode c_AckBookLaw_law 649 = .ok (.aload_n 2, 1) := by decide +kernel
theorem d_AckBookLaw_law_650 : decode c_AckBookLaw_law 650 = .ok (.aload_n 0, 1) := by decide +kernel
theorem d_AckBookLaw_law_651 : decode c_AckBookLaw_law 651 = .ok (.iload 4, 2) := by decide +kernel
theorem d_AckBookLaw_law_653 : decode c_AckBookLaw_law 653 = .ok (.iconst (1), 1) := by decide +kernel
