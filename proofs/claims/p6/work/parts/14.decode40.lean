theorem d_AckBookLaw_law_357 : decode c_AckBookLaw_law 357 = .ok (.aload_n 2, 1) := by decide +kernel
theorem d_AckBookLaw_law_358 : decode c_AckBookLaw_law 358 = .ok (.invokevirtual 85, 3) := by decide +kernel
theorem d_AckBookLaw_law_361 : decode c_AckBookLaw_law 361 = .ok (.pop, 1) := by decide +kernel
theorem d_AckBookLaw_law_362 : decode c_AckBookLaw_law 362 = .ok (.goto (477), 3) := by decide +kernel
theorem d_AckBookLaw_law_365 : decode c_AckBookLaw_law 365 = .ok (.aload_n 1, 1) := by decide +kernel
theorem d_AckBookLaw_law_366 : decode c_AckBookLaw_law 366 = .ok (.aload_n 0, 1) := by decide +kernel
theorem d_AckBookLaw_law_367 : decode c_AckBookLaw_law 367 = .ok (.iload 4, 2) := by decide +kernel
theorem d_AckBookLaw_law_369 : decode c_AckBookLaw_law 369 = .ok (.iconst (1), 1) := by decide +kernel
theorem d_AckBookLaw_law_370 : decode c_AckBookLaw_law 370 = .ok (.iadd, 1) := by decide +kernel
theorem d_AckBookLaw_law_371 : decode c_AckBookLaw_law 371 = .ok (.iaload, 1) := by decide +kernel
theorem d_AckBookLaw_law_372 : decode c_AckBookLaw_law 372 = .ok (.invokestatic 86, 3) := by decide +kernel
theorem d_AckBookLaw_law_375 : decode c_AckBookLaw_law 375 = .ok (.istore 5, 2) := by decide +kernel
theorem d_AckBookLaw_law_377 : decode c_AckBookLaw_law 377 = .ok (.aload_n 2, 1) := by decide +kernel
theorem d_AckBookLaw_law_378 : decode c_AckBookLaw_law 378 = .ok (.aload_n 0, 1) := by decide +kernel
theorem d_AckBookLaw_law_379 : decode c_AckBookLaw_law 379 = .ok (.iload 4, 2) := by decide +kernel
theorem d_AckBookLaw_law_381 : decode c_AckBookLaw_law 381 = .ok (.iconst (1), 1) := by decide +kernel
theorem d_AckBookLaw_law_382 : decode c_AckBookLaw_law 382 = .ok (.iadd, 1) := by decide +kernel
theorem d_AckBookLaw_law_383 : decode c_AckBookLaw_law 383 = .ok (.iaload, 1) := by decide +kernel
theorem d_AckBookLaw_law_384 : decode c_AckBookLaw_law 384 = .ok (.invokevirtual 89, 3) := by decide +kernel
theorem d_AckBookLaw_law_387 : decode c_AckBookLaw_law 387 = .ok (.aload_n 2, 1) := by decide +kernel
theorem d_AckBookLaw_law_388 : decode c_AckBookLaw_law 388 = .ok (.invokevirtual 90, 3) := by decide +kernel
theorem d_AckBookLaw_law_391 : decode c_AckBookLaw_law 391 = .ok (.iload 5, 2) := by decide +kernel
theorem d_AckBookLaw_law_393 : decode c_AckBookLaw_law 393 = .ok (.if_icmp .eq (5), 3) := by decide +kernel
theorem d_AckBookLaw_law_398 : decode c_AckBookLaw_law 398 = .ok (.goto (441), 3) := by decide +kernel
theorem d_AckBookLaw_law_396 : decode c_AckBookLaw_law 396 = .ok (.iconst (0), 1) := by decide +kernel
theorem d_AckBookLaw_law_397 : decode c_AckBookLaw_law 397 = .ok (.ireturn, 1) := by decide +kernel
theorem d_AckBookLaw_law_401 : decode c_AckBookLaw_law 401 = .ok (.aload_n 1, 1) := by decide +kernel
theorem d_AckBookLaw_law_402 : decode c_AckBookLaw_law 402 = .ok (.invokevirtual 93, 3) := by decide +kernel
theorem d_AckBookLaw_law_405 : decode c_AckBookLaw_law 405 = .ok (.aload_n 2, 1) := by decide +kernel
theorem d_AckBookLaw_law_406 : decode c_AckBookLaw_law 406 = .ok (.invokevirtual 96, 3) := by decide +kernel
theorem d_AckBookLaw_law_409 : decode c_AckBookLaw_law 409 = .ok (.goto (430), 3) := by decide +kernel
theorem d_AckBookLaw_law_412 : decode c_AckBookLaw_law 412 = .ok (.aload_n 1, 1) := by decide +kernel
theorem d_AckBookLaw_law_413 : decode c_AckBookLaw_law 413 = .ok (.aload_n 0, 1) := by decide +kernel
theorem d_AckBookLaw_law_414 : decode c_AckBookLaw_law 414 = .ok (.iload 4, 2) := by decide +kernel
theorem d_AckBookLaw_law_416 : decode c_AckBookLaw_law 416 = .ok (.iconst (1), 1) := by decide +kernel
theorem d_AckBookLaw_law_417 : decode c_AckBookLaw_law 417 = .ok (.iadd, 1) := by decide +kernel
theorem d_AckBookLaw_law_418 : decode c_AckBookLaw_law 418 = .ok (.iaload, 1) := by decide +kernel
theorem d_AckBookLaw_law_419 : decode c_AckBookLaw_law 419 = .ok (.ifCond .eq (7), 3) := by decide +kernel
theorem d_AckBookLaw_law_426 : decode c_AckBookLaw_law 426 = .ok (.iconst (0), 1) := by decide +kernel
theorem d_AckBookLaw_law_422 : decode c_AckBookLaw_law 422 = .ok (.iconst (1), 1) := by decide +kernel
theorem d_AckBookLaw_law_423 : decode c_AckBookLaw_law 423 = .ok (.goto (4), 3) := by decide +kernel
theorem d_AckBookLaw_law_451 : decode c_AckBookLaw_law 451 = .ok (.aload_n 1, 1) := by decide +kernel
theorem d_AckBookLaw_law_452 : decode c_AckBookLaw_law 452 = .ok (.aload_n 0, 1) := by decide +kernel
theorem d_AckBookLaw_law_453 : decode c_AckBookLaw_law 453 = .ok (.iload 4, 2) := by decide +kernel
theorem d_AckBookLaw_law_455 : decode c_AckBookLaw_law 455 = .ok (.iconst (1), 1) := by decide +kernel
theorem d_AckBookLaw_law_456 : decode c_AckBookLaw_law 456 = .ok (.iadd, 1) := by decide +kernel
theorem d_AckBookLaw_law_457 : decode c_AckBookLaw_law 457 = .ok (.iaload, 1) := by decide +kernel
theorem d_AckBookLaw_law_458 : decode c_AckBookLaw_law 458 = .ok (.aload_n 0, 1) := by decide +kernel
theorem d_AckBookLaw_law_459 : decode c_AckBookLaw_law 459 = .ok (.iload 4, 2) := by decide +kernel
theorem d_AckBookLaw_law_461 : decode c_AckBookLaw_law 461 = .ok (.iconst (2), 1) := by decide +kernel
theorem d_AckBookLaw_law_462 : decode c_AckBookLaw_law 462 = .ok (.iadd, 1) := by decide +kernel
theorem d_AckBookLaw_law_463 : decode c_AckBookLaw_law 463 = .ok (.iaload, 1) := by decide +kernel
theorem d_AckBookLaw_law_464 : decode c_AckBookLaw_law 464 = .ok (.ifCond .eq (7), 3) := by decide +kernel
theorem d_AckBookLaw_law_471 : decode c_AckBookLaw_law 471 = .ok (.iconst (0), 1) := by decide +kernel
theorem d_AckBookLaw_law_467 : decode c_AckBookLaw_law 467 = .ok (.iconst (1), 1) := by decide +kernel
theorem d_AckBookLaw_law_468 : decode c_AckBookLaw_law 468 = .ok (.goto (4), 3) := by decide +kernel
theorem d_AckBookLaw_law_507 : decode c_AckBookLaw_law 507 = .ok (.aload_n 1, 1) := by decide +kernel
theorem d_AckBookLaw_law_508 : decode c_AckBookLaw_law 508 = .ok (.aload_n 0, 1) := by decide +kernel
theorem d_AckBookLaw_law_509 : decode c_AckBookLaw_law 509 = .ok (.iload 4, 2) := by decide +kernel
theorem d_AckBookLaw_law_511 : decode c_AckBookLaw_law 511 = .ok (.iconst (1), 1) := by decide +kernel
theorem d_AckBookLaw_law_512 : decode c_AckBookLaw_law 512 = .ok (.iadd, 1) := by decide +kernel
theorem d_AckBookLaw_law_513 : decode c_AckBookLaw_law 513 = .ok (.iaload, 1) := by decide +kernel
theorem d_AckBookLaw_law_514 : decode c_AckBookLaw_law 514 = .ok (.aload_n 0, 1) := by decide +kernel
theorem d_AckBookLaw_law_515 : decode c_AckBookLaw_law 515 = .ok (.iload 4, 2) := by decide +kernel
theorem d_AckBookLaw_law_517 : decode c_AckBookLaw_law 517 = .ok (.iconst (2), 1) := by decide +kernel
theorem d_AckBookLaw_law_518 : decode c_AckBookLaw_law 518 = .ok (.iadd, 1) := by decide +kernel
theorem d_AckBookLaw_law_519 : decode c_AckBookLaw_law 519 = .ok (.iaload, 1) := by decide +kernel
theorem d_AckBookLaw_law_520 : decode c_AckBookLaw_law 520 = .ok (.aload_n 3, 1) := by decide +kernel
theorem d_AckBookLaw_law_521 : decode c_AckBookLaw_law 521 = .ok (.invokestatic 106, 3) := by decide +kernel
theorem d_AckBookLaw_law_524 : decode c_AckBookLaw_law 524 = .ok (.istore 5, 2) := by decide +kernel
theorem d_AckBookLaw_law_526 : decode c_AckBookLaw_law 526 = .ok (.aload_n 2, 1) := by decide +kernel
theorem d_AckBookLaw_law_527 : decode c_AckBookLaw_law 527 = .ok (.aload_n 0, 1) := by decide +kernel
theorem d_AckBookLaw_law_528 : decode c_AckBookLaw_law 528 = .ok (.iload 4, 2) := by decide +kernel
theorem d_AckBookLaw_law_530 : decode c_AckBookLaw_law 530 = .ok (.iconst (1), 1) := by decide +kernel
theorem d_AckBookLaw_law_531 : decode c_AckBookLaw_law 531 = .ok (.iadd, 1) := by decide +kernel
theorem d_AckBookLaw_law_532 : decode c_AckBookLaw_law 532 = .ok (.iaload, 1) := by decide +kernel
theorem d_AckBookLaw_law_533 : decode c_AckBookLaw_law 533 = .ok (.aload_n 0, 1) := by decide +kernel
theorem d_AckBookLaw_law_534 : decode c_AckBookLaw_law 534 = .ok (.iload 4, 2) := by decide +kernel
theorem d_AckBookLaw_law_536 : decode c_AckBookLaw_law 536 = .ok (.iconst (2), 1) := by decide +kernel
theorem d_AckBookLaw_law_537 : decode c_AckBookLaw_law 537 = .ok (.iadd, 1) := by decide +kernel
theorem d_AckBookLaw_law_538 : decode c_AckBookLaw_law 538 = .ok (.iaload, 1) := by decide +kernel
theorem d_AckBookLaw_law_539 : decode c_AckBookLaw_law 539 = .ok (.invokevirtual 108, 3) := by decide +kernel
theorem d_AckBookLaw_law_542 : decode c_AckBookLaw_law 542 = .ok (.istore 6, 2) := by decide +kernel
theorem d_AckBookLaw_law_544 : decode c_AckBookLaw_law 544 = .ok (.goto (295), 3) := by decide +kernel
theorem d_AckBookLaw_law_547 : decode c_AckBookLaw_law 547 = .ok (.aload_n 1, 1) := by decide +kernel
theorem d_AckBookLaw_law_548 : decode c_AckBookLaw_law 548 = .ok (.aload_n 0, 1) := by decide +kernel
theorem d_AckBookLaw_law_549 : decode c_AckBookLaw_law 549 = .ok (.iload 4, 2) := by decide +kernel
theorem d_AckBookLaw_law_551 : decode c_AckBookLaw_law 551 = .ok (.iconst (1), 1) := by decide +kernel
theorem d_AckBookLaw_law_552 : decode c_AckBookLaw_law 552 = .ok (.iadd, 1) := by decide +kernel
theorem d_AckBookLaw_law_553 : decode c_AckBookLaw_law 553 = .ok (.iaload, 1) := by decide +kernel
theorem d_AckBookLaw_law_554 : decode c_AckBookLaw_law 554 = .ok (.aload_n 0, 1) := by decide +kernel
theorem d_AckBookLaw_law_555 : decode c_AckBookLaw_law 555 = .ok (.iload 4, 2) := by decide +kernel
theorem d_AckBookLaw_law_557 : decode c_AckBookLaw_law 557 = .ok (.iconst (2), 1) := by decide +kernel
theorem d_AckBookLaw_law_558 : decode c_AckBookLaw_law 558 = .ok (.iadd, 1) := by decide +kernel
theorem d_AckBookLaw_law_559 : decode c_AckBookLaw_law 559 = .ok (.iaload, 1) := by decide +kernel
theorem d_AckBookLaw_law_560 : decode c_AckBookLaw_law 560 = .ok (.i2l, 1) := by decide +kernel
theorem d_AckBookLaw_law_561 : decode c_AckBookLaw_law 561 = .ok (.bipush (32), 2) := by decide +kernel
theorem d_AckBookLaw_law_563 : decode c_AckBookLaw_law 563 = .ok (.lshl, 1) := by decide +kernel
theorem d_AckBookLaw_law_564 : decode c_AckBookLaw_law 564 = .ok (.aload_n 0, 1) := by decide +kernel
theorem d_AckBookLaw_law_565 : decode c_AckBookLaw_law 565 = .ok (.iload 4, 2) := by decide +kernel
theorem d_AckBookLaw_law_567 : decode c_AckBookLaw_law 567 = .ok (.iconst (3), 1) := by decide +kernel
theorem d_AckBookLaw_law_568 : decode c_AckBookLaw_law 568 = .ok (.iadd, 1) := by decide +kernel
theorem d_AckBookLaw_law_569 : decode c_AckBookLaw_law 569 = .ok (.iaload, 1) := by decide +kernel
theorem d_AckBookLaw_law_570 : decode c_AckBookLaw_law 570 = .ok (.i2l, 1) := by decide +kernel
theorem d_AckBookLaw_law_571 : decode c_AckBookLaw_law 571 = .ok (.ldc2_w 71, 3) := by decide +kernel
theorem d_AckBookLaw_law_574 : decode c_AckBookLaw_law 574 = .ok (.land, 1) := by decide +kernel
theorem d_AckBookLaw_law_575 : decode c_AckBookLaw_law 575 = .ok (.lor, 1) := by decide +kernel
theorem d_AckBookLaw_law_576 : decode c_AckBookLaw_law 576 = .ok (.aload_n 0, 1) := by decide +kernel
theorem d_AckBookLaw_law_577 : decode c_AckBookLaw_law 577 = .ok (.iload 4, 2) := by decide +kernel
theorem d_AckBookLaw_law_579 : decode c_AckBookLaw_law 579 = .ok (.iconst (4), 1) := by decide +kernel
theorem d_AckBookLaw_law_580 : decode c_AckBookLaw_law 580 = .ok (.iadd, 1) := by decide +kernel
theorem d_AckBookLaw_law_581 : decode c_AckBookLaw_law 581 = .ok (.iaload, 1) := by decide +kernel
theorem d_AckBookLaw_law_582 : decode c_AckBookLaw_law 582 = .ok (.ifCond .eq (7), 3) := by decide +kernel
theorem d_AckBookLaw_law_589 : decode c_AckBookLaw_law 589 = .ok (.iconst (0), 1) := by decide +kernel
theorem d_AckBookLaw_law_585 : decode c_AckBookLaw_law 585 = .ok (.iconst (1), 1) := by decide +kernel
theorem d_AckBookLaw_law_586 : decode c_AckBookLaw_law 586 = .ok (.goto (4), 3) := by decide +kernel
theorem d_AckBookLaw_law_647 : decode c_AckBookLaw_law 647 = .ok (.aload_n 1, 1) := by decide +kernel
theorem d_AckBookLaw_law_648 : decode c_AckBookLaw_law 648 = .ok (.aload_n 0, 1) := by decide +kernel
theorem d_AckBookLaw_law_649 : decode c_AckBookLaw_law 649 = .ok (.iload 4, 2) := by decide +kernel
theorem d_AckBookLaw_law_651 : decode c_AckBookLaw_law 651 = .ok (.iconst (1), 1) := by decide +kernel
