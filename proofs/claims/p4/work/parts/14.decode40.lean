theorem d_AckBookLaw_law_360 : decode c_AckBookLaw_law 360 = .ok (.iload 5, 2) := by decide +kernel
theorem d_AckBookLaw_law_362 : decode c_AckBookLaw_law 362 = .ok (.ifCond .ne (15), 3) := by decide +kernel
theorem d_AckBookLaw_law_365 : decode c_AckBookLaw_law 365 = .ok (.aload_n 3, 1) := by decide +kernel
theorem d_AckBookLaw_law_366 : decode c_AckBookLaw_law 366 = .ok (.iconst (0), 1) := by decide +kernel
theorem d_AckBookLaw_law_367 : decode c_AckBookLaw_law 367 = .ok (.laload, 1) := by decide +kernel
theorem d_AckBookLaw_law_368 : decode c_AckBookLaw_law 368 = .ok (.iload 6, 2) := by decide +kernel
theorem d_AckBookLaw_law_370 : decode c_AckBookLaw_law 370 = .ok (.i2l, 1) := by decide +kernel
theorem d_AckBookLaw_law_371 : decode c_AckBookLaw_law 371 = .ok (.lcmp, 1) := by decide +kernel
theorem d_AckBookLaw_law_372 : decode c_AckBookLaw_law 372 = .ok (.ifCond .eq (5), 3) := by decide +kernel
theorem d_AckBookLaw_law_377 : decode c_AckBookLaw_law 377 = .ok (.goto (479), 3) := by decide +kernel
theorem d_AckBookLaw_law_375 : decode c_AckBookLaw_law 375 = .ok (.iconst (0), 1) := by decide +kernel
theorem d_AckBookLaw_law_376 : decode c_AckBookLaw_law 376 = .ok (.ireturn, 1) := by decide +kernel
theorem d_AckBookLaw_law_358 : decode c_AckBookLaw_law 358 = .ok (.iconst (0), 1) := by decide +kernel
theorem d_AckBookLaw_law_359 : decode c_AckBookLaw_law 359 = .ok (.ireturn, 1) := by decide +kernel
theorem d_AckBookLaw_law_380 : decode c_AckBookLaw_law 380 = .ok (.aload_n 1, 1) := by decide +kernel
theorem d_AckBookLaw_law_381 : decode c_AckBookLaw_law 381 = .ok (.invokevirtual 85, 3) := by decide +kernel
theorem d_AckBookLaw_law_384 : decode c_AckBookLaw_law 384 = .ok (.pop, 1) := by decide +kernel
theorem d_AckBookLaw_law_385 : decode c_AckBookLaw_law 385 = .ok (.aload_n 2, 1) := by decide +kernel
theorem d_AckBookLaw_law_386 : decode c_AckBookLaw_law 386 = .ok (.invokevirtual 88, 3) := by decide +kernel
theorem d_AckBookLaw_law_389 : decode c_AckBookLaw_law 389 = .ok (.pop, 1) := by decide +kernel
theorem d_AckBookLaw_law_390 : decode c_AckBookLaw_law 390 = .ok (.goto (466), 3) := by decide +kernel
theorem d_AckBookLaw_law_393 : decode c_AckBookLaw_law 393 = .ok (.aload_n 1, 1) := by decide +kernel
theorem d_AckBookLaw_law_394 : decode c_AckBookLaw_law 394 = .ok (.aload_n 0, 1) := by decide +kernel
theorem d_AckBookLaw_law_395 : decode c_AckBookLaw_law 395 = .ok (.iload 4, 2) := by decide +kernel
theorem d_AckBookLaw_law_397 : decode c_AckBookLaw_law 397 = .ok (.iconst (1), 1) := by decide +kernel
theorem d_AckBookLaw_law_398 : decode c_AckBookLaw_law 398 = .ok (.iadd, 1) := by decide +kernel
theorem d_AckBookLaw_law_399 : decode c_AckBookLaw_law 399 = .ok (.iaload, 1) := by decide +kernel
theorem d_AckBookLaw_law_400 : decode c_AckBookLaw_law 400 = .ok (.invokestatic 89, 3) := by decide +kernel
theorem d_AckBookLaw_law_403 : decode c_AckBookLaw_law 403 = .ok (.istore 5, 2) := by decide +kernel
theorem d_AckBookLaw_law_405 : decode c_AckBookLaw_law 405 = .ok (.aload_n 2, 1) := by decide +kernel
theorem d_AckBookLaw_law_406 : decode c_AckBookLaw_law 406 = .ok (.aload_n 0, 1) := by decide +kernel
theorem d_AckBookLaw_law_407 : decode c_AckBookLaw_law 407 = .ok (.iload 4, 2) := by decide +kernel
theorem d_AckBookLaw_law_409 : decode c_AckBookLaw_law 409 = .ok (.iconst (1), 1) := by decide +kernel
theorem d_AckBookLaw_law_410 : decode c_AckBookLaw_law 410 = .ok (.iadd, 1) := by decide +kernel
theorem d_AckBookLaw_law_411 : decode c_AckBookLaw_law 411 = .ok (.iaload, 1) := by decide +kernel
theorem d_AckBookLaw_law_412 : decode c_AckBookLaw_law 412 = .ok (.invokevirtual 92, 3) := by decide +kernel
theorem d_AckBookLaw_law_415 : decode c_AckBookLaw_law 415 = .ok (.goto (441), 3) := by decide +kernel
theorem d_AckBookLaw_law_418 : decode c_AckBookLaw_law 418 = .ok (.aload_n 1, 1) := by decide +kernel
theorem d_AckBookLaw_law_419 : decode c_AckBookLaw_law 419 = .ok (.invokevirtual 93, 3) := by decide +kernel
theorem d_AckBookLaw_law_422 : decode c_AckBookLaw_law 422 = .ok (.aload_n 2, 1) := by decide +kernel
theorem d_AckBookLaw_law_423 : decode c_AckBookLaw_law 423 = .ok (.invokevirtual 96, 3) := by decide +kernel
theorem d_AckBookLaw_law_426 : decode c_AckBookLaw_law 426 = .ok (.goto (430), 3) := by decide +kernel
theorem d_AckBookLaw_law_429 : decode c_AckBookLaw_law 429 = .ok (.aload_n 1, 1) := by decide +kernel
theorem d_AckBookLaw_law_430 : decode c_AckBookLaw_law 430 = .ok (.aload_n 0, 1) := by decide +kernel
theorem d_AckBookLaw_law_431 : decode c_AckBookLaw_law 431 = .ok (.iload 4, 2) := by decide +kernel
theorem d_AckBookLaw_law_433 : decode c_AckBookLaw_law 433 = .ok (.iconst (1), 1) := by decide +kernel
theorem d_AckBookLaw_law_434 : decode c_AckBookLaw_law 434 = .ok (.iadd, 1) := by decide +kernel
theorem d_AckBookLaw_law_435 : decode c_AckBookLaw_law 435 = .ok (.iaload, 1) := by decide +kernel
theorem d_AckBookLaw_law_436 : decode c_AckBookLaw_law 436 = .ok (.ifCond .eq (7), 3) := by decide +kernel
theorem d_AckBookLaw_law_443 : decode c_AckBookLaw_law 443 = .ok (.iconst (0), 1) := by decide +kernel
theorem d_AckBookLaw_law_439 : decode c_AckBookLaw_law 439 = .ok (.iconst (1), 1) := by decide +kernel
theorem d_AckBookLaw_law_440 : decode c_AckBookLaw_law 440 = .ok (.goto (4), 3) := by decide +kernel
theorem d_AckBookLaw_law_468 : decode c_AckBookLaw_law 468 = .ok (.aload_n 1, 1) := by decide +kernel
theorem d_AckBookLaw_law_469 : decode c_AckBookLaw_law 469 = .ok (.aload_n 0, 1) := by decide +kernel
theorem d_AckBookLaw_law_470 : decode c_AckBookLaw_law 470 = .ok (.iload 4, 2) := by decide +kernel
theorem d_AckBookLaw_law_472 : decode c_AckBookLaw_law 472 = .ok (.iconst (1), 1) := by decide +kernel
theorem d_AckBookLaw_law_473 : decode c_AckBookLaw_law 473 = .ok (.iadd, 1) := by decide +kernel
theorem d_AckBookLaw_law_474 : decode c_AckBookLaw_law 474 = .ok (.iaload, 1) := by decide +kernel
theorem d_AckBookLaw_law_475 : decode c_AckBookLaw_law 475 = .ok (.aload_n 0, 1) := by decide +kernel
theorem d_AckBookLaw_law_476 : decode c_AckBookLaw_law 476 = .ok (.iload 4, 2) := by decide +kernel
theorem d_AckBookLaw_law_478 : decode c_AckBookLaw_law 478 = .ok (.iconst (2), 1) := by decide +kernel
theorem d_AckBookLaw_law_479 : decode c_AckBookLaw_law 479 = .ok (.iadd, 1) := by decide +kernel
theorem d_AckBookLaw_law_480 : decode c_AckBookLaw_law 480 = .ok (.iaload, 1) := by decide +kernel
theorem d_AckBookLaw_law_481 : decode c_AckBookLaw_law 481 = .ok (.ifCond .eq (7), 3) := by decide +kernel
theorem d_AckBookLaw_law_488 : decode c_AckBookLaw_law 488 = .ok (.iconst (0), 1) := by decide +kernel
theorem d_AckBookLaw_law_484 : decode c_AckBookLaw_law 484 = .ok (.iconst (1), 1) := by decide +kernel
theorem d_AckBookLaw_law_485 : decode c_AckBookLaw_law 485 = .ok (.goto (4), 3) := by decide +kernel
theorem d_AckBookLaw_law_524 : decode c_AckBookLaw_law 524 = .ok (.aload_n 1, 1) := by decide +kernel
theorem d_AckBookLaw_law_525 : decode c_AckBookLaw_law 525 = .ok (.aload_n 0, 1) := by decide +kernel
theorem d_AckBookLaw_law_526 : decode c_AckBookLaw_law 526 = .ok (.iload 4, 2) := by decide +kernel
theorem d_AckBookLaw_law_528 : decode c_AckBookLaw_law 528 = .ok (.iconst (1), 1) := by decide +kernel
theorem d_AckBookLaw_law_529 : decode c_AckBookLaw_law 529 = .ok (.iadd, 1) := by decide +kernel
theorem d_AckBookLaw_law_530 : decode c_AckBookLaw_law 530 = .ok (.iaload, 1) := by decide +kernel
theorem d_AckBookLaw_law_531 : decode c_AckBookLaw_law 531 = .ok (.aload_n 0, 1) := by decide +kernel
theorem d_AckBookLaw_law_532 : decode c_AckBookLaw_law 532 = .ok (.iload 4, 2) := by decide +kernel
theorem d_AckBookLaw_law_534 : decode c_AckBookLaw_law 534 = .ok (.iconst (2), 1) := by decide +kernel
theorem d_AckBookLaw_law_535 : decode c_AckBookLaw_law 535 = .ok (.iadd, 1) := by decide +kernel
theorem d_AckBookLaw_law_536 : decode c_AckBookLaw_law 536 = .ok (.iaload, 1) := by decide +kernel
theorem d_AckBookLaw_law_537 : decode c_AckBookLaw_law 537 = .ok (.aload_n 3, 1) := by decide +kernel
theorem d_AckBookLaw_law_538 : decode c_AckBookLaw_law 538 = .ok (.invokestatic 106, 3) := by decide +kernel
theorem d_AckBookLaw_law_541 : decode c_AckBookLaw_law 541 = .ok (.istore 5, 2) := by decide +kernel
theorem d_AckBookLaw_law_543 : decode c_AckBookLaw_law 543 = .ok (.aload_n 2, 1) := by decide +kernel
theorem d_AckBookLaw_law_544 : decode c_AckBookLaw_law 544 = .ok (.aload_n 0, 1) := by decide +kernel
theorem d_AckBookLaw_law_545 : decode c_AckBookLaw_law 545 = .ok (.iload 4, 2) := by decide +kernel
theorem d_AckBookLaw_law_547 : decode c_AckBookLaw_law 547 = .ok (.iconst (1), 1) := by decide +kernel
theorem d_AckBookLaw_law_548 : decode c_AckBookLaw_law 548 = .ok (.iadd, 1) := by decide +kernel
theorem d_AckBookLaw_law_549 : decode c_AckBookLaw_law 549 = .ok (.iaload, 1) := by decide +kernel
theorem d_AckBookLaw_law_550 : decode c_AckBookLaw_law 550 = .ok (.aload_n 0, 1) := by decide +kernel
theorem d_AckBookLaw_law_551 : decode c_AckBookLaw_law 551 = .ok (.iload 4, 2) := by decide +kernel
theorem d_AckBookLaw_law_553 : decode c_AckBookLaw_law 553 = .ok (.iconst (2), 1) := by decide +kernel
theorem d_AckBookLaw_law_554 : decode c_AckBookLaw_law 554 = .ok (.iadd, 1) := by decide +kernel
theorem d_AckBookLaw_law_555 : decode c_AckBookLaw_law 555 = .ok (.iaload, 1) := by decide +kernel
theorem d_AckBookLaw_law_556 : decode c_AckBookLaw_law 556 = .ok (.invokevirtual 108, 3) := by decide +kernel
theorem d_AckBookLaw_law_559 : decode c_AckBookLaw_law 559 = .ok (.istore 6, 2) := by decide +kernel
theorem d_AckBookLaw_law_561 : decode c_AckBookLaw_law 561 = .ok (.goto (295), 3) := by decide +kernel
theorem d_AckBookLaw_law_564 : decode c_AckBookLaw_law 564 = .ok (.aload_n 1, 1) := by decide +kernel
theorem d_AckBookLaw_law_565 : decode c_AckBookLaw_law 565 = .ok (.aload_n 0, 1) := by decide +kernel
theorem d_AckBookLaw_law_566 : decode c_AckBookLaw_law 566 = .ok (.iload 4, 2) := by decide +kernel
theorem d_AckBookLaw_law_568 : decode c_AckBookLaw_law 568 = .ok (.iconst (1), 1) := by decide +kernel
theorem d_AckBookLaw_law_569 : decode c_AckBookLaw_law 569 = .ok (.iadd, 1) := by decide +kernel
theorem d_AckBookLaw_law_570 : decode c_AckBookLaw_law 570 = .ok (.iaload, 1) := by decide +kernel
theorem d_AckBookLaw_law_571 : decode c_AckBookLaw_law 571 = .ok (.aload_n 0, 1) := by decide +kernel
theorem d_AckBookLaw_law_572 : decode c_AckBookLaw_law 572 = .ok (.iload 4, 2) := by decide +kernel
theorem d_AckBookLaw_law_574 : decode c_AckBookLaw_law 574 = .ok (.iconst (2), 1) := by decide +kernel
theorem d_AckBookLaw_law_575 : decode c_AckBookLaw_law 575 = .ok (.iadd, 1) := by decide +kernel
theorem d_AckBookLaw_law_576 : decode c_AckBookLaw_law 576 = .ok (.iaload, 1) := by decide +kernel
theorem d_AckBookLaw_law_577 : decode c_AckBookLaw_law 577 = .ok (.i2l, 1) := by decide +kernel
theorem d_AckBookLaw_law_578 : decode c_AckBookLaw_law 578 = .ok (.bipush (32), 2) := by decide +kernel
theorem d_AckBookLaw_law_580 : decode c_AckBookLaw_law 580 = .ok (.lshl, 1) := by decide +kernel
theorem d_AckBookLaw_law_581 : decode c_AckBookLaw_law 581 = .ok (.aload_n 0, 1) := by decide +kernel
theorem d_AckBookLaw_law_582 : decode c_AckBookLaw_law 582 = .ok (.iload 4, 2) := by decide +kernel
theorem d_AckBookLaw_law_584 : decode c_AckBookLaw_law 584 = .ok (.iconst (3), 1) := by decide +kernel
theorem d_AckBookLaw_law_585 : decode c_AckBookLaw_law 585 = .ok (.iadd, 1) := by decide +kernel
theorem d_AckBookLaw_law_586 : decode c_AckBookLaw_law 586 = .ok (.iaload, 1) := by decide +kernel
theorem d_AckBookLaw_law_587 : decode c_AckBookLaw_law 587 = .ok (.i2l, 1) := by decide +kernel
theorem d_AckBookLaw_law_588 : decode c_AckBookLaw_law 588 = .ok (.ldc2_w 71, 3) := by decide +kernel
theorem d_AckBookLaw_law_591 : decode c_AckBookLaw_law 591 = .ok (.land, 1) := by decide +kernel
theorem d_AckBookLaw_law_592 : decode c_AckBookLaw_law 592 = .ok (.lor, 1) := by decide +kernel
theorem d_AckBookLaw_law_593 : decode c_AckBookLaw_law 593 = .ok (.aload_n 0, 1) := by decide +kernel
theorem d_AckBookLaw_law_594 : decode c_AckBookLaw_law 594 = .ok (.iload 4, 2) := by decide +kernel
