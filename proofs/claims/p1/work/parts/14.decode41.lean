theorem d_AckBookLaw_law_459 : decode c_AckBookLaw_law 459 = .ok (.istore 5, 2) := by decide +kernel
theorem d_AckBookLaw_law_461 : decode c_AckBookLaw_law 461 = .ok (.aload_n 2, 1) := by decide +kernel
theorem d_AckBookLaw_law_462 : decode c_AckBookLaw_law 462 = .ok (.aload_n 0, 1) := by decide +kernel
theorem d_AckBookLaw_law_463 : decode c_AckBookLaw_law 463 = .ok (.iload 4, 2) := by decide +kernel
theorem d_AckBookLaw_law_465 : decode c_AckBookLaw_law 465 = .ok (.iconst (1), 1) := by decide +kernel
theorem d_AckBookLaw_law_466 : decode c_AckBookLaw_law 466 = .ok (.iadd, 1) := by decide +kernel
theorem d_AckBookLaw_law_467 : decode c_AckBookLaw_law 467 = .ok (.iaload, 1) := by decide +kernel
theorem d_AckBookLaw_law_468 : decode c_AckBookLaw_law 468 = .ok (.invokevirtual 92, 3) := by decide +kernel
theorem d_AckBookLaw_law_471 : decode c_AckBookLaw_law 471 = .ok (.aload_n 2, 1) := by decide +kernel
theorem d_AckBookLaw_law_472 : decode c_AckBookLaw_law 472 = .ok (.invokevirtual 71, 3) := by decide +kernel
theorem d_AckBookLaw_law_475 : decode c_AckBookLaw_law 475 = .ok (.iload 5, 2) := by decide +kernel
theorem d_AckBookLaw_law_477 : decode c_AckBookLaw_law 477 = .ok (.if_icmp .eq (5), 3) := by decide +kernel
theorem d_AckBookLaw_law_482 : decode c_AckBookLaw_law 482 = .ok (.goto (677), 3) := by decide +kernel
theorem d_AckBookLaw_law_480 : decode c_AckBookLaw_law 480 = .ok (.iconst (0), 1) := by decide +kernel
theorem d_AckBookLaw_law_481 : decode c_AckBookLaw_law 481 = .ok (.ireturn, 1) := by decide +kernel
theorem d_AckBookLaw_law_485 : decode c_AckBookLaw_law 485 = .ok (.aload_n 1, 1) := by decide +kernel
theorem d_AckBookLaw_law_486 : decode c_AckBookLaw_law 486 = .ok (.invokevirtual 93, 3) := by decide +kernel
theorem d_AckBookLaw_law_489 : decode c_AckBookLaw_law 489 = .ok (.aload_n 2, 1) := by decide +kernel
theorem d_AckBookLaw_law_490 : decode c_AckBookLaw_law 490 = .ok (.invokevirtual 96, 3) := by decide +kernel
theorem d_AckBookLaw_law_493 : decode c_AckBookLaw_law 493 = .ok (.goto (666), 3) := by decide +kernel
theorem d_AckBookLaw_law_496 : decode c_AckBookLaw_law 496 = .ok (.aload_n 1, 1) := by decide +kernel
theorem d_AckBookLaw_law_497 : decode c_AckBookLaw_law 497 = .ok (.aload_n 0, 1) := by decide +kernel
theorem d_AckBookLaw_law_498 : decode c_AckBookLaw_law 498 = .ok (.iload 4, 2) := by decide +kernel
theorem d_AckBookLaw_law_500 : decode c_AckBookLaw_law 500 = .ok (.iconst (1), 1) := by decide +kernel
theorem d_AckBookLaw_law_501 : decode c_AckBookLaw_law 501 = .ok (.iadd, 1) := by decide +kernel
theorem d_AckBookLaw_law_502 : decode c_AckBookLaw_law 502 = .ok (.iaload, 1) := by decide +kernel
theorem d_AckBookLaw_law_503 : decode c_AckBookLaw_law 503 = .ok (.ifCond .eq (7), 3) := by decide +kernel
theorem d_AckBookLaw_law_510 : decode c_AckBookLaw_law 510 = .ok (.iconst (0), 1) := by decide +kernel
theorem d_AckBookLaw_law_506 : decode c_AckBookLaw_law 506 = .ok (.iconst (1), 1) := by decide +kernel
theorem d_AckBookLaw_law_507 : decode c_AckBookLaw_law 507 = .ok (.goto (4), 3) := by decide +kernel
theorem d_AckBookLaw_law_535 : decode c_AckBookLaw_law 535 = .ok (.aload_n 1, 1) := by decide +kernel
theorem d_AckBookLaw_law_536 : decode c_AckBookLaw_law 536 = .ok (.aload_n 0, 1) := by decide +kernel
theorem d_AckBookLaw_law_537 : decode c_AckBookLaw_law 537 = .ok (.iload 4, 2) := by decide +kernel
theorem d_AckBookLaw_law_539 : decode c_AckBookLaw_law 539 = .ok (.iconst (1), 1) := by decide +kernel
theorem d_AckBookLaw_law_540 : decode c_AckBookLaw_law 540 = .ok (.iadd, 1) := by decide +kernel
theorem d_AckBookLaw_law_541 : decode c_AckBookLaw_law 541 = .ok (.iaload, 1) := by decide +kernel
theorem d_AckBookLaw_law_542 : decode c_AckBookLaw_law 542 = .ok (.aload_n 0, 1) := by decide +kernel
theorem d_AckBookLaw_law_543 : decode c_AckBookLaw_law 543 = .ok (.iload 4, 2) := by decide +kernel
theorem d_AckBookLaw_law_545 : decode c_AckBookLaw_law 545 = .ok (.iconst (2), 1) := by decide +kernel
theorem d_AckBookLaw_law_546 : decode c_AckBookLaw_law 546 = .ok (.iadd, 1) := by decide +kernel
theorem d_AckBookLaw_law_547 : decode c_AckBookLaw_law 547 = .ok (.iaload, 1) := by decide +kernel
theorem d_AckBookLaw_law_548 : decode c_AckBookLaw_law 548 = .ok (.ifCond .eq (7), 3) := by decide +kernel
theorem d_AckBookLaw_law_555 : decode c_AckBookLaw_law 555 = .ok (.iconst (0), 1) := by decide +kernel
theorem d_AckBookLaw_law_551 : decode c_AckBookLaw_law 551 = .ok (.iconst (1), 1) := by decide +kernel
theorem d_AckBookLaw_law_552 : decode c_AckBookLaw_law 552 = .ok (.goto (4), 3) := by decide +kernel
theorem d_AckBookLaw_law_619 : decode c_AckBookLaw_law 619 = .ok (.aload_n 1, 1) := by decide +kernel
theorem d_AckBookLaw_law_620 : decode c_AckBookLaw_law 620 = .ok (.aload_n 0, 1) := by decide +kernel
theorem d_AckBookLaw_law_621 : decode c_AckBookLaw_law 621 = .ok (.iload 4, 2) := by decide +kernel
theorem d_AckBookLaw_law_623 : decode c_AckBookLaw_law 623 = .ok (.iconst (1), 1) := by decide +kernel
theorem d_AckBookLaw_law_624 : decode c_AckBookLaw_law 624 = .ok (.iadd, 1) := by decide +kernel
theorem d_AckBookLaw_law_625 : decode c_AckBookLaw_law 625 = .ok (.iaload, 1) := by decide +kernel
theorem d_AckBookLaw_law_626 : decode c_AckBookLaw_law 626 = .ok (.aload_n 0, 1) := by decide +kernel
theorem d_AckBookLaw_law_627 : decode c_AckBookLaw_law 627 = .ok (.iload 4, 2) := by decide +kernel
theorem d_AckBookLaw_law_629 : decode c_AckBookLaw_law 629 = .ok (.iconst (2), 1) := by decide +kernel
theorem d_AckBookLaw_law_630 : decode c_AckBookLaw_law 630 = .ok (.iadd, 1) := by decide +kernel
theorem d_AckBookLaw_law_631 : decode c_AckBookLaw_law 631 = .ok (.iaload, 1) := by decide +kernel
theorem d_AckBookLaw_law_632 : decode c_AckBookLaw_law 632 = .ok (.aload_n 3, 1) := by decide +kernel
theorem d_AckBookLaw_law_633 : decode c_AckBookLaw_law 633 = .ok (.invokestatic 106, 3) := by decide +kernel
theorem d_AckBookLaw_law_636 : decode c_AckBookLaw_law 636 = .ok (.istore 5, 2) := by decide +kernel
theorem d_AckBookLaw_law_638 : decode c_AckBookLaw_law 638 = .ok (.aload_n 2, 1) := by decide +kernel
theorem d_AckBookLaw_law_639 : decode c_AckBookLaw_law 639 = .ok (.aload_n 0, 1) := by decide +kernel
theorem d_AckBookLaw_law_640 : decode c_AckBookLaw_law 640 = .ok (.iload 4, 2) := by decide +kernel
theorem d_AckBookLaw_law_642 : decode c_AckBookLaw_law 642 = .ok (.iconst (1), 1) := by decide +kernel
theorem d_AckBookLaw_law_643 : decode c_AckBookLaw_law 643 = .ok (.iadd, 1) := by decide +kernel
theorem d_AckBookLaw_law_644 : decode c_AckBookLaw_law 644 = .ok (.iaload, 1) := by decide +kernel
theorem d_AckBookLaw_law_645 : decode c_AckBookLaw_law 645 = .ok (.aload_n 0, 1) := by decide +kernel
theorem d_AckBookLaw_law_646 : decode c_AckBookLaw_law 646 = .ok (.iload 4, 2) := by decide +kernel
theorem d_AckBookLaw_law_648 : decode c_AckBookLaw_law 648 = .ok (.iconst (2), 1) := by decide +kernel
theorem d_AckBookLaw_law_649 : decode c_AckBookLaw_law 649 = .ok (.iadd, 1) := by decide +kernel
theorem d_AckBookLaw_law_650 : decode c_AckBookLaw_law 650 = .ok (.iaload, 1) := by decide +kernel
theorem d_AckBookLaw_law_651 : decode c_AckBookLaw_law 651 = .ok (.invokevirtual 108, 3) := by decide +kernel
theorem d_AckBookLaw_law_654 : decode c_AckBookLaw_law 654 = .ok (.istore 6, 2) := by decide +kernel
theorem d_AckBookLaw_law_656 : decode c_AckBookLaw_law 656 = .ok (.aload_n 2, 1) := by decide +kernel
theorem d_AckBookLaw_law_657 : decode c_AckBookLaw_law 657 = .ok (.invokevirtual 71, 3) := by decide +kernel
theorem d_AckBookLaw_law_660 : decode c_AckBookLaw_law 660 = .ok (.iload 5, 2) := by decide +kernel
theorem d_AckBookLaw_law_662 : decode c_AckBookLaw_law 662 = .ok (.if_icmp .eq (5), 3) := by decide +kernel
theorem d_AckBookLaw_law_667 : decode c_AckBookLaw_law 667 = .ok (.iload 5, 2) := by decide +kernel
theorem d_AckBookLaw_law_669 : decode c_AckBookLaw_law 669 = .ok (.ifCond .ne (15), 3) := by decide +kernel
theorem d_AckBookLaw_law_672 : decode c_AckBookLaw_law 672 = .ok (.aload_n 3, 1) := by decide +kernel
theorem d_AckBookLaw_law_673 : decode c_AckBookLaw_law 673 = .ok (.iconst (0), 1) := by decide +kernel
theorem d_AckBookLaw_law_674 : decode c_AckBookLaw_law 674 = .ok (.laload, 1) := by decide +kernel
theorem d_AckBookLaw_law_675 : decode c_AckBookLaw_law 675 = .ok (.iload 6, 2) := by decide +kernel
theorem d_AckBookLaw_law_677 : decode c_AckBookLaw_law 677 = .ok (.i2l, 1) := by decide +kernel
theorem d_AckBookLaw_law_678 : decode c_AckBookLaw_law 678 = .ok (.lcmp, 1) := by decide +kernel
theorem d_AckBookLaw_law_679 : decode c_AckBookLaw_law 679 = .ok (.ifCond .eq (5), 3) := by decide +kernel
theorem d_AckBookLaw_law_684 : decode c_AckBookLaw_law 684 = .ok (.goto (475), 3) := by decide +kernel
theorem d_AckBookLaw_law_682 : decode c_AckBookLaw_law 682 = .ok (.iconst (0), 1) := by decide +kernel
theorem d_AckBookLaw_law_683 : decode c_AckBookLaw_law 683 = .ok (.ireturn, 1) := by decide +kernel
theorem d_AckBookLaw_law_665 : decode c_AckBookLaw_law 665 = .ok (.iconst (0), 1) := by decide +kernel
theorem d_AckBookLaw_law_666 : decode c_AckBookLaw_law 666 = .ok (.ireturn, 1) := by decide +kernel
theorem d_AckBookLaw_law_687 : decode c_AckBookLaw_law 687 = .ok (.aload_n 1, 1) := by decide +kernel
theorem d_AckBookLaw_law_688 : decode c_AckBookLaw_law 688 = .ok (.aload_n 0, 1) := by decide +kernel
theorem d_AckBookLaw_law_689 : decode c_AckBookLaw_law 689 = .ok (.iload 4, 2) := by decide +kernel
theorem d_AckBookLaw_law_691 : decode c_AckBookLaw_law 691 = .ok (.iconst (1), 1) := by decide +kernel
theorem d_AckBookLaw_law_692 : decode c_AckBookLaw_law 692 = .ok (.iadd, 1) := by decide +kernel
theorem d_AckBookLaw_law_693 : decode c_AckBookLaw_law 693 = .ok (.iaload, 1) := by decide +kernel
theorem d_AckBookLaw_law_694 : decode c_AckBookLaw_law 694 = .ok (.aload_n 0, 1) := by decide +kernel
theorem d_AckBookLaw_law_695 : decode c_AckBookLaw_law 695 = .ok (.iload 4, 2) := by decide +kernel
theorem d_AckBookLaw_law_697 : decode c_AckBookLaw_law 697 = .ok (.iconst (2), 1) := by decide +kernel
theorem d_AckBookLaw_law_698 : decode c_AckBookLaw_law 698 = .ok (.iadd, 1) := by decide +kernel
theorem d_AckBookLaw_law_699 : decode c_AckBookLaw_law 699 = .ok (.iaload, 1) := by decide +kernel
theorem d_AckBookLaw_law_700 : decode c_AckBookLaw_law 700 = .ok (.i2l, 1) := by decide +kernel
theorem d_AckBookLaw_law_701 : decode c_AckBookLaw_law 701 = .ok (.bipush (32), 2) := by decide +kernel
theorem d_AckBookLaw_law_703 : decode c_AckBookLaw_law 703 = .ok (.lshl, 1) := by decide +kernel
theorem d_AckBookLaw_law_704 : decode c_AckBookLaw_law 704 = .ok (.aload_n 0, 1) := by decide +kernel
theorem d_AckBookLaw_law_705 : decode c_AckBookLaw_law 705 = .ok (.iload 4, 2) := by decide +kernel
theorem d_AckBookLaw_law_707 : decode c_AckBookLaw_law 707 = .ok (.iconst (3), 1) := by decide +kernel
theorem d_AckBookLaw_law_708 : decode c_AckBookLaw_law 708 = .ok (.iadd, 1) := by decide +kernel
theorem d_AckBookLaw_law_709 : decode c_AckBookLaw_law 709 = .ok (.iaload, 1) := by decide +kernel
theorem d_AckBookLaw_law_710 : decode c_AckBookLaw_law 710 = .ok (.i2l, 1) := by decide +kernel
theorem d_AckBookLaw_law_711 : decode c_AckBookLaw_law 711 = .ok (.ldc2_w 75, 3) := by decide +kernel
theorem d_AckBookLaw_law_714 : decode c_AckBookLaw_law 714 = .ok (.land, 1) := by decide +kernel
theorem d_AckBookLaw_law_715 : decode c_AckBookLaw_law 715 = .ok (.lor, 1) := by decide +kernel
theorem d_AckBookLaw_law_716 : decode c_AckBookLaw_law 716 = .ok (.aload_n 0, 1) := by decide +kernel
theorem d_AckBookLaw_law_717 : decode c_AckBookLaw_law 717 = .ok (.iload 4, 2) := by decide +kernel
theorem d_AckBookLaw_law_719 : decode c_AckBookLaw_law 719 = .ok (.iconst (4), 1) := by decide +kernel
theorem d_AckBookLaw_law_720 : decode c_AckBookLaw_law 720 = .ok (.iadd, 1) := by decide +kernel
theorem d_AckBookLaw_law_721 : decode c_AckBookLaw_law 721 = .ok (.iaload, 1) := by decide +kernel
theorem d_AckBookLaw_law_722 : decode c_AckBookLaw_law 722 = .ok (.ifCond .eq (7), 3) := by decide +kernel
theorem d_AckBookLaw_law_729 : decode c_AckBookLaw_law 729 = .ok (.iconst (0), 1) := by decide +kernel
