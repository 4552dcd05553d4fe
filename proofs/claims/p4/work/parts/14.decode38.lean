theorem d_AckBookLaw_law_626 : decode c_AckBookLaw_law 626 = .ok (.i2l, 1) := by decide +kernel
theorem d_AckBookLaw_law_627 : decode c_AckBookLaw_law 627 = .ok (.bipush (32), 2) := by decide +kernel
theorem d_AckBookLaw_law_629 : decode c_AckBookLaw_law 629 = .ok (.lshl, 1) := by decide +kernel
theorem d_AckBookLaw_law_630 : decode c_AckBookLaw_law 630 = .ok (.aload_n 0, 1) := by decide +kernel
theorem d_AckBookLaw_law_631 : decode c_AckBookLaw_law 631 = .ok (.iload 4, 2) := by decide +kernel
theorem d_AckBookLaw_law_633 : decode c_AckBookLaw_law 633 = .ok (.iconst (3), 1) := by decide +kernel
theorem d_AckBookLaw_law_634 : decode c_AckBookLaw_law 634 = .ok (.iadd, 1) := by decide +kernel
theorem d_AckBookLaw_law_635 : decode c_AckBookLaw_law 635 = .ok (.iaload, 1) := by decide +kernel
theorem d_AckBookLaw_law_636 : decode c_AckBookLaw_law 636 = .ok (.i2l, 1) := by decide +kernel
theorem d_AckBookLaw_law_637 : decode c_AckBookLaw_law 637 = .ok (.ldc2_w 71, 3) := by decide +kernel
theorem d_AckBookLaw_law_640 : decode c_AckBookLaw_law 640 = .ok (.land, 1) := by decide +kernel
theorem d_AckBookLaw_law_641 : decode c_AckBookLaw_law 641 = .ok (.lor, 1) := by decide +kernel
theorem d_AckBookLaw_law_642 : decode c_AckBookLaw_law 642 = .ok (.aload_n 0, 1) := by decide +kernel
theorem d_AckBookLaw_law_643 : decode c_AckBookLaw_law 643 = .ok (.iload 4, 2) := by decide +kernel
theorem d_AckBookLaw_law_645 : decode c_AckBookLaw_law 645 = .ok (.iconst (4), 1) := by decide +kernel
theorem d_AckBookLaw_law_646 : decode c_AckBookLaw_law 646 = .ok (.iadd, 1) := by decide +kernel
theorem d_AckBookLaw_law_647 : decode c_AckBookLaw_law 647 = .ok (.iaload, 1) := by decide +kernel
theorem d_AckBookLaw_law_648 : decode c_AckBookLaw_law 648 = .ok (.ifCond .eq (7), 3) := by decide +kernel
theorem d_AckBookLaw_law_655 : decode c_AckBookLaw_law 655 = .ok (.iconst (0), 1) := by decide +kernel
theorem d_AckBookLaw_law_651 : decode c_AckBookLaw_law 651 = .ok (.iconst (1), 1) := by decide +kernel
theorem d_AckBookLaw_law_652 : decode c_AckBookLaw_law 652 = .ok (.goto (4), 3) := by decide +kernel
theorem d_AckBookLaw_law_516 : decode c_AckBookLaw_law 516 = .ok (.invokevirtual 105, 3) := by decide +kernel
theorem d_AckBookLaw_law_519 : decode c_AckBookLaw_law 519 = .ok (.istore 6, 2) := by decide +kernel
theorem d_AckBookLaw_law_521 : decode c_AckBookLaw_law 521 = .ok (.goto (335), 3) := by decide +kernel
theorem d_AckBookLaw_law_489 : decode c_AckBookLaw_law 489 = .ok (.aload_n 3, 1) := by decide +kernel
theorem d_AckBookLaw_law_490 : decode c_AckBookLaw_law 490 = .ok (.invokestatic 102, 3) := by decide +kernel
theorem d_AckBookLaw_law_493 : decode c_AckBookLaw_law 493 = .ok (.istore 5, 2) := by decide +kernel
theorem d_AckBookLaw_law_495 : decode c_AckBookLaw_law 495 = .ok (.aload_n 2, 1) := by decide +kernel
theorem d_AckBookLaw_law_496 : decode c_AckBookLaw_law 496 = .ok (.aload_n 0, 1) := by decide +kernel
theorem d_AckBookLaw_law_497 : decode c_AckBookLaw_law 497 = .ok (.iload 4, 2) := by decide +kernel
theorem d_AckBookLaw_law_499 : decode c_AckBookLaw_law 499 = .ok (.iconst (1), 1) := by decide +kernel
theorem d_AckBookLaw_law_500 : decode c_AckBookLaw_law 500 = .ok (.iadd, 1) := by decide +kernel
theorem d_AckBookLaw_law_501 : decode c_AckBookLaw_law 501 = .ok (.iaload, 1) := by decide +kernel
theorem d_AckBookLaw_law_502 : decode c_AckBookLaw_law 502 = .ok (.aload_n 0, 1) := by decide +kernel
theorem d_AckBookLaw_law_503 : decode c_AckBookLaw_law 503 = .ok (.iload 4, 2) := by decide +kernel
theorem d_AckBookLaw_law_505 : decode c_AckBookLaw_law 505 = .ok (.iconst (2), 1) := by decide +kernel
theorem d_AckBookLaw_law_506 : decode c_AckBookLaw_law 506 = .ok (.iadd, 1) := by decide +kernel
theorem d_AckBookLaw_law_507 : decode c_AckBookLaw_law 507 = .ok (.iaload, 1) := by decide +kernel
theorem d_AckBookLaw_law_508 : decode c_AckBookLaw_law 508 = .ok (.ifCond .eq (7), 3) := by decide +kernel
theorem d_AckBookLaw_law_515 : decode c_AckBookLaw_law 515 = .ok (.iconst (0), 1) := by decide +kernel
theorem d_AckBookLaw_law_511 : decode c_AckBookLaw_law 511 = .ok (.iconst (1), 1) := by decide +kernel
theorem d_AckBookLaw_law_512 : decode c_AckBookLaw_law 512 = .ok (.goto (4), 3) := by decide +kernel
theorem d_AckBookLaw_law_462 : decode c_AckBookLaw_law 462 = .ok (.invokevirtual 101, 3) := by decide +kernel
theorem d_AckBookLaw_law_465 : decode c_AckBookLaw_law 465 = .ok (.goto (391), 3) := by decide +kernel
theorem d_AckBookLaw_law_444 : decode c_AckBookLaw_law 444 = .ok (.invokevirtual 97, 3) := by decide +kernel
theorem d_AckBookLaw_law_447 : decode c_AckBookLaw_law 447 = .ok (.aload_n 2, 1) := by decide +kernel
theorem d_AckBookLaw_law_448 : decode c_AckBookLaw_law 448 = .ok (.aload_n 0, 1) := by decide +kernel
theorem d_AckBookLaw_law_449 : decode c_AckBookLaw_law 449 = .ok (.iload 4, 2) := by decide +kernel
theorem d_AckBookLaw_law_451 : decode c_AckBookLaw_law 451 = .ok (.iconst (1), 1) := by decide +kernel
theorem d_AckBookLaw_law_452 : decode c_AckBookLaw_law 452 = .ok (.iadd, 1) := by decide +kernel
theorem d_AckBookLaw_law_453 : decode c_AckBookLaw_law 453 = .ok (.iaload, 1) := by decide +kernel
theorem d_AckBookLaw_law_454 : decode c_AckBookLaw_law 454 = .ok (.ifCond .eq (7), 3) := by decide +kernel
theorem d_AckBookLaw_law_461 : decode c_AckBookLaw_law 461 = .ok (.iconst (0), 1) := by decide +kernel
theorem d_AckBookLaw_law_457 : decode c_AckBookLaw_law 457 = .ok (.iconst (1), 1) := by decide +kernel
theorem d_AckBookLaw_law_458 : decode c_AckBookLaw_law 458 = .ok (.goto (4), 3) := by decide +kernel
theorem d_AckBookLaw_law_200 : decode c_AckBookLaw_law 200 = .ok (.invokevirtual 70, 3) := by decide +kernel
theorem d_AckBookLaw_law_203 : decode c_AckBookLaw_law 203 = .ok (.istore 6, 2) := by decide +kernel
theorem d_AckBookLaw_law_205 : decode c_AckBookLaw_law 205 = .ok (.goto (651), 3) := by decide +kernel
theorem d_AckBookLaw_law_186 : decode c_AckBookLaw_law 186 = .ok (.aload_n 0, 1) := by decide +kernel
theorem d_AckBookLaw_law_187 : decode c_AckBookLaw_law 187 = .ok (.iload 4, 2) := by decide +kernel
theorem d_AckBookLaw_law_189 : decode c_AckBookLaw_law 189 = .ok (.iconst (4), 1) := by decide +kernel
theorem d_AckBookLaw_law_190 : decode c_AckBookLaw_law 190 = .ok (.iadd, 1) := by decide +kernel
theorem d_AckBookLaw_law_191 : decode c_AckBookLaw_law 191 = .ok (.iaload, 1) := by decide +kernel
theorem d_AckBookLaw_law_192 : decode c_AckBookLaw_law 192 = .ok (.ifCond .eq (7), 3) := by decide +kernel
theorem d_AckBookLaw_law_199 : decode c_AckBookLaw_law 199 = .ok (.iconst (0), 1) := by decide +kernel
theorem d_AckBookLaw_law_195 : decode c_AckBookLaw_law 195 = .ok (.iconst (1), 1) := by decide +kernel
theorem d_AckBookLaw_law_196 : decode c_AckBookLaw_law 196 = .ok (.goto (4), 3) := by decide +kernel
theorem d_AckBookLaw_law_153 : decode c_AckBookLaw_law 153 = .ok (.aload_n 3, 1) := by decide +kernel
theorem d_AckBookLaw_law_154 : decode c_AckBookLaw_law 154 = .ok (.invokestatic 65, 3) := by decide +kernel
theorem d_AckBookLaw_law_157 : decode c_AckBookLaw_law 157 = .ok (.istore 5, 2) := by decide +kernel
theorem d_AckBookLaw_law_159 : decode c_AckBookLaw_law 159 = .ok (.aload_n 2, 1) := by decide +kernel
theorem d_AckBookLaw_law_160 : decode c_AckBookLaw_law 160 = .ok (.aload_n 0, 1) := by decide +kernel
theorem d_AckBookLaw_law_161 : decode c_AckBookLaw_law 161 = .ok (.iload 4, 2) := by decide +kernel
theorem d_AckBookLaw_law_163 : decode c_AckBookLaw_law 163 = .ok (.iconst (1), 1) := by decide +kernel
theorem d_AckBookLaw_law_164 : decode c_AckBookLaw_law 164 = .ok (.iadd, 1) := by decide +kernel
theorem d_AckBookLaw_law_165 : decode c_AckBookLaw_law 165 = .ok (.iaload, 1) := by decide +kernel
theorem d_AckBookLaw_law_166 : decode c_AckBookLaw_law 166 = .ok (.aload_n 0, 1) := by decide +kernel
theorem d_AckBookLaw_law_167 : decode c_AckBookLaw_law 167 = .ok (.iload 4, 2) := by decide +kernel
theorem d_AckBookLaw_law_169 : decode c_AckBookLaw_law 169 = .ok (.iconst (2), 1) := by decide +kernel
theorem d_AckBookLaw_law_170 : decode c_AckBookLaw_law 170 = .ok (.iadd, 1) := by decide +kernel
theorem d_AckBookLaw_law_171 : decode c_AckBookLaw_law 171 = .ok (.iaload, 1) := by decide +kernel
theorem d_AckBookLaw_law_172 : decode c_AckBookLaw_law 172 = .ok (.aload_n 0, 1) := by decide +kernel
theorem d_AckBookLaw_law_173 : decode c_AckBookLaw_law 173 = .ok (.iload 4, 2) := by decide +kernel
theorem d_AckBookLaw_law_175 : decode c_AckBookLaw_law 175 = .ok (.iconst (3), 1) := by decide +kernel
theorem d_AckBookLaw_law_176 : decode c_AckBookLaw_law 176 = .ok (.iadd, 1) := by decide +kernel
theorem d_AckBookLaw_law_177 : decode c_AckBookLaw_law 177 = .ok (.iaload, 1) := by decide +kernel
theorem d_AckBookLaw_law_178 : decode c_AckBookLaw_law 178 = .ok (.ifCond .eq (7), 3) := by decide +kernel
theorem d_AckBookLaw_law_185 : decode c_AckBookLaw_law 185 = .ok (.iconst (0), 1) := by decide +kernel
theorem d_AckBookLaw_law_181 : decode c_AckBookLaw_law 181 = .ok (.iconst (1), 1) := by decide +kernel
theorem d_AckBookLaw_law_182 : decode c_AckBookLaw_law 182 = .ok (.goto (4), 3) := by decide +kernel
theorem d_AckBookLaw_law_139 : decode c_AckBookLaw_law 139 = .ok (.aload_n 0, 1) := by decide +kernel
theorem d_AckBookLaw_law_140 : decode c_AckBookLaw_law 140 = .ok (.iload 4, 2) := by decide +kernel
theorem d_AckBookLaw_law_142 : decode c_AckBookLaw_law 142 = .ok (.iconst (4), 1) := by decide +kernel
theorem d_AckBookLaw_law_143 : decode c_AckBookLaw_law 143 = .ok (.iadd, 1) := by decide +kernel
theorem d_AckBookLaw_law_144 : decode c_AckBookLaw_law 144 = .ok (.iaload, 1) := by decide +kernel
theorem d_AckBookLaw_law_145 : decode c_AckBookLaw_law 145 = .ok (.ifCond .eq (7), 3) := by decide +kernel
theorem d_AckBookLaw_law_152 : decode c_AckBookLaw_law 152 = .ok (.iconst (0), 1) := by decide +kernel
theorem d_AckBookLaw_law_148 : decode c_AckBookLaw_law 148 = .ok (.iconst (1), 1) := by decide +kernel
theorem d_AckBookLaw_law_149 : decode c_AckBookLaw_law 149 = .ok (.goto (4), 3) := by decide +kernel
theorem d_AckBookLaw_law_23 : decode c_AckBookLaw_law 23 = .ok (.iload 4, 2) := by decide +kernel
theorem d_AckBookLaw_law_25 : decode c_AckBookLaw_law 25 = .ok (.aload_n 0, 1) := by decide +kernel
theorem d_AckBookLaw_law_26 : decode c_AckBookLaw_law 26 = .ok (.arraylength, 1) := by decide +kernel
theorem d_AckBookLaw_law_27 : decode c_AckBookLaw_law 27 = .ok (.iconst (5), 1) := by decide +kernel
theorem d_AckBookLaw_law_28 : decode c_AckBookLaw_law 28 = .ok (.isub, 1) := by decide +kernel
theorem d_AckBookLaw_law_29 : decode c_AckBookLaw_law 29 = .ok (.if_icmp .gt (833), 3) := by decide +kernel
theorem d_AckBookLaw_law_862 : decode c_AckBookLaw_law 862 = .ok (.iconst (1), 1) := by decide +kernel
theorem d_AckBookLaw_law_863 : decode c_AckBookLaw_law 863 = .ok (.ireturn, 1) := by decide +kernel
theorem d_AckBookLaw_law_32 : decode c_AckBookLaw_law 32 = .ok (.aload_n 0, 1) := by decide +kernel
theorem d_AckBookLaw_law_33 : decode c_AckBookLaw_law 33 = .ok (.iload 4, 2) := by decide +kernel
theorem d_AckBookLaw_law_35 : decode c_AckBookLaw_law 35 = .ok (.iaload, 1) := by decide +kernel
theorem d_AckBookLaw_law_36 : decode c_AckBookLaw_law 36 = .ok (.bipush (15), 2) := by decide +kernel
theorem d_AckBookLaw_law_38 : decode c_AckBookLaw_law 38 = .ok (.iand, 1) := by decide +kernel
theorem d_AckBookLaw_law_39 : decode c_AckBookLaw_law 39 = .ok (.tableswitch (817) (0) (14) #[73, 169, 273, 341, 354, 379, 390, 429, 485, 525, 625, 653, 681, 749, 777], 73) := by decide +kernel
theorem d_AckBookLaw_law_112 : decode c_AckBookLaw_law 112 = .ok (.aload_n 1, 1) := by decide +kernel
theorem d_AckBookLaw_law_113 : decode c_AckBookLaw_law 113 = .ok (.aload_n 0, 1) := by decide +kernel
theorem d_AckBookLaw_law_114 : decode c_AckBookLaw_law 114 = .ok (.iload 4, 2) := by decide +kernel
theorem d_AckBookLaw_law_116 : decode c_AckBookLaw_law 116 = .ok (.iconst (1), 1) := by decide +kernel
theorem d_AckBookLaw_law_117 : decode c_AckBookLaw_law 117 = .ok (.iadd, 1) := by decide +kernel
theorem d_AckBookLaw_law_118 : decode c_AckBookLaw_law 118 = .ok (.iaload, 1) := by decide +kernel
theorem d_AckBookLaw_law_119 : decode c_AckBookLaw_law 119 = .ok (.aload_n 0, 1) := by decide +kernel
