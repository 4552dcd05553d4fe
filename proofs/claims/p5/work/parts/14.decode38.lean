theorem d_AckBookLaw_law_602 : decode c_AckBookLaw_law 602 = .ok (.aload_n 0, 1) := by decide +kernel
theorem d_AckBookLaw_law_603 : decode c_AckBookLaw_law 603 = .ok (.iload 4, 2) := by decide +kernel
theorem d_AckBookLaw_law_605 : decode c_AckBookLaw_law 605 = .ok (.iconst (3), 1) := by decide +kernel
theorem d_AckBookLaw_law_606 : decode c_AckBookLaw_law 606 = .ok (.iadd, 1) := by decide +kernel
theorem d_AckBookLaw_law_607 : decode c_AckBookLaw_law 607 = .ok (.iaload, 1) := by decide +kernel
theorem d_AckBookLaw_law_608 : decode c_AckBookLaw_law 608 = .ok (.i2l, 1) := by decide +kernel
theorem d_AckBookLaw_law_609 : decode c_AckBookLaw_law 609 = .ok (.ldc2_w 71, 3) := by decide +kernel
theorem d_AckBookLaw_law_612 : decode c_AckBookLaw_law 612 = .ok (.land, 1) := by decide +kernel
theorem d_AckBookLaw_law_613 : decode c_AckBookLaw_law 613 = .ok (.lor, 1) := by decide +kernel
theorem d_AckBookLaw_law_614 : decode c_AckBookLaw_law 614 = .ok (.aload_n 0, 1) := by decide +kernel
theorem d_AckBookLaw_law_615 : decode c_AckBookLaw_law 615 = .ok (.iload 4, 2) := by decide +kernel
theorem d_AckBookLaw_law_617 : decode c_AckBookLaw_law 617 = .ok (.iconst (4), 1) := by decide +kernel
theorem d_AckBookLaw_law_618 : decode c_AckBookLaw_law 618 = .ok (.iadd, 1) := by decide +kernel
theorem d_AckBookLaw_law_619 : decode c_AckBookLaw_law 619 = .ok (.iaload, 1) := by decide +kernel
theorem d_AckBookLaw_law_620 : decode c_AckBookLaw_law 620 = .ok (.ifCond .eq (7), 3) := by decide +kernel
theorem d_AckBookLaw_law_627 : decode c_AckBookLaw_law 627 = .ok (.iconst (0), 1) := by decide +kernel
theorem d_AckBookLaw_law_623 : decode c_AckBookLaw_law 623 = .ok (.iconst (1), 1) := by decide +kernel
theorem d_AckBookLaw_law_624 : decode c_AckBookLaw_law 624 = .ok (.goto (4), 3) := by decide +kernel
theorem d_AckBookLaw_law_488 : decode c_AckBookLaw_law 488 = .ok (.invokevirtual 102, 3) := by decide +kernel
theorem d_AckBookLaw_law_491 : decode c_AckBookLaw_law 491 = .ok (.istore 6, 2) := by decide +kernel
theorem d_AckBookLaw_law_493 : decode c_AckBookLaw_law 493 = .ok (.goto (335), 3) := by decide +kernel
theorem d_AckBookLaw_law_461 : decode c_AckBookLaw_law 461 = .ok (.aload_n 3, 1) := by decide +kernel
theorem d_AckBookLaw_law_462 : decode c_AckBookLaw_law 462 = .ok (.invokestatic 99, 3) := by decide +kernel
theorem d_AckBookLaw_law_465 : decode c_AckBookLaw_law 465 = .ok (.istore 5, 2) := by decide +kernel
theorem d_AckBookLaw_law_467 : decode c_AckBookLaw_law 467 = .ok (.aload_n 2, 1) := by decide +kernel
theorem d_AckBookLaw_law_468 : decode c_AckBookLaw_law 468 = .ok (.aload_n 0, 1) := by decide +kernel
theorem d_AckBookLaw_law_469 : decode c_AckBookLaw_law 469 = .ok (.iload 4, 2) := by decide +kernel
theorem d_AckBookLaw_law_471 : decode c_AckBookLaw_law 471 = .ok (.iconst (1), 1) := by decide +kernel
theorem d_AckBookLaw_law_472 : decode c_AckBookLaw_law 472 = .ok (.iadd, 1) := by decide +kernel
theorem d_AckBookLaw_law_473 : decode c_AckBookLaw_law 473 = .ok (.iaload, 1) := by decide +kernel
theorem d_AckBookLaw_law_474 : decode c_AckBookLaw_law 474 = .ok (.aload_n 0, 1) := by decide +kernel
theorem d_AckBookLaw_law_475 : decode c_AckBookLaw_law 475 = .ok (.iload 4, 2) := by decide +kernel
theorem d_AckBookLaw_law_477 : decode c_AckBookLaw_law 477 = .ok (.iconst (2), 1) := by decide +kernel
theorem d_AckBookLaw_law_478 : decode c_AckBookLaw_law 478 = .ok (.iadd, 1) := by decide +kernel
theorem d_AckBookLaw_law_479 : decode c_AckBookLaw_law 479 = .ok (.iaload, 1) := by decide +kernel
theorem d_AckBookLaw_law_480 : decode c_AckBookLaw_law 480 = .ok (.ifCond .eq (7), 3) := by decide +kernel
theorem d_AckBookLaw_law_487 : decode c_AckBookLaw_law 487 = .ok (.iconst (0), 1) := by decide +kernel
theorem d_AckBookLaw_law_483 : decode c_AckBookLaw_law 483 = .ok (.iconst (1), 1) := by decide +kernel
theorem d_AckBookLaw_law_484 : decode c_AckBookLaw_law 484 = .ok (.goto (4), 3) := by decide +kernel
theorem d_AckBookLaw_law_434 : decode c_AckBookLaw_law 434 = .ok (.invokevirtual 98, 3) := by decide +kernel
theorem d_AckBookLaw_law_437 : decode c_AckBookLaw_law 437 = .ok (.goto (391), 3) := by decide +kernel
theorem d_AckBookLaw_law_416 : decode c_AckBookLaw_law 416 = .ok (.invokevirtual 94, 3) := by decide +kernel
theorem d_AckBookLaw_law_419 : decode c_AckBookLaw_law 419 = .ok (.aload_n 2, 1) := by decide +kernel
theorem d_AckBookLaw_law_420 : decode c_AckBookLaw_law 420 = .ok (.aload_n 0, 1) := by decide +kernel
theorem d_AckBookLaw_law_421 : decode c_AckBookLaw_law 421 = .ok (.iload 4, 2) := by decide +kernel
theorem d_AckBookLaw_law_423 : decode c_AckBookLaw_law 423 = .ok (.iconst (1), 1) := by decide +kernel
theorem d_AckBookLaw_law_424 : decode c_AckBookLaw_law 424 = .ok (.iadd, 1) := by decide +kernel
theorem d_AckBookLaw_law_425 : decode c_AckBookLaw_law 425 = .ok (.iaload, 1) := by decide +kernel
theorem d_AckBookLaw_law_426 : decode c_AckBookLaw_law 426 = .ok (.ifCond .eq (7), 3) := by decide +kernel
theorem d_AckBookLaw_law_433 : decode c_AckBookLaw_law 433 = .ok (.iconst (0), 1) := by decide +kernel
theorem d_AckBookLaw_law_429 : decode c_AckBookLaw_law 429 = .ok (.iconst (1), 1) := by decide +kernel
theorem d_AckBookLaw_law_430 : decode c_AckBookLaw_law 430 = .ok (.goto (4), 3) := by decide +kernel
theorem d_AckBookLaw_law_200 : decode c_AckBookLaw_law 200 = .ok (.invokevirtual 70, 3) := by decide +kernel
theorem d_AckBookLaw_law_203 : decode c_AckBookLaw_law 203 = .ok (.istore 6, 2) := by decide +kernel
theorem d_AckBookLaw_law_205 : decode c_AckBookLaw_law 205 = .ok (.goto (623), 3) := by decide +kernel
theorem d_AckBookLaw_law_186 : decode c_AckBookLaw_law 186 = .ok (.aload_n 0, 1) := by decide +kernel
theorem d_AckBookLaw_law_187 : decode c_AckBookLaw_law 187 = .ok (.iload 4, 2) := by decide +kernel
theorem d_AckBookLaw_law_189 : decode c_AckBookLaw_law 189 = .ok (.iconst (4), 1) := by decide +kernel
theorem d_AckBookLaw_law_190 : decode c_AckBookLaw_law 190 = .ok (.iadd, 1) := by decide +kernel
theorem d_AckBookLaw_law_191 : decode c_AckBookLaw_law 191 = .ok (.iaload, 1) := by decide +kernel
theorem d_AckBookLaw_law_192 : decode c_AckBookLaw_law 192 = .ok (.ifCond .eq (7), 3) := by decide +kernel
theorem d_AckBookLaw_law_199 : decode c_AckBookLaw_law 199 = .ok (.iconst (0), 1) := by decide +kernel
theorem d_AckBookLaw_law_195 : decode c_AckBookLaw_law 195 = .ok (.iconst (1), 1) := by decide +kernel
theorem d_AckBookLaw_law_196 : decode c_AckBookLaw_law 196 = .ok (.goto (4), 3) := by decide +kernel
theorem d_AckBookLaw_law_153 : decode c_AckBookLaw_law 153 = .ok (.aload_n 3, 1) := by decide +kernel
theorem d_AckBookLaw_law_154 : decode c_AckBookLaw_law 154 = .ok (.invokestatic 65, 3) := by decide +kernel
theorem d_AckBookLaw_law_157 : decode c_AckBookLaw_law 157 = .ok (.istore 5, 2) := by decide +kernel
theorem d_AckBookLaw_law_159 : decode c_AckBookLaw_law 159 = .ok (.aload_n 2, 1) := by decide +kernel
theorem d_AckBookLaw_law_160 : decode c_AckBookLaw_law 160 = .ok (.aload_n 0, 1) := by decide +kernel
theorem d_AckBookLaw_law_161 : decode c_AckBookLaw_law 161 = .ok (.iload 4, 2) := by decide +kernel
theorem d_AckBookLaw_law_163 : decode c_AckBookLaw_law 163 = .ok (.iconst (1), 1) := by decide +kernel
theorem d_AckBookLaw_law_164 : decode c_AckBookLaw_law 164 = .ok (.iadd, 1) := by decide +kernel
theorem d_AckBookLaw_law_165 : decode c_AckBookLaw_law 165 = .ok (.iaload, 1) := by decide +kernel
theorem d_AckBookLaw_law_166 : decode c_AckBookLaw_law 166 = .ok (.aload_n 0, 1) := by decide +kernel
theorem d_AckBookLaw_law_167 : decode c_AckBookLaw_law 167 = .ok (.iload 4, 2) := by decide +kernel
theorem d_AckBookLaw_law_169 : decode c_AckBookLaw_law 169 = .ok (.iconst (2), 1) := by decide +kernel
theorem d_AckBookLaw_law_170 : decode c_AckBookLaw_law 170 = .ok (.iadd, 1) := by decide +kernel
theorem d_AckBookLaw_law_171 : decode c_AckBookLaw_law 171 = .ok (.iaload, 1) := by decide +kernel
theorem d_AckBookLaw_law_172 : decode c_AckBookLaw_law 172 = .ok (.aload_n 0, 1) := by decide +kernel
theorem d_AckBookLaw_law_173 : decode c_AckBookLaw_law 173 = .ok (.iload 4, 2) := by decide +kernel
theorem d_AckBookLaw_law_175 : decode c_AckBookLaw_law 175 = .ok (.iconst (3), 1) := by decide +kernel
theorem d_AckBookLaw_law_176 : decode c_AckBookLaw_law 176 = .ok (.iadd, 1) := by decide +kernel
theorem d_AckBookLaw_law_177 : decode c_AckBookLaw_law 177 = .ok (.iaload, 1) := by decide +kernel
theorem d_AckBookLaw_law_178 : decode c_AckBookLaw_law 178 = .ok (.ifCond .eq (7), 3) := by decide +kernel
theorem d_AckBookLaw_law_185 : decode c_AckBookLaw_law 185 = .ok (.iconst (0), 1) := by decide +kernel
theorem d_AckBookLaw_law_181 : decode c_AckBookLaw_law 181 = .ok (.iconst (1), 1) := by decide +kernel
theorem d_AckBookLaw_law_182 : decode c_AckBookLaw_law 182 = .ok (.goto (4), 3) := by decide +kernel
theorem d_AckBookLaw_law_139 : decode c_AckBookLaw_law 139 = .ok (.aload_n 0, 1) := by decide +kernel
theorem d_AckBookLaw_law_140 : decode c_AckBookLaw_law 140 = .ok (.iload 4, 2) := by decide +kernel
theorem d_AckBookLaw_law_142 : decode c_AckBookLaw_law 142 = .ok (.iconst (4), 1) := by decide +kernel
theorem d_AckBookLaw_law_143 : decode c_AckBookLaw_law 143 = .ok (.iadd, 1) := by decide +kernel
theorem d_AckBookLaw_law_144 : decode c_AckBookLaw_law 144 = .ok (.iaload, 1) := by decide +kernel
theorem d_AckBookLaw_law_145 : decode c_AckBookLaw_law 145 = .ok (.ifCond .eq (7), 3) := by decide +kernel
theorem d_AckBookLaw_law_152 : decode c_AckBookLaw_law 152 = .ok (.iconst (0), 1) := by decide +kernel
theorem d_AckBookLaw_law_148 : decode c_AckBookLaw_law 148 = .ok (.iconst (1), 1) := by decide +kernel
theorem d_AckBookLaw_law_149 : decode c_AckBookLaw_law 149 = .ok (.goto (4), 3) := by decide +kernel
theorem d_AckBookLaw_law_23 : decode c_AckBookLaw_law 23 = .ok (.iload 4, 2) := by decide +kernel
theorem d_AckBookLaw_law_25 : decode c_AckBookLaw_law 25 = .ok (.aload_n 0, 1) := by decide +kernel
theorem d_AckBookLaw_law_26 : decode c_AckBookLaw_law 26 = .ok (.arraylength, 1) := by decide +kernel
theorem d_AckBookLaw_law_27 : decode c_AckBookLaw_law 27 = .ok (.iconst (5), 1) := by decide +kernel
theorem d_AckBookLaw_law_28 : decode c_AckBookLaw_law 28 = .ok (.isub, 1) := by decide +kernel
theorem d_AckBookLaw_law_29 : decode c_AckBookLaw_law 29 = .ok (.if_icmp .gt (805), 3) := by decide +kernel
theorem d_AckBookLaw_law_834 : decode c_AckBookLaw_law 834 = .ok (.iconst (1), 1) := by decide +kernel
theorem d_AckBookLaw_law_835 : decode c_AckBookLaw_law 835 = .ok (.ireturn, 1) := by decide +kernel
theorem d_AckBookLaw_law_32 : decode c_AckBookLaw_law 32 = .ok (.aload_n 0, 1) := by decide +kernel
theorem d_AckBookLaw_law_33 : decode c_AckBookLaw_law 33 = .ok (.iload 4, 2) := by decide +kernel
theorem d_AckBookLaw_law_35 : decode c_AckBookLaw_law 35 = .ok (.iaload, 1) := by decide +kernel
theorem d_AckBookLaw_law_36 : decode c_AckBookLaw_law 36 = .ok (.bipush (15), 2) := by decide +kernel
theorem d_AckBookLaw_law_38 : decode c_AckBookLaw_law 38 = .ok (.iand, 1) := by decide +kernel
theorem d_AckBookLaw_law_39 : decode c_AckBookLaw_law 39 = .ok (.tableswitch (789) (0) (14) #[73, 169, 273, 313, 326, 351, 362, 401, 457, 497, 597, 625, 653, 721, 749], 73) := by decide +kernel
theorem d_AckBookLaw_law_112 : decode c_AckBookLaw_law 112 = .ok (.aload_n 1, 1) := by decide +kernel
theorem d_AckBookLaw_law_113 : decode c_AckBookLaw_law 113 = .ok (.aload_n 0, 1) := by decide +kernel
theorem d_AckBookLaw_law_114 : decode c_AckBookLaw_law 114 = .ok (.iload 4, 2) := by decide +kernel
theorem d_AckBookLaw_law_116 : decode c_AckBookLaw_law 116 = .ok (.iconst (1), 1) := by decide +kernel
theorem d_AckBookLaw_law_117 : decode c_AckBookLaw_law 117 = .ok (.iadd, 1) := by decide +kernel
theorem d_AckBookLaw_law_118 : decode c_AckBookLaw_law 118 = .ok (.iaload, 1) := by decide +kernel
theorem d_AckBookLaw_law_119 : decode c_AckBookLaw_law 119 = .ok (.aload_n 0, 1) := by decide +kernel
theorem d_AckBookLaw_law_120 : decode c_AckBookLaw_law 120 = .ok (.iload 4, 2) := by decide +kernel
theorem d_AckBookLaw_law_122 : decode c_AckBookLaw_law 122 = .ok (.iconst (2), 1) := by decide +kernel
theorem d_AckBookLaw_law_123 : decode c_AckBookLaw_law 123 = .ok (.iadd, 1) := by decide +kernel
