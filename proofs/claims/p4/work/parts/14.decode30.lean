theorem d_AckBookModel_tick_127 : decode c_AckBookModel_tick 127 = .ok (.iload_n 3, 1) := by decide +kernel
theorem d_AckBookModel_tick_128 : decode c_AckBookModel_tick 128 = .ok (.istore_n 1, 1) := by decide +kernel
theorem d_AckBookModel_tick_129 : decode c_AckBookModel_tick 129 = .ok (.iload 4, 2) := by decide +kernel
theorem d_AckBookModel_tick_131 : decode c_AckBookModel_tick 131 = .ok (.istore_n 2, 1) := by decide +kernel
theorem d_AckBookModel_tick_132 : decode c_AckBookModel_tick 132 = .ok (.iinc 3 (1), 3) := by decide +kernel
theorem d_AckBookModel_tick_135 : decode c_AckBookModel_tick 135 = .ok (.goto (-47), 3) := by decide +kernel
theorem d_AckBookModel_tick_19 : decode c_AckBookModel_tick 19 = .ok (.iload_n 2, 1) := by decide +kernel
theorem d_AckBookModel_tick_20 : decode c_AckBookModel_tick 20 = .ok (.iconst (3), 1) := by decide +kernel
theorem d_AckBookModel_tick_21 : decode c_AckBookModel_tick 21 = .ok (.if_icmp .ge (52), 3) := by decide +kernel
theorem d_AckBookModel_tick_73 : decode c_AckBookModel_tick 73 = .ok (.iload_n 1, 1) := by decide +kernel
theorem d_AckBookModel_tick_74 : decode c_AckBookModel_tick 74 = .ok (.ifCond .lt (10), 3) := by decide +kernel
theorem d_AckBookModel_tick_84 : decode c_AckBookModel_tick 84 = .ok (.iconst (0), 1) := by decide +kernel
theorem d_AckBookModel_tick_85 : decode c_AckBookModel_tick 85 = .ok (.istore_n 2, 1) := by decide +kernel
theorem d_AckBookModel_tick_86 : decode c_AckBookModel_tick 86 = .ok (.iconst (0), 1) := by decide +kernel
theorem d_AckBookModel_tick_87 : decode c_AckBookModel_tick 87 = .ok (.istore_n 3, 1) := by decide +kernel
theorem d_AckBookModel_tick_77 : decode c_AckBookModel_tick 77 = .ok (.aload_n 0, 1) := by decide +kernel
theorem d_AckBookModel_tick_78 : decode c_AckBookModel_tick 78 = .ok (.iload_n 1, 1) := by decide +kernel
theorem d_AckBookModel_tick_79 : decode c_AckBookModel_tick 79 = .ok (.invokevirtual 179, 3) := by decide +kernel
theorem d_AckBookModel_tick_82 : decode c_AckBookModel_tick 82 = .ok (.iconst (1), 1) := by decide +kernel
theorem d_AckBookModel_tick_83 : decode c_AckBookModel_tick 83 = .ok (.ireturn, 1) := by decide +kernel
theorem d_AckBookModel_tick_24 : decode c_AckBookModel_tick 24 = .ok (.aload_n 0, 1) := by decide +kernel
theorem d_AckBookModel_tick_25 : decode c_AckBookModel_tick 25 = .ok (.getfield 38, 3) := by decide +kernel
theorem d_AckBookModel_tick_28 : decode c_AckBookModel_tick 28 = .ok (.iload_n 2, 1) := by decide +kernel
theorem d_AckBookModel_tick_29 : decode c_AckBookModel_tick 29 = .ok (.iaload, 1) := by decide +kernel
theorem d_AckBookModel_tick_30 : decode c_AckBookModel_tick 30 = .ok (.ifCond .lt (37), 3) := by decide +kernel
theorem d_AckBookModel_tick_67 : decode c_AckBookModel_tick 67 = .ok (.iinc 2 (1), 3) := by decide +kernel
theorem d_AckBookModel_tick_70 : decode c_AckBookModel_tick 70 = .ok (.goto (-51), 3) := by decide +kernel
theorem d_AckBookModel_tick_33 : decode c_AckBookModel_tick 33 = .ok (.aload_n 0, 1) := by decide +kernel
theorem d_AckBookModel_tick_34 : decode c_AckBookModel_tick 34 = .ok (.getfield 38, 3) := by decide +kernel
theorem d_AckBookModel_tick_37 : decode c_AckBookModel_tick 37 = .ok (.iload_n 2, 1) := by decide +kernel
theorem d_AckBookModel_tick_38 : decode c_AckBookModel_tick 38 = .ok (.iaload, 1) := by decide +kernel
theorem d_AckBookModel_tick_39 : decode c_AckBookModel_tick 39 = .ok (.aload_n 0, 1) := by decide +kernel
theorem d_AckBookModel_tick_40 : decode c_AckBookModel_tick 40 = .ok (.getfield 150, 3) := by decide +kernel
theorem d_AckBookModel_tick_43 : decode c_AckBookModel_tick 43 = .ok (.if_icmp .gt (24), 3) := by decide +kernel
theorem d_AckBookModel_tick_46 : decode c_AckBookModel_tick 46 = .ok (.iload_n 1, 1) := by decide +kernel
theorem d_AckBookModel_tick_47 : decode c_AckBookModel_tick 47 = .ok (.ifCond .lt (18), 3) := by decide +kernel
theorem d_AckBookModel_tick_65 : decode c_AckBookModel_tick 65 = .ok (.iload_n 2, 1) := by decide +kernel
theorem d_AckBookModel_tick_66 : decode c_AckBookModel_tick 66 = .ok (.istore_n 1, 1) := by decide +kernel
theorem d_AckBookModel_tick_50 : decode c_AckBookModel_tick 50 = .ok (.aload_n 0, 1) := by decide +kernel
theorem d_AckBookModel_tick_51 : decode c_AckBookModel_tick 51 = .ok (.getfield 38, 3) := by decide +kernel
theorem d_AckBookModel_tick_54 : decode c_AckBookModel_tick 54 = .ok (.iload_n 2, 1) := by decide +kernel
theorem d_AckBookModel_tick_55 : decode c_AckBookModel_tick 55 = .ok (.iaload, 1) := by decide +kernel
theorem d_AckBookModel_tick_56 : decode c_AckBookModel_tick 56 = .ok (.aload_n 0, 1) := by decide +kernel
theorem d_AckBookModel_tick_57 : decode c_AckBookModel_tick 57 = .ok (.getfield 38, 3) := by decide +kernel
theorem d_AckBookModel_tick_60 : decode c_AckBookModel_tick 60 = .ok (.iload_n 1, 1) := by decide +kernel
theorem d_AckBookModel_tick_61 : decode c_AckBookModel_tick 61 = .ok (.iaload, 1) := by decide +kernel
theorem d_AckBookModel_tick_62 : decode c_AckBookModel_tick 62 = .ok (.if_icmp .ge (5), 3) := by decide +kernel
theorem d_AckBookModel_tick_88 : decode c_AckBookModel_tick 88 = .ok (.iload_n 3, 1) := by decide +kernel
theorem d_AckBookModel_tick_89 : decode c_AckBookModel_tick 89 = .ok (.iconst (3), 1) := by decide +kernel
theorem d_AckBookModel_tick_90 : decode c_AckBookModel_tick 90 = .ok (.if_icmp .ge (48), 3) := by decide +kernel
theorem d_AckBookModel_tick_138 : decode c_AckBookModel_tick 138 = .ok (.iload_n 1, 1) := by decide +kernel
theorem d_AckBookModel_tick_139 : decode c_AckBookModel_tick 139 = .ok (.ifCond .ge (5), 3) := by decide +kernel
theorem d_AckBookModel_tick_144 : decode c_AckBookModel_tick 144 = .ok (.aload_n 0, 1) := by decide +kernel
theorem d_AckBookModel_tick_145 : decode c_AckBookModel_tick 145 = .ok (.aload_n 0, 1) := by decide +kernel
theorem d_AckBookModel_tick_146 : decode c_AckBookModel_tick 146 = .ok (.getfield 129, 3) := by decide +kernel
theorem d_AckBookModel_tick_149 : decode c_AckBookModel_tick 149 = .ok (.bipush (10), 2) := by decide +kernel
theorem d_AckBookModel_tick_151 : decode c_AckBookModel_tick 151 = .ok (.if_icmp .ge (12), 3) := by decide +kernel
theorem d_AckBookModel_tick_163 : decode c_AckBookModel_tick 163 = .ok (.bipush (10), 2) := by decide +kernel
theorem d_AckBookModel_tick_165 : decode c_AckBookModel_tick 165 = .ok (.putfield 129, 3) := by decide +kernel
theorem d_AckBookModel_tick_168 : decode c_AckBookModel_tick 168 = .ok (.iconst (2), 1) := by decide +kernel
theorem d_AckBookModel_tick_169 : decode c_AckBookModel_tick 169 = .ok (.iload_n 1, 1) := by decide +kernel
theorem d_AckBookModel_tick_170 : decode c_AckBookModel_tick 170 = .ok (.iadd, 1) := by decide +kernel
theorem d_AckBookModel_tick_171 : decode c_AckBookModel_tick 171 = .ok (.ireturn, 1) := by decide +kernel
theorem d_AckBookModel_tick_154 : decode c_AckBookModel_tick 154 = .ok (.aload_n 0, 1) := by decide +kernel
theorem d_AckBookModel_tick_155 : decode c_AckBookModel_tick 155 = .ok (.getfield 129, 3) := by decide +kernel
theorem d_AckBookModel_tick_158 : decode c_AckBookModel_tick 158 = .ok (.iconst (1), 1) := by decide +kernel
theorem d_AckBookModel_tick_159 : decode c_AckBookModel_tick 159 = .ok (.iadd, 1) := by decide +kernel
theorem d_AckBookModel_tick_160 : decode c_AckBookModel_tick 160 = .ok (.goto (5), 3) := by decide +kernel
theorem d_AckBookModel_tick_142 : decode c_AckBookModel_tick 142 = .ok (.iconst (0), 1) := by decide +kernel
theorem d_AckBookModel_tick_143 : decode c_AckBookModel_tick 143 = .ok (.ireturn, 1) := by decide +kernel
theorem d_AckBookModel_tick_93 : decode c_AckBookModel_tick 93 = .ok (.aload_n 0, 1) := by decide +kernel
theorem d_AckBookModel_tick_94 : decode c_AckBookModel_tick 94 = .ok (.iload_n 3, 1) := by decide +kernel
theorem d_AckBookModel_tick_95 : decode c_AckBookModel_tick 95 = .ok (.invokevirtual 192, 3) := by decide +kernel
theorem d_AckBookModel_tick_98 : decode c_AckBookModel_tick 98 = .ok (.istore 4, 2) := by decide +kernel
theorem d_AckBookModel_tick_100 : decode c_AckBookModel_tick 100 = .ok (.iload 4, 2) := by decide +kernel
theorem d_AckBookModel_tick_102 : decode c_AckBookModel_tick 102 = .ok (.ifCond .lt (30), 3) := by decide +kernel
theorem d_AckBookModel_tick_105 : decode c_AckBookModel_tick 105 = .ok (.iload 4, 2) := by decide +kernel
theorem d_AckBookModel_tick_107 : decode c_AckBookModel_tick 107 = .ok (.aload_n 0, 1) := by decide +kernel
theorem d_AckBookModel_tick_108 : decode c_AckBookModel_tick 108 = .ok (.getfield 150, 3) := by decide +kernel
theorem d_AckBookModel_tick_111 : decode c_AckBookModel_tick 111 = .ok (.if_icmp .gt (21), 3) := by decide +kernel
theorem d_AckBookModel_tick_114 : decode c_AckBookModel_tick 114 = .ok (.iload_n 1, 1) := by decide +kernel
theorem d_AckBookModel_tick_115 : decode c_AckBookModel_tick 115 = .ok (.ifCond .lt (12), 3) := by decide +kernel
theorem d_AckBookModel_tick_118 : decode c_AckBookModel_tick 118 = .ok (.iload 4, 2) := by decide +kernel
theorem d_AckBookModel_tick_120 : decode c_AckBookModel_tick 120 = .ok (.iload_n 2, 1) := by decide +kernel
theorem d_AckBookModel_tick_121 : decode c_AckBookModel_tick 121 = .ok (.if_icmp .lt (6), 3) := by decide +kernel
theorem d_AckBookModel_tick_124 : decode c_AckBookModel_tick 124 = .ok (.goto (8), 3) := by decide +kernel
theorem d_AckBookModel_tick_0 : decode c_AckBookModel_tick 0 = .ok (.aload_n 0, 1) := by decide +kernel
theorem d_AckBookModel_tick_1 : decode c_AckBookModel_tick 1 = .ok (.iconst (0), 1) := by decide +kernel
theorem d_AckBookModel_tick_2 : decode c_AckBookModel_tick 2 = .ok (.putfield 103, 3) := by decide +kernel
theorem d_AckBookModel_tick_5 : decode c_AckBookModel_tick 5 = .ok (.aload_n 0, 1) := by decide +kernel
theorem d_AckBookModel_tick_6 : decode c_AckBookModel_tick 6 = .ok (.dup, 1) := by decide +kernel
theorem d_AckBookModel_tick_7 : decode c_AckBookModel_tick 7 = .ok (.getfield 150, 3) := by decide +kernel
theorem d_AckBookModel_tick_10 : decode c_AckBookModel_tick 10 = .ok (.iconst (1), 1) := by decide +kernel
theorem d_AckBookModel_tick_11 : decode c_AckBookModel_tick 11 = .ok (.iadd, 1) := by decide +kernel
theorem d_AckBookModel_tick_12 : decode c_AckBookModel_tick 12 = .ok (.putfield 150, 3) := by decide +kernel
theorem d_AckBookModel_tick_15 : decode c_AckBookModel_tick 15 = .ok (.iconst (-1), 1) := by decide +kernel
theorem d_AckBookModel_tick_16 : decode c_AckBookModel_tick 16 = .ok (.istore_n 1, 1) := by decide +kernel
theorem d_AckBookModel_tick_17 : decode c_AckBookModel_tick 17 = .ok (.iconst (0), 1) := by decide +kernel
theorem d_AckBookModel_tick_18 : decode c_AckBookModel_tick 18 = .ok (.istore_n 2, 1) := by decide +kernel
theorem d_AckBookModel_discard_0 : decode c_AckBookModel_discard 0 = .ok (.aload_n 0, 1) := by decide +kernel
theorem d_AckBookModel_discard_1 : decode c_AckBookModel_discard 1 = .ok (.iload_n 1, 1) := by decide +kernel
theorem d_AckBookModel_discard_2 : decode c_AckBookModel_discard 2 = .ok (.invokestatic 142, 3) := by decide +kernel
theorem d_AckBookModel_discard_5 : decode c_AckBookModel_discard 5 = .ok (.iconst (1), 1) := by decide +kernel
theorem d_AckBookModel_discard_6 : decode c_AckBookModel_discard 6 = .ok (.invokevirtual 146, 3) := by decide +kernel
theorem d_AckBookModel_discard_9 : decode c_AckBookModel_discard 9 = .ok (.ifCond .ne (17), 3) := by decide +kernel
theorem d_AckBookModel_discard_12 : decode c_AckBookModel_discard 12 = .ok (.aload_n 0, 1) := by decide +kernel
theorem d_AckBookModel_discard_13 : decode c_AckBookModel_discard 13 = .ok (.aload_n 0, 1) := by decide +kernel
theorem d_AckBookModel_discard_14 : decode c_AckBookModel_discard 14 = .ok (.getfield 32, 3) := by decide +kernel
theorem d_AckBookModel_discard_17 : decode c_AckBookModel_discard 17 = .ok (.iload_n 1, 1) := by decide +kernel
theorem d_AckBookModel_discard_18 : decode c_AckBookModel_discard 18 = .ok (.baload, 1) := by decide +kernel
theorem d_AckBookModel_discard_19 : decode c_AckBookModel_discard 19 = .ok (.iconst (2), 1) := by decide +kernel
theorem d_AckBookModel_discard_20 : decode c_AckBookModel_discard 20 = .ok (.invokevirtual 146, 3) := by decide +kernel
theorem d_AckBookModel_discard_23 : decode c_AckBookModel_discard 23 = .ok (.ifCond .eq (4), 3) := by decide +kernel
theorem d_AckBookModel_discard_27 : decode c_AckBookModel_discard 27 = .ok (.aload_n 0, 1) := by decide +kernel
theorem d_AckBookModel_discard_28 : decode c_AckBookModel_discard 28 = .ok (.getfield 32, 3) := by decide +kernel
theorem d_AckBookModel_discard_31 : decode c_AckBookModel_discard 31 = .ok (.iload_n 1, 1) := by decide +kernel
theorem d_AckBookModel_discard_32 : decode c_AckBookModel_discard 32 = .ok (.iconst (1), 1) := by decide +kernel
theorem d_AckBookModel_discard_33 : decode c_AckBookModel_discard 33 = .ok (.bastore, 1) := by decide +kernel
theorem d_AckBookModel_discard_34 : decode c_AckBookModel_discard 34 = .ok (.aload_n 0, 1) := by decide +kernel
theorem d_AckBookModel_discard_35 : decode c_AckBookModel_discard 35 = .ok (.getfield 38, 3) := by decide +kernel
