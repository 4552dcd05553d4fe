theorem d_AckBook_Arrivals_insert_26 : decode c_AckBook_Arrivals_insert 26 = .ok (.laload, 1) := by decide +kernel
theorem d_AckBook_Arrivals_insert_27 : decode c_AckBook_Arrivals_insert 27 = .ok (.lastore, 1) := by decide +kernel
theorem d_AckBook_Arrivals_insert_28 : decode c_AckBook_Arrivals_insert 28 = .ok (.aload_n 0, 1) := by decide +kernel
theorem d_AckBook_Arrivals_insert_29 : decode c_AckBook_Arrivals_insert 29 = .ok (.getfield 15, 3) := by decide +kernel
theorem d_AckBook_Arrivals_insert_32 : decode c_AckBook_Arrivals_insert 32 = .ok (.iload 4, 2) := by decide +kernel
theorem d_AckBook_Arrivals_insert_34 : decode c_AckBook_Arrivals_insert 34 = .ok (.aload_n 0, 1) := by decide +kernel
theorem d_AckBook_Arrivals_insert_35 : decode c_AckBook_Arrivals_insert 35 = .ok (.getfield 15, 3) := by decide +kernel
theorem d_AckBook_Arrivals_insert_38 : decode c_AckBook_Arrivals_insert 38 = .ok (.iload 4, 2) := by decide +kernel
theorem d_AckBook_Arrivals_insert_40 : decode c_AckBook_Arrivals_insert 40 = .ok (.iconst (1), 1) := by decide +kernel
theorem d_AckBook_Arrivals_insert_41 : decode c_AckBook_Arrivals_insert 41 = .ok (.isub, 1) := by decide +kernel
theorem d_AckBook_Arrivals_insert_42 : decode c_AckBook_Arrivals_insert 42 = .ok (.laload, 1) := by decide +kernel
theorem d_AckBook_Arrivals_insert_43 : decode c_AckBook_Arrivals_insert 43 = .ok (.lastore, 1) := by decide +kernel
theorem d_AckBook_Arrivals_insert_44 : decode c_AckBook_Arrivals_insert 44 = .ok (.iinc 4 (-1), 3) := by decide +kernel
theorem d_AckBook_Arrivals_insert_47 : decode c_AckBook_Arrivals_insert 47 = .ok (.goto (-41), 3) := by decide +kernel
theorem d_AckBook_Arrivals_insert_0 : decode c_AckBook_Arrivals_insert 0 = .ok (.aload_n 0, 1) := by decide +kernel
theorem d_AckBook_Arrivals_insert_1 : decode c_AckBook_Arrivals_insert 1 = .ok (.getfield 26, 3) := by decide +kernel
theorem d_AckBook_Arrivals_insert_4 : decode c_AckBook_Arrivals_insert 4 = .ok (.istore 4, 2) := by decide +kernel
theorem d_AckBook_Arrivals_keep_86 : decode c_AckBook_Arrivals_keep 86 = .ok (.iload 4, 2) := by decide +kernel
theorem d_AckBook_Arrivals_keep_88 : decode c_AckBook_Arrivals_keep 88 = .ok (.ifCond .eq (15), 3) := by decide +kernel
theorem d_AckBook_Arrivals_keep_103 : decode c_AckBook_Arrivals_keep 103 = .ok (.iload 5, 2) := by decide +kernel
theorem d_AckBook_Arrivals_keep_105 : decode c_AckBook_Arrivals_keep 105 = .ok (.ifCond .eq (13), 3) := by decide +kernel
theorem d_AckBook_Arrivals_keep_118 : decode c_AckBook_Arrivals_keep 118 = .ok (.aload_n 0, 1) := by decide +kernel
theorem d_AckBook_Arrivals_keep_119 : decode c_AckBook_Arrivals_keep 119 = .ok (.lload_n 1, 1) := by decide +kernel
theorem d_AckBook_Arrivals_keep_120 : decode c_AckBook_Arrivals_keep 120 = .ok (.iload_n 3, 1) := by decide +kernel
theorem d_AckBook_Arrivals_keep_121 : decode c_AckBook_Arrivals_keep 121 = .ok (.invokevirtual 47, 3) := by decide +kernel
theorem d_AckBook_Arrivals_keep_124 : decode c_AckBook_Arrivals_keep 124 = .ok (.return_, 1) := by decide +kernel
theorem d_AckBook_Arrivals_keep_108 : decode c_AckBook_Arrivals_keep 108 = .ok (.aload_n 0, 1) := by decide +kernel
theorem d_AckBook_Arrivals_keep_109 : decode c_AckBook_Arrivals_keep 109 = .ok (.getfield 15, 3) := by decide +kernel
theorem d_AckBook_Arrivals_keep_112 : decode c_AckBook_Arrivals_keep 112 = .ok (.iload_n 3, 1) := by decide +kernel
theorem d_AckBook_Arrivals_keep_113 : decode c_AckBook_Arrivals_keep 113 = .ok (.lload_n 1, 1) := by decide +kernel
theorem d_AckBook_Arrivals_keep_114 : decode c_AckBook_Arrivals_keep 114 = .ok (.lastore, 1) := by decide +kernel
theorem d_AckBook_Arrivals_keep_115 : decode c_AckBook_Arrivals_keep 115 = .ok (.goto (9), 3) := by decide +kernel
theorem d_AckBook_Arrivals_keep_91 : decode c_AckBook_Arrivals_keep 91 = .ok (.aload_n 0, 1) := by decide +kernel
theorem d_AckBook_Arrivals_keep_92 : decode c_AckBook_Arrivals_keep 92 = .ok (.getfield 9, 3) := by decide +kernel
theorem d_AckBook_Arrivals_keep_95 : decode c_AckBook_Arrivals_keep 95 = .ok (.iload_n 3, 1) := by decide +kernel
theorem d_AckBook_Arrivals_keep_96 : decode c_AckBook_Arrivals_keep 96 = .ok (.iconst (1), 1) := by decide +kernel
theorem d_AckBook_Arrivals_keep_97 : decode c_AckBook_Arrivals_keep 97 = .ok (.isub, 1) := by decide +kernel
theorem d_AckBook_Arrivals_keep_98 : decode c_AckBook_Arrivals_keep 98 = .ok (.lload_n 1, 1) := by decide +kernel
theorem d_AckBook_Arrivals_keep_99 : decode c_AckBook_Arrivals_keep 99 = .ok (.lastore, 1) := by decide +kernel
theorem d_AckBook_Arrivals_keep_100 : decode c_AckBook_Arrivals_keep 100 = .ok (.goto (24), 3) := by decide +kernel
theorem d_AckBook_Arrivals_keep_52 : decode c_AckBook_Arrivals_keep 52 = .ok (.istore 5, 2) := by decide +kernel
theorem d_AckBook_Arrivals_keep_54 : decode c_AckBook_Arrivals_keep 54 = .ok (.iload 4, 2) := by decide +kernel
theorem d_AckBook_Arrivals_keep_56 : decode c_AckBook_Arrivals_keep 56 = .ok (.ifCond .eq (30), 3) := by decide +kernel
theorem d_AckBook_Arrivals_keep_59 : decode c_AckBook_Arrivals_keep 59 = .ok (.iload 5, 2) := by decide +kernel
theorem d_AckBook_Arrivals_keep_61 : decode c_AckBook_Arrivals_keep 61 = .ok (.ifCond .eq (25), 3) := by decide +kernel
theorem d_AckBook_Arrivals_keep_64 : decode c_AckBook_Arrivals_keep 64 = .ok (.aload_n 0, 1) := by decide +kernel
theorem d_AckBook_Arrivals_keep_65 : decode c_AckBook_Arrivals_keep 65 = .ok (.getfield 9, 3) := by decide +kernel
theorem d_AckBook_Arrivals_keep_68 : decode c_AckBook_Arrivals_keep 68 = .ok (.iload_n 3, 1) := by decide +kernel
theorem d_AckBook_Arrivals_keep_69 : decode c_AckBook_Arrivals_keep 69 = .ok (.iconst (1), 1) := by decide +kernel
theorem d_AckBook_Arrivals_keep_70 : decode c_AckBook_Arrivals_keep 70 = .ok (.isub, 1) := by decide +kernel
theorem d_AckBook_Arrivals_keep_71 : decode c_AckBook_Arrivals_keep 71 = .ok (.aload_n 0, 1) := by decide +kernel
theorem d_AckBook_Arrivals_keep_72 : decode c_AckBook_Arrivals_keep 72 = .ok (.getfield 9, 3) := by decide +kernel
theorem d_AckBook_Arrivals_keep_75 : decode c_AckBook_Arrivals_keep 75 = .ok (.iload_n 3, 1) := by decide +kernel
theorem d_AckBook_Arrivals_keep_76 : decode c_AckBook_Arrivals_keep 76 = .ok (.laload, 1) := by decide +kernel
theorem d_AckBook_Arrivals_keep_77 : decode c_AckBook_Arrivals_keep 77 = .ok (.lastore, 1) := by decide +kernel
theorem d_AckBook_Arrivals_keep_78 : decode c_AckBook_Arrivals_keep 78 = .ok (.aload_n 0, 1) := by decide +kernel
theorem d_AckBook_Arrivals_keep_79 : decode c_AckBook_Arrivals_keep 79 = .ok (.iload_n 3, 1) := by decide +kernel
theorem d_AckBook_Arrivals_keep_80 : decode c_AckBook_Arrivals_keep 80 = .ok (.invokevirtual 43, 3) := by decide +kernel
theorem d_AckBook_Arrivals_keep_83 : decode c_AckBook_Arrivals_keep 83 = .ok (.goto (41), 3) := by decide +kernel
theorem d_AckBook_Arrivals_keep_51 : decode c_AckBook_Arrivals_keep 51 = .ok (.iconst (0), 1) := by decide +kernel
theorem d_AckBook_Arrivals_keep_24 : decode c_AckBook_Arrivals_keep 24 = .ok (.istore 4, 2) := by decide +kernel
theorem d_AckBook_Arrivals_keep_26 : decode c_AckBook_Arrivals_keep 26 = .ok (.iload_n 3, 1) := by decide +kernel
theorem d_AckBook_Arrivals_keep_27 : decode c_AckBook_Arrivals_keep 27 = .ok (.aload_n 0, 1) := by decide +kernel
theorem d_AckBook_Arrivals_keep_28 : decode c_AckBook_Arrivals_keep 28 = .ok (.getfield 26, 3) := by decide +kernel
theorem d_AckBook_Arrivals_keep_31 : decode c_AckBook_Arrivals_keep 31 = .ok (.if_icmp .ge (20), 3) := by decide +kernel
theorem d_AckBook_Arrivals_keep_34 : decode c_AckBook_Arrivals_keep 34 = .ok (.aload_n 0, 1) := by decide +kernel
theorem d_AckBook_Arrivals_keep_35 : decode c_AckBook_Arrivals_keep 35 = .ok (.getfield 15, 3) := by decide +kernel
theorem d_AckBook_Arrivals_keep_38 : decode c_AckBook_Arrivals_keep 38 = .ok (.iload_n 3, 1) := by decide +kernel
theorem d_AckBook_Arrivals_keep_39 : decode c_AckBook_Arrivals_keep 39 = .ok (.laload, 1) := by decide +kernel
theorem d_AckBook_Arrivals_keep_40 : decode c_AckBook_Arrivals_keep 40 = .ok (.lload_n 1, 1) := by decide +kernel
theorem d_AckBook_Arrivals_keep_41 : decode c_AckBook_Arrivals_keep 41 = .ok (.lconst 1, 1) := by decide +kernel
theorem d_AckBook_Arrivals_keep_42 : decode c_AckBook_Arrivals_keep 42 = .ok (.lsub, 1) := by decide +kernel
theorem d_AckBook_Arrivals_keep_43 : decode c_AckBook_Arrivals_keep 43 = .ok (.lcmp, 1) := by decide +kernel
theorem d_AckBook_Arrivals_keep_44 : decode c_AckBook_Arrivals_keep 44 = .ok (.ifCond .ne (7), 3) := by decide +kernel
theorem d_AckBook_Arrivals_keep_47 : decode c_AckBook_Arrivals_keep 47 = .ok (.iconst (1), 1) := by decide +kernel
theorem d_AckBook_Arrivals_keep_48 : decode c_AckBook_Arrivals_keep 48 = .ok (.goto (4), 3) := by decide +kernel
theorem d_AckBook_Arrivals_keep_23 : decode c_AckBook_Arrivals_keep 23 = .ok (.iconst (0), 1) := by decide +kernel
theorem d_AckBook_Arrivals_keep_0 : decode c_AckBook_Arrivals_keep 0 = .ok (.iload_n 3, 1) := by decide +kernel
theorem d_AckBook_Arrivals_keep_1 : decode c_AckBook_Arrivals_keep 1 = .ok (.ifCond .le (22), 3) := by decide +kernel
theorem d_AckBook_Arrivals_keep_4 : decode c_AckBook_Arrivals_keep 4 = .ok (.aload_n 0, 1) := by decide +kernel
theorem d_AckBook_Arrivals_keep_5 : decode c_AckBook_Arrivals_keep 5 = .ok (.getfield 9, 3) := by decide +kernel
theorem d_AckBook_Arrivals_keep_8 : decode c_AckBook_Arrivals_keep 8 = .ok (.iload_n 3, 1) := by decide +kernel
theorem d_AckBook_Arrivals_keep_9 : decode c_AckBook_Arrivals_keep 9 = .ok (.iconst (1), 1) := by decide +kernel
theorem d_AckBook_Arrivals_keep_10 : decode c_AckBook_Arrivals_keep 10 = .ok (.isub, 1) := by decide +kernel
theorem d_AckBook_Arrivals_keep_11 : decode c_AckBook_Arrivals_keep 11 = .ok (.laload, 1) := by decide +kernel
theorem d_AckBook_Arrivals_keep_12 : decode c_AckBook_Arrivals_keep 12 = .ok (.lload_n 1, 1) := by decide +kernel
theorem d_AckBook_Arrivals_keep_13 : decode c_AckBook_Arrivals_keep 13 = .ok (.lconst 1, 1) := by decide +kernel
theorem d_AckBook_Arrivals_keep_14 : decode c_AckBook_Arrivals_keep 14 = .ok (.ladd, 1) := by decide +kernel
theorem d_AckBook_Arrivals_keep_15 : decode c_AckBook_Arrivals_keep 15 = .ok (.lcmp, 1) := by decide +kernel
theorem d_AckBook_Arrivals_keep_16 : decode c_AckBook_Arrivals_keep 16 = .ok (.ifCond .ne (7), 3) := by decide +kernel
theorem d_AckBook_Arrivals_keep_19 : decode c_AckBook_Arrivals_keep 19 = .ok (.iconst (1), 1) := by decide +kernel
theorem d_AckBook_Arrivals_keep_20 : decode c_AckBook_Arrivals_keep 20 = .ok (.goto (4), 3) := by decide +kernel
theorem d_AckBook_Arrivals_hold_12 : decode c_AckBook_Arrivals_hold 12 = .ok (.aload_n 0, 1) := by decide +kernel
theorem d_AckBook_Arrivals_hold_13 : decode c_AckBook_Arrivals_hold 13 = .ok (.dup, 1) := by decide +kernel
theorem d_AckBook_Arrivals_hold_14 : decode c_AckBook_Arrivals_hold 14 = .ok (.getfield 50, 3) := by decide +kernel
theorem d_AckBook_Arrivals_hold_17 : decode c_AckBook_Arrivals_hold 17 = .ok (.iconst (1), 1) := by decide +kernel
theorem d_AckBook_Arrivals_hold_18 : decode c_AckBook_Arrivals_hold 18 = .ok (.iadd, 1) := by decide +kernel
theorem d_AckBook_Arrivals_hold_19 : decode c_AckBook_Arrivals_hold 19 = .ok (.putfield 50, 3) := by decide +kernel
theorem d_AckBook_Arrivals_hold_22 : decode c_AckBook_Arrivals_hold 22 = .ok (.aload_n 0, 1) := by decide +kernel
theorem d_AckBook_Arrivals_hold_23 : decode c_AckBook_Arrivals_hold 23 = .ok (.aload_n 0, 1) := by decide +kernel
theorem d_AckBook_Arrivals_hold_24 : decode c_AckBook_Arrivals_hold 24 = .ok (.getfield 56, 3) := by decide +kernel
theorem d_AckBook_Arrivals_hold_27 : decode c_AckBook_Arrivals_hold 27 = .ok (.ifCond .ne (7), 3) := by decide +kernel
theorem d_AckBook_Arrivals_hold_30 : decode c_AckBook_Arrivals_hold 30 = .ok (.iload_n 1, 1) := by decide +kernel
theorem d_AckBook_Arrivals_hold_31 : decode c_AckBook_Arrivals_hold 31 = .ok (.ifCond .eq (7), 3) := by decide +kernel
theorem d_AckBook_Arrivals_hold_38 : decode c_AckBook_Arrivals_hold 38 = .ok (.iconst (0), 1) := by decide +kernel
theorem d_AckBook_Arrivals_hold_39 : decode c_AckBook_Arrivals_hold 39 = .ok (.putfield 56, 3) := by decide +kernel
theorem d_AckBook_Arrivals_hold_42 : decode c_AckBook_Arrivals_hold 42 = .ok (.return_, 1) := by decide +kernel
theorem d_AckBook_Arrivals_hold_34 : decode c_AckBook_Arrivals_hold 34 = .ok (.iconst (1), 1) := by decide +kernel
theorem d_AckBook_Arrivals_hold_35 : decode c_AckBook_Arrivals_hold 35 = .ok (.goto (4), 3) := by decide +kernel
theorem d_AckBook_Arrivals_hold_0 : decode c_AckBook_Arrivals_hold 0 = .ok (.aload_n 0, 1) := by decide +kernel
theorem d_AckBook_Arrivals_hold_1 : decode c_AckBook_Arrivals_hold 1 = .ok (.getfield 50, 3) := by decide +kernel
theorem d_AckBook_Arrivals_hold_4 : decode c_AckBook_Arrivals_hold 4 = .ok (.ifCond .ne (8), 3) := by decide +kernel
theorem d_AckBook_Arrivals_hold_7 : decode c_AckBook_Arrivals_hold 7 = .ok (.aload_n 0, 1) := by decide +kernel
theorem d_AckBook_Arrivals_hold_8 : decode c_AckBook_Arrivals_hold 8 = .ok (.iload_n 2, 1) := by decide +kernel
theorem d_AckBook_Arrivals_hold_9 : decode c_AckBook_Arrivals_hold 9 = .ok (.putfield 53, 3) := by decide +kernel
theorem d_AckBook_Arrivals_enter_91 : decode c_AckBook_Arrivals_enter 91 = .ok (.lload_n 1, 1) := by decide +kernel
theorem d_AckBook_Arrivals_enter_92 : decode c_AckBook_Arrivals_enter 92 = .ok (.lload 6, 2) := by decide +kernel
theorem d_AckBook_Arrivals_enter_94 : decode c_AckBook_Arrivals_enter 94 = .ok (.lcmp, 1) := by decide +kernel
theorem d_AckBook_Arrivals_enter_95 : decode c_AckBook_Arrivals_enter 95 = .ok (.ifCond .le (9), 3) := by decide +kernel
theorem d_AckBook_Arrivals_enter_104 : decode c_AckBook_Arrivals_enter 104 = .ok (.iconst (1), 1) := by decide +kernel
