theorem d_AckBookModel_find_43 : decode c_AckBookModel_find 43 = .ok (.getfield 44, 3) := by decide +kernel
theorem d_AckBookModel_find_46 : decode c_AckBookModel_find 46 = .ok (.iload 4, 2) := by decide +kernel
theorem d_AckBookModel_find_48 : decode c_AckBookModel_find 48 = .ok (.dup2, 1) := by decide +kernel
theorem d_AckBookModel_find_49 : decode c_AckBookModel_find 49 = .ok (.iaload, 1) := by decide +kernel
theorem d_AckBookModel_find_50 : decode c_AckBookModel_find 50 = .ok (.iconst (1), 1) := by decide +kernel
theorem d_AckBookModel_find_51 : decode c_AckBookModel_find 51 = .ok (.iadd, 1) := by decide +kernel
theorem d_AckBookModel_find_52 : decode c_AckBookModel_find 52 = .ok (.iastore, 1) := by decide +kernel
theorem d_AckBookModel_find_53 : decode c_AckBookModel_find 53 = .ok (.return_, 1) := by decide +kernel
theorem d_AckBookModel_isBehindRecovery_0 : decode c_AckBookModel_isBehindRecovery 0 = .ok (.aload_n 0, 1) := by decide +kernel
theorem d_AckBookModel_isBehindRecovery_1 : decode c_AckBookModel_isBehindRecovery 1 = .ok (.getfield 69, 3) := by decide +kernel
theorem d_AckBookModel_isBehindRecovery_4 : decode c_AckBookModel_isBehindRecovery 4 = .ok (.ifCond .lt (16), 3) := by decide +kernel
theorem d_AckBookModel_isBehindRecovery_20 : decode c_AckBookModel_isBehindRecovery 20 = .ok (.iconst (1), 1) := by decide +kernel
theorem d_AckBookModel_isBehindRecovery_21 : decode c_AckBookModel_isBehindRecovery 21 = .ok (.goto (4), 3) := by decide +kernel
theorem d_AckBookModel_isBehindRecovery_25 : decode c_AckBookModel_isBehindRecovery 25 = .ok (.ireturn, 1) := by decide +kernel
theorem d_AckBookModel_isBehindRecovery_7 : decode c_AckBookModel_isBehindRecovery 7 = .ok (.aload_n 0, 1) := by decide +kernel
theorem d_AckBookModel_isBehindRecovery_8 : decode c_AckBookModel_isBehindRecovery 8 = .ok (.getfield 16, 3) := by decide +kernel
theorem d_AckBookModel_isBehindRecovery_11 : decode c_AckBookModel_isBehindRecovery 11 = .ok (.iload_n 1, 1) := by decide +kernel
theorem d_AckBookModel_isBehindRecovery_12 : decode c_AckBookModel_isBehindRecovery 12 = .ok (.iaload, 1) := by decide +kernel
theorem d_AckBookModel_isBehindRecovery_13 : decode c_AckBookModel_isBehindRecovery 13 = .ok (.aload_n 0, 1) := by decide +kernel
theorem d_AckBookModel_isBehindRecovery_14 : decode c_AckBookModel_isBehindRecovery 14 = .ok (.getfield 69, 3) := by decide +kernel
theorem d_AckBookModel_isBehindRecovery_17 : decode c_AckBookModel_isBehindRecovery 17 = .ok (.if_icmp .le (7), 3) := by decide +kernel
theorem d_AckBookModel_isBehindRecovery_24 : decode c_AckBookModel_isBehindRecovery 24 = .ok (.iconst (0), 1) := by decide +kernel
theorem d_AckBookModel_grow_50 : decode c_AckBookModel_grow 50 = .ok (.aload_n 0, 1) := by decide +kernel
theorem d_AckBookModel_grow_51 : decode c_AckBookModel_grow 51 = .ok (.getfield 13, 3) := by decide +kernel
theorem d_AckBookModel_grow_54 : decode c_AckBookModel_grow 54 = .ok (.iload_n 1, 1) := by decide +kernel
theorem d_AckBookModel_grow_55 : decode c_AckBookModel_grow 55 = .ok (.iaload, 1) := by decide +kernel
theorem d_AckBookModel_grow_56 : decode c_AckBookModel_grow 56 = .ok (.goto (18), 3) := by decide +kernel
theorem d_AckBookModel_grow_74 : decode c_AckBookModel_grow 74 = .ok (.iadd, 1) := by decide +kernel
theorem d_AckBookModel_grow_75 : decode c_AckBookModel_grow 75 = .ok (.putfield 63, 3) := by decide +kernel
theorem d_AckBookModel_grow_78 : decode c_AckBookModel_grow 78 = .ok (.return_, 1) := by decide +kernel
theorem d_AckBookModel_grow_0 : decode c_AckBookModel_grow 0 = .ok (.aload_n 0, 1) := by decide +kernel
theorem d_AckBookModel_grow_1 : decode c_AckBookModel_grow 1 = .ok (.getfield 26, 3) := by decide +kernel
theorem d_AckBookModel_grow_4 : decode c_AckBookModel_grow 4 = .ok (.iload_n 1, 1) := by decide +kernel
theorem d_AckBookModel_grow_5 : decode c_AckBookModel_grow 5 = .ok (.baload, 1) := by decide +kernel
theorem d_AckBookModel_grow_6 : decode c_AckBookModel_grow 6 = .ok (.ifCond .eq (20), 3) := by decide +kernel
theorem d_AckBookModel_grow_26 : decode c_AckBookModel_grow 26 = .ok (.return_, 1) := by decide +kernel
theorem d_AckBookModel_grow_9 : decode c_AckBookModel_grow 9 = .ok (.aload_n 0, 1) := by decide +kernel
theorem d_AckBookModel_grow_10 : decode c_AckBookModel_grow 10 = .ok (.getfield 29, 3) := by decide +kernel
theorem d_AckBookModel_grow_13 : decode c_AckBookModel_grow 13 = .ok (.iload_n 1, 1) := by decide +kernel
theorem d_AckBookModel_grow_14 : decode c_AckBookModel_grow 14 = .ok (.baload, 1) := by decide +kernel
theorem d_AckBookModel_grow_15 : decode c_AckBookModel_grow 15 = .ok (.ifCond .eq (11), 3) := by decide +kernel
theorem d_AckBookModel_grow_18 : decode c_AckBookModel_grow 18 = .ok (.aload_n 0, 1) := by decide +kernel
theorem d_AckBookModel_grow_19 : decode c_AckBookModel_grow 19 = .ok (.iload_n 1, 1) := by decide +kernel
theorem d_AckBookModel_grow_20 : decode c_AckBookModel_grow 20 = .ok (.invokevirtual 161, 3) := by decide +kernel
theorem d_AckBookModel_grow_23 : decode c_AckBookModel_grow 23 = .ok (.ifCond .ne (4), 3) := by decide +kernel
theorem d_AckBookModel_grow_27 : decode c_AckBookModel_grow 27 = .ok (.aload_n 0, 1) := by decide +kernel
theorem d_AckBookModel_grow_28 : decode c_AckBookModel_grow 28 = .ok (.dup, 1) := by decide +kernel
theorem d_AckBookModel_grow_29 : decode c_AckBookModel_grow 29 = .ok (.getfield 63, 3) := by decide +kernel
theorem d_AckBookModel_grow_32 : decode c_AckBookModel_grow 32 = .ok (.aload_n 0, 1) := by decide +kernel
theorem d_AckBookModel_grow_33 : decode c_AckBookModel_grow 33 = .ok (.getfield 66, 3) := by decide +kernel
theorem d_AckBookModel_grow_36 : decode c_AckBookModel_grow 36 = .ok (.ifCond .lt (14), 3) := by decide +kernel
theorem d_AckBookModel_grow_39 : decode c_AckBookModel_grow 39 = .ok (.aload_n 0, 1) := by decide +kernel
theorem d_AckBookModel_grow_40 : decode c_AckBookModel_grow 40 = .ok (.getfield 63, 3) := by decide +kernel
theorem d_AckBookModel_grow_43 : decode c_AckBookModel_grow 43 = .ok (.aload_n 0, 1) := by decide +kernel
theorem d_AckBookModel_grow_44 : decode c_AckBookModel_grow 44 = .ok (.getfield 66, 3) := by decide +kernel
theorem d_AckBookModel_grow_47 : decode c_AckBookModel_grow 47 = .ok (.if_icmp .ge (12), 3) := by decide +kernel
theorem d_AckBookModel_grow_59 : decode c_AckBookModel_grow 59 = .ok (.sipush (1200), 3) := by decide +kernel
theorem d_AckBookModel_grow_62 : decode c_AckBookModel_grow 62 = .ok (.aload_n 0, 1) := by decide +kernel
theorem d_AckBookModel_grow_63 : decode c_AckBookModel_grow 63 = .ok (.getfield 13, 3) := by decide +kernel
theorem d_AckBookModel_grow_66 : decode c_AckBookModel_grow 66 = .ok (.iload_n 1, 1) := by decide +kernel
theorem d_AckBookModel_grow_67 : decode c_AckBookModel_grow 67 = .ok (.iaload, 1) := by decide +kernel
theorem d_AckBookModel_grow_68 : decode c_AckBookModel_grow 68 = .ok (.imul, 1) := by decide +kernel
theorem d_AckBookModel_grow_69 : decode c_AckBookModel_grow 69 = .ok (.aload_n 0, 1) := by decide +kernel
theorem d_AckBookModel_grow_70 : decode c_AckBookModel_grow 70 = .ok (.getfield 63, 3) := by decide +kernel
theorem d_AckBookModel_grow_73 : decode c_AckBookModel_grow 73 = .ok (.idiv, 1) := by decide +kernel
theorem d_AckBookModel_limit_0 : decode c_AckBookModel_limit 0 = .ok (.bipush (9), 2) := by decide +kernel
theorem d_AckBookModel_limit_2 : decode c_AckBookModel_limit 2 = .ok (.aload_n 0, 1) := by decide +kernel
theorem d_AckBookModel_limit_3 : decode c_AckBookModel_limit 3 = .ok (.getfield 50, 3) := by decide +kernel
theorem d_AckBookModel_limit_6 : decode c_AckBookModel_limit 6 = .ok (.bipush (8), 2) := by decide +kernel
theorem d_AckBookModel_limit_8 : decode c_AckBookModel_limit 8 = .ok (.idiv, 1) := by decide +kernel
theorem d_AckBookModel_limit_9 : decode c_AckBookModel_limit 9 = .ok (.aload_n 0, 1) := by decide +kernel
theorem d_AckBookModel_limit_10 : decode c_AckBookModel_limit 10 = .ok (.getfield 118, 3) := by decide +kernel
theorem d_AckBookModel_limit_13 : decode c_AckBookModel_limit 13 = .ok (.invokestatic 110, 3) := by decide +kernel
theorem d_AckBookModel_limit_16 : decode c_AckBookModel_limit 16 = .ok (.imul, 1) := by decide +kernel
theorem d_AckBookModel_limit_17 : decode c_AckBookModel_limit 17 = .ok (.bipush (8), 2) := by decide +kernel
theorem d_AckBookModel_limit_19 : decode c_AckBookModel_limit 19 = .ok (.idiv, 1) := by decide +kernel
theorem d_AckBookModel_limit_20 : decode c_AckBookModel_limit 20 = .ok (.iconst (1), 1) := by decide +kernel
theorem d_AckBookModel_limit_21 : decode c_AckBookModel_limit 21 = .ok (.invokestatic 110, 3) := by decide +kernel
theorem d_AckBookModel_limit_24 : decode c_AckBookModel_limit 24 = .ok (.ireturn, 1) := by decide +kernel
theorem d_AckBookModel_persists_8 : decode c_AckBookModel_persists 8 = .ok (.iload 5, 2) := by decide +kernel
theorem d_AckBookModel_persists_10 : decode c_AckBookModel_persists 10 = .ok (.aload_n 0, 1) := by decide +kernel
theorem d_AckBookModel_persists_11 : decode c_AckBookModel_persists 11 = .ok (.getfield 44, 3) := by decide +kernel
theorem d_AckBookModel_persists_14 : decode c_AckBookModel_persists 14 = .ok (.iconst (2), 1) := by decide +kernel
theorem d_AckBookModel_persists_15 : decode c_AckBookModel_persists 15 = .ok (.iload_n 1, 1) := by decide +kernel
theorem d_AckBookModel_persists_16 : decode c_AckBookModel_persists 16 = .ok (.imul, 1) := by decide +kernel
theorem d_AckBookModel_persists_17 : decode c_AckBookModel_persists 17 = .ok (.iconst (1), 1) := by decide +kernel
theorem d_AckBookModel_persists_18 : decode c_AckBookModel_persists 18 = .ok (.iadd, 1) := by decide +kernel
theorem d_AckBookModel_persists_19 : decode c_AckBookModel_persists 19 = .ok (.iaload, 1) := by decide +kernel
theorem d_AckBookModel_persists_20 : decode c_AckBookModel_persists 20 = .ok (.if_icmp .ge (89), 3) := by decide +kernel
theorem d_AckBookModel_persists_109 : decode c_AckBookModel_persists 109 = .ok (.iload_n 3, 1) := by decide +kernel
theorem d_AckBookModel_persists_110 : decode c_AckBookModel_persists 110 = .ok (.ifCond .ge (4), 3) := by decide +kernel
theorem d_AckBookModel_persists_114 : decode c_AckBookModel_persists 114 = .ok (.iconst (0), 1) := by decide +kernel
theorem d_AckBookModel_persists_115 : decode c_AckBookModel_persists 115 = .ok (.istore 5, 2) := by decide +kernel
theorem d_AckBookModel_persists_117 : decode c_AckBookModel_persists 117 = .ok (.iload_n 3, 1) := by decide +kernel
theorem d_AckBookModel_persists_118 : decode c_AckBookModel_persists 118 = .ok (.istore 6, 2) := by decide +kernel
theorem d_AckBookModel_persists_113 : decode c_AckBookModel_persists 113 = .ok (.return_, 1) := by decide +kernel
theorem d_AckBookModel_persists_23 : decode c_AckBookModel_persists 23 = .ok (.aload_n 0, 1) := by decide +kernel
theorem d_AckBookModel_persists_24 : decode c_AckBookModel_persists 24 = .ok (.getfield 41, 3) := by decide +kernel
theorem d_AckBookModel_persists_27 : decode c_AckBookModel_persists 27 = .ok (.sipush (4096), 3) := by decide +kernel
theorem d_AckBookModel_persists_30 : decode c_AckBookModel_persists 30 = .ok (.iconst (2), 1) := by decide +kernel
theorem d_AckBookModel_persists_31 : decode c_AckBookModel_persists 31 = .ok (.iload_n 1, 1) := by decide +kernel
theorem d_AckBookModel_persists_32 : decode c_AckBookModel_persists 32 = .ok (.imul, 1) := by decide +kernel
theorem d_AckBookModel_persists_33 : decode c_AckBookModel_persists 33 = .ok (.iconst (1), 1) := by decide +kernel
theorem d_AckBookModel_persists_34 : decode c_AckBookModel_persists 34 = .ok (.iadd, 1) := by decide +kernel
theorem d_AckBookModel_persists_35 : decode c_AckBookModel_persists 35 = .ok (.imul, 1) := by decide +kernel
theorem d_AckBookModel_persists_36 : decode c_AckBookModel_persists 36 = .ok (.iload 5, 2) := by decide +kernel
theorem d_AckBookModel_persists_38 : decode c_AckBookModel_persists 38 = .ok (.iadd, 1) := by decide +kernel
theorem d_AckBookModel_persists_39 : decode c_AckBookModel_persists 39 = .ok (.iaload, 1) := by decide +kernel
theorem d_AckBookModel_persists_40 : decode c_AckBookModel_persists 40 = .ok (.istore 6, 2) := by decide +kernel
theorem d_AckBookModel_persists_42 : decode c_AckBookModel_persists 42 = .ok (.aload_n 0, 1) := by decide +kernel
theorem d_AckBookModel_persists_43 : decode c_AckBookModel_persists 43 = .ok (.getfield 60, 3) := by decide +kernel
theorem d_AckBookModel_persists_46 : decode c_AckBookModel_persists 46 = .ok (.ifCond .lt (57), 3) := by decide +kernel
theorem d_AckBookModel_persists_103 : decode c_AckBookModel_persists 103 = .ok (.iinc 5 (1), 3) := by decide +kernel
theorem d_AckBookModel_persists_106 : decode c_AckBookModel_persists 106 = .ok (.goto (-98), 3) := by decide +kernel
theorem d_AckBookModel_persists_49 : decode c_AckBookModel_persists 49 = .ok (.aload_n 0, 1) := by decide +kernel
theorem d_AckBookModel_persists_50 : decode c_AckBookModel_persists 50 = .ok (.getfield 22, 3) := by decide +kernel
theorem d_AckBookModel_persists_53 : decode c_AckBookModel_persists 53 = .ok (.sipush (4096), 3) := by decide +kernel
theorem d_AckBookModel_persists_56 : decode c_AckBookModel_persists 56 = .ok (.iload_n 1, 1) := by decide +kernel
theorem d_AckBookModel_persists_57 : decode c_AckBookModel_persists 57 = .ok (.imul, 1) := by decide +kernel
theorem d_AckBookModel_persists_58 : decode c_AckBookModel_persists 58 = .ok (.iload 6, 2) := by decide +kernel
