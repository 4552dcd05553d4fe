theorem d_AckBookModel_takes_18 : decode c_AckBookModel_takes 18 = .ok (.iaload, 1) := by decide +kernel
theorem d_AckBookModel_takes_19 : decode c_AckBookModel_takes 19 = .ok (.iload_n 3, 1) := by decide +kernel
theorem d_AckBookModel_takes_20 : decode c_AckBookModel_takes 20 = .ok (.invokestatic 110, 3) := by decide +kernel
theorem d_AckBookModel_takes_23 : decode c_AckBookModel_takes 23 = .ok (.iastore, 1) := by decide +kernel
theorem d_AckBookModel_takes_24 : decode c_AckBookModel_takes 24 = .ok (.iconst (0), 1) := by decide +kernel
theorem d_AckBookModel_takes_25 : decode c_AckBookModel_takes 25 = .ok (.istore 4, 2) := by decide +kernel
theorem d_AckBookModel_takes_27 : decode c_AckBookModel_takes 27 = .ok (.iconst (0), 1) := by decide +kernel
theorem d_AckBookModel_takes_28 : decode c_AckBookModel_takes 28 = .ok (.istore 5, 2) := by decide +kernel
theorem d_AckBookModel_takes_30 : decode c_AckBookModel_takes 30 = .ok (.iconst (0), 1) := by decide +kernel
theorem d_AckBookModel_takes_31 : decode c_AckBookModel_takes 31 = .ok (.istore 6, 2) := by decide +kernel
theorem d_AckBookModel_acknowledge_76 : decode c_AckBookModel_acknowledge 76 = .ok (.iconst (1), 1) := by decide +kernel
theorem d_AckBookModel_acknowledge_77 : decode c_AckBookModel_acknowledge 77 = .ok (.invokevirtual 146, 3) := by decide +kernel
theorem d_AckBookModel_acknowledge_80 : decode c_AckBookModel_acknowledge 80 = .ok (.ifCond .eq (10), 3) := by decide +kernel
theorem d_AckBookModel_acknowledge_90 : decode c_AckBookModel_acknowledge 90 = .ok (.aload_n 0, 1) := by decide +kernel
theorem d_AckBookModel_acknowledge_91 : decode c_AckBookModel_acknowledge 91 = .ok (.iload_n 1, 1) := by decide +kernel
theorem d_AckBookModel_acknowledge_92 : decode c_AckBookModel_acknowledge 92 = .ok (.iload_n 2, 1) := by decide +kernel
theorem d_AckBookModel_acknowledge_93 : decode c_AckBookModel_acknowledge 93 = .ok (.invokevirtual 183, 3) := by decide +kernel
theorem d_AckBookModel_acknowledge_96 : decode c_AckBookModel_acknowledge 96 = .ok (.istore 4, 2) := by decide +kernel
theorem d_AckBookModel_acknowledge_98 : decode c_AckBookModel_acknowledge 98 = .ok (.aload_n 0, 1) := by decide +kernel
theorem d_AckBookModel_acknowledge_99 : decode c_AckBookModel_acknowledge 99 = .ok (.iconst (0), 1) := by decide +kernel
theorem d_AckBookModel_acknowledge_100 : decode c_AckBookModel_acknowledge 100 = .ok (.putfield 156, 3) := by decide +kernel
theorem d_AckBookModel_acknowledge_103 : decode c_AckBookModel_acknowledge 103 = .ok (.iload 4, 2) := by decide +kernel
theorem d_AckBookModel_acknowledge_105 : decode c_AckBookModel_acknowledge 105 = .ok (.ireturn, 1) := by decide +kernel
theorem d_AckBookModel_acknowledge_83 : decode c_AckBookModel_acknowledge 83 = .ok (.aload_n 0, 1) := by decide +kernel
theorem d_AckBookModel_acknowledge_84 : decode c_AckBookModel_acknowledge 84 = .ok (.iconst (0), 1) := by decide +kernel
theorem d_AckBookModel_acknowledge_85 : decode c_AckBookModel_acknowledge 85 = .ok (.putfield 156, 3) := by decide +kernel
theorem d_AckBookModel_acknowledge_88 : decode c_AckBookModel_acknowledge 88 = .ok (.iconst (0), 1) := by decide +kernel
theorem d_AckBookModel_acknowledge_89 : decode c_AckBookModel_acknowledge 89 = .ok (.ireturn, 1) := by decide +kernel
theorem d_AckBookModel_acknowledge_71 : decode c_AckBookModel_acknowledge 71 = .ok (.iconst (1), 1) := by decide +kernel
theorem d_AckBookModel_acknowledge_72 : decode c_AckBookModel_acknowledge 72 = .ok (.goto (4), 3) := by decide +kernel
theorem d_AckBookModel_acknowledge_22 : decode c_AckBookModel_acknowledge 22 = .ok (.istore_n 3, 1) := by decide +kernel
theorem d_AckBookModel_acknowledge_23 : decode c_AckBookModel_acknowledge 23 = .ok (.aload_n 0, 1) := by decide +kernel
theorem d_AckBookModel_acknowledge_24 : decode c_AckBookModel_acknowledge 24 = .ok (.iload_n 1, 1) := by decide +kernel
theorem d_AckBookModel_acknowledge_25 : decode c_AckBookModel_acknowledge 25 = .ok (.invokestatic 142, 3) := by decide +kernel
theorem d_AckBookModel_acknowledge_28 : decode c_AckBookModel_acknowledge 28 = .ok (.iconst (1), 1) := by decide +kernel
theorem d_AckBookModel_acknowledge_29 : decode c_AckBookModel_acknowledge 29 = .ok (.invokevirtual 146, 3) := by decide +kernel
theorem d_AckBookModel_acknowledge_32 : decode c_AckBookModel_acknowledge 32 = .ok (.ifCond .ne (51), 3) := by decide +kernel
theorem d_AckBookModel_acknowledge_35 : decode c_AckBookModel_acknowledge 35 = .ok (.aload_n 0, 1) := by decide +kernel
theorem d_AckBookModel_acknowledge_36 : decode c_AckBookModel_acknowledge 36 = .ok (.aload_n 0, 1) := by decide +kernel
theorem d_AckBookModel_acknowledge_37 : decode c_AckBookModel_acknowledge 37 = .ok (.getfield 32, 3) := by decide +kernel
theorem d_AckBookModel_acknowledge_40 : decode c_AckBookModel_acknowledge 40 = .ok (.iload_n 1, 1) := by decide +kernel
theorem d_AckBookModel_acknowledge_41 : decode c_AckBookModel_acknowledge 41 = .ok (.baload, 1) := by decide +kernel
theorem d_AckBookModel_acknowledge_42 : decode c_AckBookModel_acknowledge 42 = .ok (.iconst (2), 1) := by decide +kernel
theorem d_AckBookModel_acknowledge_43 : decode c_AckBookModel_acknowledge 43 = .ok (.invokevirtual 146, 3) := by decide +kernel
theorem d_AckBookModel_acknowledge_46 : decode c_AckBookModel_acknowledge 46 = .ok (.ifCond .ne (37), 3) := by decide +kernel
theorem d_AckBookModel_acknowledge_49 : decode c_AckBookModel_acknowledge 49 = .ok (.aload_n 0, 1) := by decide +kernel
theorem d_AckBookModel_acknowledge_50 : decode c_AckBookModel_acknowledge 50 = .ok (.iload_n 3, 1) := by decide +kernel
theorem d_AckBookModel_acknowledge_51 : decode c_AckBookModel_acknowledge 51 = .ok (.ifCond .ne (20), 3) := by decide +kernel
theorem d_AckBookModel_acknowledge_54 : decode c_AckBookModel_acknowledge 54 = .ok (.aload_n 0, 1) := by decide +kernel
theorem d_AckBookModel_acknowledge_55 : decode c_AckBookModel_acknowledge 55 = .ok (.getfield 76, 3) := by decide +kernel
theorem d_AckBookModel_acknowledge_58 : decode c_AckBookModel_acknowledge 58 = .ok (.iconst (0), 1) := by decide +kernel
theorem d_AckBookModel_acknowledge_59 : decode c_AckBookModel_acknowledge 59 = .ok (.laload, 1) := by decide +kernel
theorem d_AckBookModel_acknowledge_60 : decode c_AckBookModel_acknowledge 60 = .ok (.aload_n 0, 1) := by decide +kernel
theorem d_AckBookModel_acknowledge_61 : decode c_AckBookModel_acknowledge 61 = .ok (.getfield 7, 3) := by decide +kernel
theorem d_AckBookModel_acknowledge_64 : decode c_AckBookModel_acknowledge 64 = .ok (.iload_n 1, 1) := by decide +kernel
theorem d_AckBookModel_acknowledge_65 : decode c_AckBookModel_acknowledge 65 = .ok (.iaload, 1) := by decide +kernel
theorem d_AckBookModel_acknowledge_66 : decode c_AckBookModel_acknowledge 66 = .ok (.i2l, 1) := by decide +kernel
theorem d_AckBookModel_acknowledge_67 : decode c_AckBookModel_acknowledge 67 = .ok (.lcmp, 1) := by decide +kernel
theorem d_AckBookModel_acknowledge_68 : decode c_AckBookModel_acknowledge 68 = .ok (.ifCond .lt (7), 3) := by decide +kernel
theorem d_AckBookModel_acknowledge_75 : decode c_AckBookModel_acknowledge 75 = .ok (.iconst (0), 1) := by decide +kernel
theorem d_AckBookModel_acknowledge_17 : decode c_AckBookModel_acknowledge 17 = .ok (.iconst (1), 1) := by decide +kernel
theorem d_AckBookModel_acknowledge_18 : decode c_AckBookModel_acknowledge 18 = .ok (.goto (4), 3) := by decide +kernel
theorem d_AckBookModel_acknowledge_0 : decode c_AckBookModel_acknowledge 0 = .ok (.iload_n 2, 1) := by decide +kernel
theorem d_AckBookModel_acknowledge_1 : decode c_AckBookModel_acknowledge 1 = .ok (.ifCond .lt (16), 3) := by decide +kernel
theorem d_AckBookModel_acknowledge_4 : decode c_AckBookModel_acknowledge 4 = .ok (.iload_n 2, 1) := by decide +kernel
theorem d_AckBookModel_acknowledge_5 : decode c_AckBookModel_acknowledge 5 = .ok (.ldc 182, 2) := by decide +kernel
theorem d_AckBookModel_acknowledge_7 : decode c_AckBookModel_acknowledge 7 = .ok (.if_icmp .gt (10), 3) := by decide +kernel
theorem d_AckBookModel_acknowledge_10 : decode c_AckBookModel_acknowledge 10 = .ok (.aload_n 0, 1) := by decide +kernel
theorem d_AckBookModel_acknowledge_11 : decode c_AckBookModel_acknowledge 11 = .ok (.getfield 156, 3) := by decide +kernel
theorem d_AckBookModel_acknowledge_14 : decode c_AckBookModel_acknowledge 14 = .ok (.ifCond .ne (7), 3) := by decide +kernel
theorem d_AckBookModel_acknowledge_21 : decode c_AckBookModel_acknowledge 21 = .ok (.iconst (0), 1) := by decide +kernel
theorem d_AckBookModel_outs_47 : decode c_AckBookModel_outs 47 = .ok (.iconst (1), 1) := by decide +kernel
theorem d_AckBookModel_outs_48 : decode c_AckBookModel_outs 48 = .ok (.goto (4), 3) := by decide +kernel
theorem d_AckBookModel_outs_52 : decode c_AckBookModel_outs 52 = .ok (.iadd, 1) := by decide +kernel
theorem d_AckBookModel_outs_53 : decode c_AckBookModel_outs 53 = .ok (.istore_n 3, 1) := by decide +kernel
theorem d_AckBookModel_outs_54 : decode c_AckBookModel_outs 54 = .ok (.iinc 4 (1), 3) := by decide +kernel
theorem d_AckBookModel_outs_57 : decode c_AckBookModel_outs 57 = .ok (.goto (-52), 3) := by decide +kernel
theorem d_AckBookModel_outs_5 : decode c_AckBookModel_outs 5 = .ok (.iload 4, 2) := by decide +kernel
theorem d_AckBookModel_outs_7 : decode c_AckBookModel_outs 7 = .ok (.aload_n 0, 1) := by decide +kernel
theorem d_AckBookModel_outs_8 : decode c_AckBookModel_outs 8 = .ok (.getfield 7, 3) := by decide +kernel
theorem d_AckBookModel_outs_11 : decode c_AckBookModel_outs 11 = .ok (.iload_n 1, 1) := by decide +kernel
theorem d_AckBookModel_outs_12 : decode c_AckBookModel_outs 12 = .ok (.iaload, 1) := by decide +kernel
theorem d_AckBookModel_outs_13 : decode c_AckBookModel_outs 13 = .ok (.if_icmp .ge (47), 3) := by decide +kernel
theorem d_AckBookModel_outs_60 : decode c_AckBookModel_outs 60 = .ok (.iload_n 3, 1) := by decide +kernel
theorem d_AckBookModel_outs_61 : decode c_AckBookModel_outs 61 = .ok (.ireturn, 1) := by decide +kernel
theorem d_AckBookModel_outs_16 : decode c_AckBookModel_outs 16 = .ok (.iload_n 3, 1) := by decide +kernel
theorem d_AckBookModel_outs_17 : decode c_AckBookModel_outs 17 = .ok (.aload_n 0, 1) := by decide +kernel
theorem d_AckBookModel_outs_18 : decode c_AckBookModel_outs 18 = .ok (.iload_n 1, 1) := by decide +kernel
theorem d_AckBookModel_outs_19 : decode c_AckBookModel_outs 19 = .ok (.iload 4, 2) := by decide +kernel
theorem d_AckBookModel_outs_21 : decode c_AckBookModel_outs 21 = .ok (.invokevirtual 106, 3) := by decide +kernel
theorem d_AckBookModel_outs_24 : decode c_AckBookModel_outs 24 = .ok (.ifCond .eq (27), 3) := by decide +kernel
theorem d_AckBookModel_outs_51 : decode c_AckBookModel_outs 51 = .ok (.iconst (0), 1) := by decide +kernel
theorem d_AckBookModel_outs_27 : decode c_AckBookModel_outs 27 = .ok (.iload_n 2, 1) := by decide +kernel
theorem d_AckBookModel_outs_28 : decode c_AckBookModel_outs 28 = .ok (.ifCond .ne (19), 3) := by decide +kernel
theorem d_AckBookModel_outs_31 : decode c_AckBookModel_outs 31 = .ok (.aload_n 0, 1) := by decide +kernel
theorem d_AckBookModel_outs_32 : decode c_AckBookModel_outs 32 = .ok (.getfield 22, 3) := by decide +kernel
theorem d_AckBookModel_outs_35 : decode c_AckBookModel_outs 35 = .ok (.sipush (4096), 3) := by decide +kernel
theorem d_AckBookModel_outs_38 : decode c_AckBookModel_outs 38 = .ok (.iload_n 1, 1) := by decide +kernel
theorem d_AckBookModel_outs_39 : decode c_AckBookModel_outs 39 = .ok (.imul, 1) := by decide +kernel
theorem d_AckBookModel_outs_40 : decode c_AckBookModel_outs 40 = .ok (.iload 4, 2) := by decide +kernel
theorem d_AckBookModel_outs_42 : decode c_AckBookModel_outs 42 = .ok (.iadd, 1) := by decide +kernel
theorem d_AckBookModel_outs_43 : decode c_AckBookModel_outs 43 = .ok (.baload, 1) := by decide +kernel
theorem d_AckBookModel_outs_44 : decode c_AckBookModel_outs 44 = .ok (.ifCond .eq (7), 3) := by decide +kernel
theorem d_AckBookModel_outs_0 : decode c_AckBookModel_outs 0 = .ok (.iconst (0), 1) := by decide +kernel
theorem d_AckBookModel_outs_1 : decode c_AckBookModel_outs 1 = .ok (.istore_n 3, 1) := by decide +kernel
theorem d_AckBookModel_outs_2 : decode c_AckBookModel_outs 2 = .ok (.iconst (0), 1) := by decide +kernel
theorem d_AckBookModel_outs_3 : decode c_AckBookModel_outs 3 = .ok (.istore 4, 2) := by decide +kernel
theorem d_AckBookModel_patience_0 : decode c_AckBookModel_patience 0 = .ok (.aload_n 0, 1) := by decide +kernel
theorem d_AckBookModel_patience_1 : decode c_AckBookModel_patience 1 = .ok (.getfield 50, 3) := by decide +kernel
theorem d_AckBookModel_patience_4 : decode c_AckBookModel_patience 4 = .ok (.bipush (8), 2) := by decide +kernel
theorem d_AckBookModel_patience_6 : decode c_AckBookModel_patience 6 = .ok (.idiv, 1) := by decide +kernel
theorem d_AckBookModel_patience_7 : decode c_AckBookModel_patience 7 = .ok (.aload_n 0, 1) := by decide +kernel
theorem d_AckBookModel_patience_8 : decode c_AckBookModel_patience 8 = .ok (.getfield 54, 3) := by decide +kernel
theorem d_AckBookModel_patience_11 : decode c_AckBookModel_patience 11 = .ok (.iconst (1), 1) := by decide +kernel
theorem d_AckBookModel_patience_12 : decode c_AckBookModel_patience 12 = .ok (.invokestatic 110, 3) := by decide +kernel
theorem d_AckBookModel_patience_15 : decode c_AckBookModel_patience 15 = .ok (.iadd, 1) := by decide +kernel
theorem d_AckBookModel_patience_16 : decode c_AckBookModel_patience 16 = .ok (.iload_n 1, 1) := by decide +kernel
theorem d_AckBookModel_patience_17 : decode c_AckBookModel_patience 17 = .ok (.iconst (2), 1) := by decide +kernel
theorem d_AckBookModel_patience_18 : decode c_AckBookModel_patience 18 = .ok (.if_icmp .ne (15), 3) := by decide +kernel
theorem d_AckBookModel_patience_21 : decode c_AckBookModel_patience 21 = .ok (.aload_n 0, 1) := by decide +kernel
