theorem d_AckBookModel_next_13 : decode c_AckBookModel_next 13 = .ok (.ireturn, 1) := by decide +kernel
theorem d_AckBookModel_state_0 : decode c_AckBookModel_state 0 = .ok (.aload_n 0, 1) := by decide +kernel
theorem d_AckBookModel_state_1 : decode c_AckBookModel_state 1 = .ok (.iload_n 1, 1) := by decide +kernel
theorem d_AckBookModel_state_2 : decode c_AckBookModel_state 2 = .ok (.invokestatic 142, 3) := by decide +kernel
theorem d_AckBookModel_state_5 : decode c_AckBookModel_state 5 = .ok (.iconst (1), 1) := by decide +kernel
theorem d_AckBookModel_state_6 : decode c_AckBookModel_state 6 = .ok (.invokevirtual 146, 3) := by decide +kernel
theorem d_AckBookModel_state_9 : decode c_AckBookModel_state 9 = .ok (.ifCond .eq (5), 3) := by decide +kernel
theorem d_AckBookModel_state_14 : decode c_AckBookModel_state 14 = .ok (.iload_n 2, 1) := by decide +kernel
theorem d_AckBookModel_state_15 : decode c_AckBookModel_state 15 = .ok (.ifCond .lt (13), 3) := by decide +kernel
theorem d_AckBookModel_state_28 : decode c_AckBookModel_state 28 = .ok (.iconst (-1), 1) := by decide +kernel
theorem d_AckBookModel_state_29 : decode c_AckBookModel_state 29 = .ok (.goto (28), 3) := by decide +kernel
theorem d_AckBookModel_state_57 : decode c_AckBookModel_state 57 = .ok (.ireturn, 1) := by decide +kernel
theorem d_AckBookModel_state_18 : decode c_AckBookModel_state 18 = .ok (.iload_n 2, 1) := by decide +kernel
theorem d_AckBookModel_state_19 : decode c_AckBookModel_state 19 = .ok (.aload_n 0, 1) := by decide +kernel
theorem d_AckBookModel_state_20 : decode c_AckBookModel_state 20 = .ok (.getfield 7, 3) := by decide +kernel
theorem d_AckBookModel_state_23 : decode c_AckBookModel_state 23 = .ok (.iload_n 1, 1) := by decide +kernel
theorem d_AckBookModel_state_24 : decode c_AckBookModel_state 24 = .ok (.iaload, 1) := by decide +kernel
theorem d_AckBookModel_state_25 : decode c_AckBookModel_state 25 = .ok (.if_icmp .lt (7), 3) := by decide +kernel
theorem d_AckBookModel_state_32 : decode c_AckBookModel_state 32 = .ok (.aload_n 0, 1) := by decide +kernel
theorem d_AckBookModel_state_33 : decode c_AckBookModel_state 33 = .ok (.getfield 32, 3) := by decide +kernel
theorem d_AckBookModel_state_36 : decode c_AckBookModel_state 36 = .ok (.iload_n 1, 1) := by decide +kernel
theorem d_AckBookModel_state_37 : decode c_AckBookModel_state 37 = .ok (.baload, 1) := by decide +kernel
theorem d_AckBookModel_state_38 : decode c_AckBookModel_state 38 = .ok (.ifCond .eq (7), 3) := by decide +kernel
theorem d_AckBookModel_state_45 : decode c_AckBookModel_state 45 = .ok (.aload_n 0, 1) := by decide +kernel
theorem d_AckBookModel_state_46 : decode c_AckBookModel_state 46 = .ok (.getfield 19, 3) := by decide +kernel
theorem d_AckBookModel_state_49 : decode c_AckBookModel_state 49 = .ok (.sipush (4096), 3) := by decide +kernel
theorem d_AckBookModel_state_52 : decode c_AckBookModel_state 52 = .ok (.iload_n 1, 1) := by decide +kernel
theorem d_AckBookModel_state_53 : decode c_AckBookModel_state 53 = .ok (.imul, 1) := by decide +kernel
theorem d_AckBookModel_state_54 : decode c_AckBookModel_state 54 = .ok (.iload_n 2, 1) := by decide +kernel
theorem d_AckBookModel_state_55 : decode c_AckBookModel_state 55 = .ok (.iadd, 1) := by decide +kernel
theorem d_AckBookModel_state_56 : decode c_AckBookModel_state 56 = .ok (.iaload, 1) := by decide +kernel
theorem d_AckBookModel_state_41 : decode c_AckBookModel_state 41 = .ok (.iconst (3), 1) := by decide +kernel
theorem d_AckBookModel_state_42 : decode c_AckBookModel_state 42 = .ok (.goto (15), 3) := by decide +kernel
theorem d_AckBookModel_state_12 : decode c_AckBookModel_state 12 = .ok (.iconst (0), 1) := by decide +kernel
theorem d_AckBookModel_state_13 : decode c_AckBookModel_state 13 = .ok (.ireturn, 1) := by decide +kernel
theorem d_AckBookModel_isOld_24 : decode c_AckBookModel_isOld 24 = .ok (.iload 5, 2) := by decide +kernel
theorem d_AckBookModel_isOld_26 : decode c_AckBookModel_isOld 26 = .ok (.bipush (65), 2) := by decide +kernel
theorem d_AckBookModel_isOld_28 : decode c_AckBookModel_isOld 28 = .ok (.iload_n 1, 1) := by decide +kernel
theorem d_AckBookModel_isOld_29 : decode c_AckBookModel_isOld 29 = .ok (.imul, 1) := by decide +kernel
theorem d_AckBookModel_isOld_30 : decode c_AckBookModel_isOld 30 = .ok (.aload_n 0, 1) := by decide +kernel
theorem d_AckBookModel_isOld_31 : decode c_AckBookModel_isOld 31 = .ok (.getfield 79, 3) := by decide +kernel
theorem d_AckBookModel_isOld_34 : decode c_AckBookModel_isOld 34 = .ok (.iload_n 1, 1) := by decide +kernel
theorem d_AckBookModel_isOld_35 : decode c_AckBookModel_isOld 35 = .ok (.iaload, 1) := by decide +kernel
theorem d_AckBookModel_isOld_36 : decode c_AckBookModel_isOld 36 = .ok (.iadd, 1) := by decide +kernel
theorem d_AckBookModel_isOld_37 : decode c_AckBookModel_isOld 37 = .ok (.if_icmp .ge (45), 3) := by decide +kernel
theorem d_AckBookModel_isOld_82 : decode c_AckBookModel_isOld 82 = .ok (.iload 4, 2) := by decide +kernel
theorem d_AckBookModel_isOld_84 : decode c_AckBookModel_isOld 84 = .ok (.ireturn, 1) := by decide +kernel
theorem d_AckBookModel_isOld_40 : decode c_AckBookModel_isOld 40 = .ok (.iload 4, 2) := by decide +kernel
theorem d_AckBookModel_isOld_42 : decode c_AckBookModel_isOld 42 = .ok (.ifCond .ne (27), 3) := by decide +kernel
theorem d_AckBookModel_isOld_45 : decode c_AckBookModel_isOld 45 = .ok (.lload_n 2, 1) := by decide +kernel
theorem d_AckBookModel_isOld_46 : decode c_AckBookModel_isOld 46 = .ok (.aload_n 0, 1) := by decide +kernel
theorem d_AckBookModel_isOld_47 : decode c_AckBookModel_isOld 47 = .ok (.getfield 82, 3) := by decide +kernel
theorem d_AckBookModel_isOld_50 : decode c_AckBookModel_isOld 50 = .ok (.iload 5, 2) := by decide +kernel
theorem d_AckBookModel_isOld_52 : decode c_AckBookModel_isOld 52 = .ok (.laload, 1) := by decide +kernel
theorem d_AckBookModel_isOld_53 : decode c_AckBookModel_isOld 53 = .ok (.lcmp, 1) := by decide +kernel
theorem d_AckBookModel_isOld_54 : decode c_AckBookModel_isOld 54 = .ok (.ifCond .lt (19), 3) := by decide +kernel
theorem d_AckBookModel_isOld_73 : decode c_AckBookModel_isOld 73 = .ok (.iconst (0), 1) := by decide +kernel
theorem d_AckBookModel_isOld_74 : decode c_AckBookModel_isOld 74 = .ok (.istore 4, 2) := by decide +kernel
theorem d_AckBookModel_isOld_76 : decode c_AckBookModel_isOld 76 = .ok (.iinc 5 (1), 3) := by decide +kernel
theorem d_AckBookModel_isOld_79 : decode c_AckBookModel_isOld 79 = .ok (.goto (-55), 3) := by decide +kernel
theorem d_AckBookModel_isOld_57 : decode c_AckBookModel_isOld 57 = .ok (.lload_n 2, 1) := by decide +kernel
theorem d_AckBookModel_isOld_58 : decode c_AckBookModel_isOld 58 = .ok (.aload_n 0, 1) := by decide +kernel
theorem d_AckBookModel_isOld_59 : decode c_AckBookModel_isOld 59 = .ok (.getfield 85, 3) := by decide +kernel
theorem d_AckBookModel_isOld_62 : decode c_AckBookModel_isOld 62 = .ok (.iload 5, 2) := by decide +kernel
theorem d_AckBookModel_isOld_64 : decode c_AckBookModel_isOld 64 = .ok (.laload, 1) := by decide +kernel
theorem d_AckBookModel_isOld_65 : decode c_AckBookModel_isOld 65 = .ok (.lcmp, 1) := by decide +kernel
theorem d_AckBookModel_isOld_66 : decode c_AckBookModel_isOld 66 = .ok (.ifCond .gt (7), 3) := by decide +kernel
theorem d_AckBookModel_isOld_69 : decode c_AckBookModel_isOld 69 = .ok (.iconst (1), 1) := by decide +kernel
theorem d_AckBookModel_isOld_70 : decode c_AckBookModel_isOld 70 = .ok (.goto (4), 3) := by decide +kernel
theorem d_AckBookModel_isOld_0 : decode c_AckBookModel_isOld 0 = .ok (.lload_n 2, 1) := by decide +kernel
theorem d_AckBookModel_isOld_1 : decode c_AckBookModel_isOld 1 = .ok (.aload_n 0, 1) := by decide +kernel
theorem d_AckBookModel_isOld_2 : decode c_AckBookModel_isOld 2 = .ok (.getfield 88, 3) := by decide +kernel
theorem d_AckBookModel_isOld_5 : decode c_AckBookModel_isOld 5 = .ok (.iload_n 1, 1) := by decide +kernel
theorem d_AckBookModel_isOld_6 : decode c_AckBookModel_isOld 6 = .ok (.laload, 1) := by decide +kernel
theorem d_AckBookModel_isOld_7 : decode c_AckBookModel_isOld 7 = .ok (.lcmp, 1) := by decide +kernel
theorem d_AckBookModel_isOld_8 : decode c_AckBookModel_isOld 8 = .ok (.ifCond .ge (7), 3) := by decide +kernel
theorem d_AckBookModel_isOld_15 : decode c_AckBookModel_isOld 15 = .ok (.iconst (0), 1) := by decide +kernel
theorem d_AckBookModel_isOld_16 : decode c_AckBookModel_isOld 16 = .ok (.istore 4, 2) := by decide +kernel
theorem d_AckBookModel_isOld_18 : decode c_AckBookModel_isOld 18 = .ok (.bipush (65), 2) := by decide +kernel
theorem d_AckBookModel_isOld_20 : decode c_AckBookModel_isOld 20 = .ok (.iload_n 1, 1) := by decide +kernel
theorem d_AckBookModel_isOld_21 : decode c_AckBookModel_isOld 21 = .ok (.imul, 1) := by decide +kernel
theorem d_AckBookModel_isOld_22 : decode c_AckBookModel_isOld 22 = .ok (.istore 5, 2) := by decide +kernel
theorem d_AckBookModel_isOld_11 : decode c_AckBookModel_isOld 11 = .ok (.iconst (1), 1) := by decide +kernel
theorem d_AckBookModel_isOld_12 : decode c_AckBookModel_isOld 12 = .ok (.goto (4), 3) := by decide +kernel
theorem d_AckBookModel_greatest_0 : decode c_AckBookModel_greatest 0 = .ok (.aload_n 0, 1) := by decide +kernel
theorem d_AckBookModel_greatest_1 : decode c_AckBookModel_greatest 1 = .ok (.getfield 79, 3) := by decide +kernel
theorem d_AckBookModel_greatest_4 : decode c_AckBookModel_greatest 4 = .ok (.iload_n 1, 1) := by decide +kernel
theorem d_AckBookModel_greatest_5 : decode c_AckBookModel_greatest 5 = .ok (.iaload, 1) := by decide +kernel
theorem d_AckBookModel_greatest_6 : decode c_AckBookModel_greatest 6 = .ok (.ifCond .ne (9), 3) := by decide +kernel
theorem d_AckBookModel_greatest_9 : decode c_AckBookModel_greatest 9 = .ok (.ldc2_w 195, 3) := by decide +kernel
theorem d_AckBookModel_greatest_12 : decode c_AckBookModel_greatest 12 = .ok (.goto (21), 3) := by decide +kernel
theorem d_AckBookModel_greatest_33 : decode c_AckBookModel_greatest 33 = .ok (.lreturn, 1) := by decide +kernel
theorem d_AckBookModel_greatest_15 : decode c_AckBookModel_greatest 15 = .ok (.aload_n 0, 1) := by decide +kernel
theorem d_AckBookModel_greatest_16 : decode c_AckBookModel_greatest 16 = .ok (.getfield 85, 3) := by decide +kernel
theorem d_AckBookModel_greatest_19 : decode c_AckBookModel_greatest 19 = .ok (.bipush (65), 2) := by decide +kernel
theorem d_AckBookModel_greatest_21 : decode c_AckBookModel_greatest 21 = .ok (.iload_n 1, 1) := by decide +kernel
theorem d_AckBookModel_greatest_22 : decode c_AckBookModel_greatest 22 = .ok (.imul, 1) := by decide +kernel
theorem d_AckBookModel_greatest_23 : decode c_AckBookModel_greatest 23 = .ok (.aload_n 0, 1) := by decide +kernel
theorem d_AckBookModel_greatest_24 : decode c_AckBookModel_greatest 24 = .ok (.getfield 79, 3) := by decide +kernel
theorem d_AckBookModel_greatest_27 : decode c_AckBookModel_greatest 27 = .ok (.iload_n 1, 1) := by decide +kernel
theorem d_AckBookModel_greatest_28 : decode c_AckBookModel_greatest 28 = .ok (.iaload, 1) := by decide +kernel
theorem d_AckBookModel_greatest_29 : decode c_AckBookModel_greatest 29 = .ok (.iadd, 1) := by decide +kernel
theorem d_AckBookModel_greatest_30 : decode c_AckBookModel_greatest 30 = .ok (.iconst (1), 1) := by decide +kernel
theorem d_AckBookModel_greatest_31 : decode c_AckBookModel_greatest 31 = .ok (.isub, 1) := by decide +kernel
theorem d_AckBookModel_greatest_32 : decode c_AckBookModel_greatest 32 = .ok (.laload, 1) := by decide +kernel
theorem d_AckBookModel_takeOut_12 : decode c_AckBookModel_takeOut 12 = .ok (.iload_n 3, 1) := by decide +kernel
theorem d_AckBookModel_takeOut_13 : decode c_AckBookModel_takeOut 13 = .ok (.bipush (65), 2) := by decide +kernel
theorem d_AckBookModel_takeOut_15 : decode c_AckBookModel_takeOut 15 = .ok (.iload_n 1, 1) := by decide +kernel
theorem d_AckBookModel_takeOut_16 : decode c_AckBookModel_takeOut 16 = .ok (.imul, 1) := by decide +kernel
theorem d_AckBookModel_takeOut_17 : decode c_AckBookModel_takeOut 17 = .ok (.aload_n 0, 1) := by decide +kernel
theorem d_AckBookModel_takeOut_18 : decode c_AckBookModel_takeOut 18 = .ok (.getfield 79, 3) := by decide +kernel
theorem d_AckBookModel_takeOut_21 : decode c_AckBookModel_takeOut 21 = .ok (.iload_n 1, 1) := by decide +kernel
theorem d_AckBookModel_takeOut_22 : decode c_AckBookModel_takeOut 22 = .ok (.iaload, 1) := by decide +kernel
theorem d_AckBookModel_takeOut_23 : decode c_AckBookModel_takeOut 23 = .ok (.iadd, 1) := by decide +kernel
theorem d_AckBookModel_takeOut_24 : decode c_AckBookModel_takeOut 24 = .ok (.if_icmp .ge (37), 3) := by decide +kernel
theorem d_AckBookModel_takeOut_61 : decode c_AckBookModel_takeOut 61 = .ok (.return_, 1) := by decide +kernel
theorem d_AckBookModel_takeOut_27 : decode c_AckBookModel_takeOut 27 = .ok (.aload_n 0, 1) := by decide +kernel
theorem d_AckBookModel_takeOut_28 : decode c_AckBookModel_takeOut 28 = .ok (.getfield 82, 3) := by decide +kernel
theorem d_AckBookModel_takeOut_31 : decode c_AckBookModel_takeOut 31 = .ok (.iload_n 3, 1) := by decide +kernel
theorem d_AckBookModel_takeOut_32 : decode c_AckBookModel_takeOut 32 = .ok (.aload_n 0, 1) := by decide +kernel
