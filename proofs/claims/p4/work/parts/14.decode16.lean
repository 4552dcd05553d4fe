theorem d_AckBook_Arrivals_enter_105 : decode c_AckBook_Arrivals_enter 105 = .ok (.ireturn, 1) := by decide +kernel
theorem d_AckBook_Arrivals_enter_98 : decode c_AckBook_Arrivals_enter 98 = .ok (.aload_n 0, 1) := by decide +kernel
theorem d_AckBook_Arrivals_enter_99 : decode c_AckBook_Arrivals_enter 99 = .ok (.iload 4, 2) := by decide +kernel
theorem d_AckBook_Arrivals_enter_101 : decode c_AckBook_Arrivals_enter 101 = .ok (.putfield 40, 3) := by decide +kernel
theorem d_AckBook_Arrivals_enter_86 : decode c_AckBook_Arrivals_enter 86 = .ok (.iload 4, 2) := by decide +kernel
theorem d_AckBook_Arrivals_enter_88 : decode c_AckBook_Arrivals_enter 88 = .ok (.invokevirtual 36, 3) := by decide +kernel
theorem d_AckBook_Arrivals_enter_58 : decode c_AckBook_Arrivals_enter 58 = .ok (.lstore 6, 2) := by decide +kernel
theorem d_AckBook_Arrivals_enter_60 : decode c_AckBook_Arrivals_enter 60 = .ok (.aload_n 0, 1) := by decide +kernel
theorem d_AckBook_Arrivals_enter_61 : decode c_AckBook_Arrivals_enter 61 = .ok (.lload_n 1, 1) := by decide +kernel
theorem d_AckBook_Arrivals_enter_62 : decode c_AckBook_Arrivals_enter 62 = .ok (.iload 5, 2) := by decide +kernel
theorem d_AckBook_Arrivals_enter_64 : decode c_AckBook_Arrivals_enter 64 = .ok (.invokevirtual 32, 3) := by decide +kernel
theorem d_AckBook_Arrivals_enter_67 : decode c_AckBook_Arrivals_enter 67 = .ok (.iload_n 3, 1) := by decide +kernel
theorem d_AckBook_Arrivals_enter_68 : decode c_AckBook_Arrivals_enter 68 = .ok (.ifCond .eq (23), 3) := by decide +kernel
theorem d_AckBook_Arrivals_enter_71 : decode c_AckBook_Arrivals_enter 71 = .ok (.aload_n 0, 1) := by decide +kernel
theorem d_AckBook_Arrivals_enter_72 : decode c_AckBook_Arrivals_enter 72 = .ok (.lload_n 1, 1) := by decide +kernel
theorem d_AckBook_Arrivals_enter_73 : decode c_AckBook_Arrivals_enter 73 = .ok (.lload 6, 2) := by decide +kernel
theorem d_AckBook_Arrivals_enter_75 : decode c_AckBook_Arrivals_enter 75 = .ok (.lconst 1, 1) := by decide +kernel
theorem d_AckBook_Arrivals_enter_76 : decode c_AckBook_Arrivals_enter 76 = .ok (.ladd, 1) := by decide +kernel
theorem d_AckBook_Arrivals_enter_77 : decode c_AckBook_Arrivals_enter 77 = .ok (.lcmp, 1) := by decide +kernel
theorem d_AckBook_Arrivals_enter_78 : decode c_AckBook_Arrivals_enter 78 = .ok (.ifCond .eq (7), 3) := by decide +kernel
theorem d_AckBook_Arrivals_enter_85 : decode c_AckBook_Arrivals_enter 85 = .ok (.iconst (0), 1) := by decide +kernel
theorem d_AckBook_Arrivals_enter_81 : decode c_AckBook_Arrivals_enter 81 = .ok (.iconst (1), 1) := by decide +kernel
theorem d_AckBook_Arrivals_enter_82 : decode c_AckBook_Arrivals_enter 82 = .ok (.goto (4), 3) := by decide +kernel
theorem d_AckBook_Arrivals_enter_39 : decode c_AckBook_Arrivals_enter 39 = .ok (.aload_n 0, 1) := by decide +kernel
theorem d_AckBook_Arrivals_enter_40 : decode c_AckBook_Arrivals_enter 40 = .ok (.getfield 26, 3) := by decide +kernel
theorem d_AckBook_Arrivals_enter_43 : decode c_AckBook_Arrivals_enter 43 = .ok (.ifCond .ne (9), 3) := by decide +kernel
theorem d_AckBook_Arrivals_enter_46 : decode c_AckBook_Arrivals_enter 46 = .ok (.ldc2_w 30, 3) := by decide +kernel
theorem d_AckBook_Arrivals_enter_49 : decode c_AckBook_Arrivals_enter 49 = .ok (.goto (9), 3) := by decide +kernel
theorem d_AckBook_Arrivals_enter_52 : decode c_AckBook_Arrivals_enter 52 = .ok (.aload_n 0, 1) := by decide +kernel
theorem d_AckBook_Arrivals_enter_53 : decode c_AckBook_Arrivals_enter 53 = .ok (.getfield 15, 3) := by decide +kernel
theorem d_AckBook_Arrivals_enter_56 : decode c_AckBook_Arrivals_enter 56 = .ok (.iconst (0), 1) := by decide +kernel
theorem d_AckBook_Arrivals_enter_57 : decode c_AckBook_Arrivals_enter 57 = .ok (.laload, 1) := by decide +kernel
theorem d_AckBook_Arrivals_enter_0 : decode c_AckBook_Arrivals_enter 0 = .ok (.aload_n 0, 1) := by decide +kernel
theorem d_AckBook_Arrivals_enter_1 : decode c_AckBook_Arrivals_enter 1 = .ok (.lload_n 1, 1) := by decide +kernel
theorem d_AckBook_Arrivals_enter_2 : decode c_AckBook_Arrivals_enter 2 = .ok (.invokevirtual 18, 3) := by decide +kernel
theorem d_AckBook_Arrivals_enter_5 : decode c_AckBook_Arrivals_enter 5 = .ok (.istore 5, 2) := by decide +kernel
theorem d_AckBook_Arrivals_enter_7 : decode c_AckBook_Arrivals_enter 7 = .ok (.lload_n 1, 1) := by decide +kernel
theorem d_AckBook_Arrivals_enter_8 : decode c_AckBook_Arrivals_enter 8 = .ok (.aload_n 0, 1) := by decide +kernel
theorem d_AckBook_Arrivals_enter_9 : decode c_AckBook_Arrivals_enter 9 = .ok (.getfield 22, 3) := by decide +kernel
theorem d_AckBook_Arrivals_enter_12 : decode c_AckBook_Arrivals_enter 12 = .ok (.lcmp, 1) := by decide +kernel
theorem d_AckBook_Arrivals_enter_13 : decode c_AckBook_Arrivals_enter 13 = .ok (.ifCond .lt (24), 3) := by decide +kernel
theorem d_AckBook_Arrivals_enter_37 : decode c_AckBook_Arrivals_enter 37 = .ok (.iconst (0), 1) := by decide +kernel
theorem d_AckBook_Arrivals_enter_38 : decode c_AckBook_Arrivals_enter 38 = .ok (.ireturn, 1) := by decide +kernel
theorem d_AckBook_Arrivals_enter_16 : decode c_AckBook_Arrivals_enter 16 = .ok (.iload 5, 2) := by decide +kernel
theorem d_AckBook_Arrivals_enter_18 : decode c_AckBook_Arrivals_enter 18 = .ok (.aload_n 0, 1) := by decide +kernel
theorem d_AckBook_Arrivals_enter_19 : decode c_AckBook_Arrivals_enter 19 = .ok (.getfield 26, 3) := by decide +kernel
theorem d_AckBook_Arrivals_enter_22 : decode c_AckBook_Arrivals_enter 22 = .ok (.if_icmp .ge (17), 3) := by decide +kernel
theorem d_AckBook_Arrivals_enter_25 : decode c_AckBook_Arrivals_enter 25 = .ok (.lload_n 1, 1) := by decide +kernel
theorem d_AckBook_Arrivals_enter_26 : decode c_AckBook_Arrivals_enter 26 = .ok (.aload_n 0, 1) := by decide +kernel
theorem d_AckBook_Arrivals_enter_27 : decode c_AckBook_Arrivals_enter 27 = .ok (.getfield 15, 3) := by decide +kernel
theorem d_AckBook_Arrivals_enter_30 : decode c_AckBook_Arrivals_enter 30 = .ok (.iload 5, 2) := by decide +kernel
theorem d_AckBook_Arrivals_enter_32 : decode c_AckBook_Arrivals_enter 32 = .ok (.laload, 1) := by decide +kernel
theorem d_AckBook_Arrivals_enter_33 : decode c_AckBook_Arrivals_enter 33 = .ok (.lcmp, 1) := by decide +kernel
theorem d_AckBook_Arrivals_enter_34 : decode c_AckBook_Arrivals_enter 34 = .ok (.ifCond .gt (5), 3) := by decide +kernel
theorem d_AckBook_came_0 : decode c_AckBook_came 0 = .ok (.aload_n 0, 1) := by decide +kernel
theorem d_AckBook_came_1 : decode c_AckBook_came 1 = .ok (.iload_n 1, 1) := by decide +kernel
theorem d_AckBook_came_2 : decode c_AckBook_came 2 = .ok (.invokevirtual 39, 3) := by decide +kernel
theorem d_AckBook_came_5 : decode c_AckBook_came 5 = .ok (.astore 5, 2) := by decide +kernel
theorem d_AckBook_came_7 : decode c_AckBook_came 7 = .ok (.lload_n 2, 1) := by decide +kernel
theorem d_AckBook_came_8 : decode c_AckBook_came 8 = .ok (.lconst 0, 1) := by decide +kernel
theorem d_AckBook_came_9 : decode c_AckBook_came 9 = .ok (.lcmp, 1) := by decide +kernel
theorem d_AckBook_came_10 : decode c_AckBook_came 10 = .ok (.ifCond .lt (11), 3) := by decide +kernel
theorem d_AckBook_came_21 : decode c_AckBook_came 21 = .ok (.new 43, 3) := by decide +kernel
theorem d_AckBook_came_24 : decode c_AckBook_came 24 = .ok (.dup, 1) := by decide +kernel
theorem d_AckBook_came_25 : decode c_AckBook_came 25 = .ok (.ldc 188, 2) := by decide +kernel
theorem d_AckBook_came_27 : decode c_AckBook_came 27 = .ok (.invokespecial 47, 3) := by decide +kernel
theorem d_AckBook_came_30 : decode c_AckBook_came 30 = .ok (.athrow, 1) := by decide +kernel
theorem d_AckBook_came_13 : decode c_AckBook_came 13 = .ok (.lload_n 2, 1) := by decide +kernel
theorem d_AckBook_came_14 : decode c_AckBook_came 14 = .ok (.ldc2_w 186, 3) := by decide +kernel
theorem d_AckBook_came_17 : decode c_AckBook_came 17 = .ok (.lcmp, 1) := by decide +kernel
theorem d_AckBook_came_18 : decode c_AckBook_came 18 = .ok (.ifCond .le (13), 3) := by decide +kernel
theorem d_AckBook_came_31 : decode c_AckBook_came 31 = .ok (.aload 5, 2) := by decide +kernel
theorem d_AckBook_came_33 : decode c_AckBook_came 33 = .ok (.invokestatic 52, 3) := by decide +kernel
theorem d_AckBook_came_36 : decode c_AckBook_came 36 = .ok (.aload 5, 2) := by decide +kernel
theorem d_AckBook_came_38 : decode c_AckBook_came 38 = .ok (.getfield 157, 3) := by decide +kernel
theorem d_AckBook_came_41 : decode c_AckBook_came 41 = .ok (.lload_n 2, 1) := by decide +kernel
theorem d_AckBook_came_42 : decode c_AckBook_came 42 = .ok (.iload 4, 2) := by decide +kernel
theorem d_AckBook_came_44 : decode c_AckBook_came 44 = .ok (.aload_n 0, 1) := by decide +kernel
theorem d_AckBook_came_45 : decode c_AckBook_came 45 = .ok (.getfield 73, 3) := by decide +kernel
theorem d_AckBook_came_48 : decode c_AckBook_came 48 = .ok (.invokevirtual 190, 3) := by decide +kernel
theorem d_AckBook_came_51 : decode c_AckBook_came 51 = .ok (.ireturn, 1) := by decide +kernel
theorem d_AckBookLaw_came_0 : decode c_AckBookLaw_came 0 = .ok (.aload 5, 2) := by decide +kernel
theorem d_AckBookLaw_came_2 : decode c_AckBookLaw_came 2 = .ok (.iconst (0), 1) := by decide +kernel
theorem d_AckBookLaw_came_3 : decode c_AckBookLaw_came 3 = .ok (.aload_n 0, 1) := by decide +kernel
theorem d_AckBookLaw_came_4 : decode c_AckBookLaw_came 4 = .ok (.iload_n 1, 1) := by decide +kernel
theorem d_AckBookLaw_came_5 : decode c_AckBookLaw_came 5 = .ok (.lload_n 2, 1) := by decide +kernel
theorem d_AckBookLaw_came_6 : decode c_AckBookLaw_came 6 = .ok (.iload 4, 2) := by decide +kernel
theorem d_AckBookLaw_came_8 : decode c_AckBookLaw_came 8 = .ok (.invokevirtual 36, 3) := by decide +kernel
theorem d_AckBookLaw_came_11 : decode c_AckBookLaw_came 11 = .ok (.ifCond .eq (7), 3) := by decide +kernel
theorem d_AckBookLaw_came_18 : decode c_AckBookLaw_came 18 = .ok (.lconst 0, 1) := by decide +kernel
theorem d_AckBookLaw_came_19 : decode c_AckBookLaw_came 19 = .ok (.lastore, 1) := by decide +kernel
theorem d_AckBookLaw_came_20 : decode c_AckBookLaw_came 20 = .ok (.goto (11), 3) := by decide +kernel
theorem d_AckBookLaw_came_31 : decode c_AckBookLaw_came 31 = .ok (.iconst (0), 1) := by decide +kernel
theorem d_AckBookLaw_came_32 : decode c_AckBookLaw_came 32 = .ok (.ireturn, 1) := by decide +kernel
theorem d_AckBookLaw_came_14 : decode c_AckBookLaw_came 14 = .ok (.lconst 1, 1) := by decide +kernel
theorem d_AckBookLaw_came_15 : decode c_AckBookLaw_came 15 = .ok (.goto (4), 3) := by decide +kernel
theorem d_AckBookLaw_came_23 : decode c_AckBookLaw_came 23 = .ok (.astore 6, 2) := by decide +kernel
theorem d_AckBookLaw_came_25 : decode c_AckBookLaw_came 25 = .ok (.iconst (1), 1) := by decide +kernel
theorem d_AckBookLaw_came_26 : decode c_AckBookLaw_came 26 = .ok (.ireturn, 1) := by decide +kernel
theorem d_AckBookLaw_came_27 : decode c_AckBookLaw_came 27 = .ok (.astore 6, 2) := by decide +kernel
theorem d_AckBookLaw_came_29 : decode c_AckBookLaw_came 29 = .ok (.iconst (2), 1) := by decide +kernel
theorem d_AckBookLaw_came_30 : decode c_AckBookLaw_came 30 = .ok (.ireturn, 1) := by decide +kernel
theorem d_AckBook_Arrivals_isPressing_0 : decode c_AckBook_Arrivals_isPressing 0 = .ok (.aload_n 0, 1) := by decide +kernel
theorem d_AckBook_Arrivals_isPressing_1 : decode c_AckBook_Arrivals_isPressing 1 = .ok (.getfield 50, 3) := by decide +kernel
theorem d_AckBook_Arrivals_isPressing_4 : decode c_AckBook_Arrivals_isPressing 4 = .ok (.ifCond .ne (5), 3) := by decide +kernel
theorem d_AckBook_Arrivals_isPressing_7 : decode c_AckBook_Arrivals_isPressing 7 = .ok (.iconst (0), 1) := by decide +kernel
theorem d_AckBook_Arrivals_isPressing_8 : decode c_AckBook_Arrivals_isPressing 8 = .ok (.ireturn, 1) := by decide +kernel
theorem d_AckBook_Arrivals_isPressing_9 : decode c_AckBook_Arrivals_isPressing 9 = .ok (.aload_n 0, 1) := by decide +kernel
theorem d_AckBook_Arrivals_isPressing_10 : decode c_AckBook_Arrivals_isPressing 10 = .ok (.getfield 50, 3) := by decide +kernel
theorem d_AckBook_Arrivals_isPressing_13 : decode c_AckBook_Arrivals_isPressing 13 = .ok (.iconst (2), 1) := by decide +kernel
theorem d_AckBook_Arrivals_isPressing_14 : decode c_AckBook_Arrivals_isPressing 14 = .ok (.if_icmp .ge (21), 3) := by decide +kernel
theorem d_AckBook_Arrivals_isPressing_35 : decode c_AckBook_Arrivals_isPressing 35 = .ok (.iconst (1), 1) := by decide +kernel
theorem d_AckBook_Arrivals_isPressing_36 : decode c_AckBook_Arrivals_isPressing 36 = .ok (.goto (4), 3) := by decide +kernel
theorem d_AckBook_Arrivals_isPressing_40 : decode c_AckBook_Arrivals_isPressing 40 = .ok (.ireturn, 1) := by decide +kernel
theorem d_AckBook_Arrivals_isPressing_17 : decode c_AckBook_Arrivals_isPressing 17 = .ok (.aload_n 0, 1) := by decide +kernel
theorem d_AckBook_Arrivals_isPressing_18 : decode c_AckBook_Arrivals_isPressing 18 = .ok (.getfield 56, 3) := by decide +kernel
theorem d_AckBook_Arrivals_isPressing_21 : decode c_AckBook_Arrivals_isPressing 21 = .ok (.ifCond .ne (14), 3) := by decide +kernel
theorem d_AckBook_Arrivals_isPressing_24 : decode c_AckBook_Arrivals_isPressing 24 = .ok (.iload_n 1, 1) := by decide +kernel
theorem d_AckBook_Arrivals_isPressing_25 : decode c_AckBook_Arrivals_isPressing 25 = .ok (.aload_n 0, 1) := by decide +kernel
theorem d_AckBook_Arrivals_isPressing_26 : decode c_AckBook_Arrivals_isPressing 26 = .ok (.getfield 53, 3) := by decide +kernel
