theorem d_AckBook_Arrivals_isPressing_29 : decode c_AckBook_Arrivals_isPressing 29 = .ok (.isub, 1) := by decide +kernel
theorem d_AckBook_Arrivals_isPressing_30 : decode c_AckBook_Arrivals_isPressing 30 = .ok (.bipush (25), 2) := by decide +kernel
theorem d_AckBook_Arrivals_isPressing_32 : decode c_AckBook_Arrivals_isPressing 32 = .ok (.if_icmp .lt (7), 3) := by decide +kernel
theorem d_AckBook_Arrivals_isPressing_39 : decode c_AckBook_Arrivals_isPressing 39 = .ok (.iconst (0), 1) := by decide +kernel
theorem d_AckBook_due_0 : decode c_AckBook_due 0 = .ok (.aload_n 0, 1) := by decide +kernel
theorem d_AckBook_due_1 : decode c_AckBook_due 1 = .ok (.iload_n 1, 1) := by decide +kernel
theorem d_AckBook_due_2 : decode c_AckBook_due 2 = .ok (.invokevirtual 39, 3) := by decide +kernel
theorem d_AckBook_due_5 : decode c_AckBook_due 5 = .ok (.astore_n 2, 1) := by decide +kernel
theorem d_AckBook_due_6 : decode c_AckBook_due 6 = .ok (.aload_n 2, 1) := by decide +kernel
theorem d_AckBook_due_7 : decode c_AckBook_due 7 = .ok (.getfield 146, 3) := by decide +kernel
theorem d_AckBook_due_10 : decode c_AckBook_due 10 = .ok (.iconst (2), 1) := by decide +kernel
theorem d_AckBook_due_11 : decode c_AckBook_due 11 = .ok (.if_icmp .ne (17), 3) := by decide +kernel
theorem d_AckBook_due_14 : decode c_AckBook_due 14 = .ok (.aload_n 2, 1) := by decide +kernel
theorem d_AckBook_due_15 : decode c_AckBook_due 15 = .ok (.getfield 157, 3) := by decide +kernel
theorem d_AckBook_due_18 : decode c_AckBook_due 18 = .ok (.aload_n 0, 1) := by decide +kernel
theorem d_AckBook_due_19 : decode c_AckBook_due 19 = .ok (.getfield 73, 3) := by decide +kernel
theorem d_AckBook_due_22 : decode c_AckBook_due 22 = .ok (.invokevirtual 193, 3) := by decide +kernel
theorem d_AckBook_due_25 : decode c_AckBook_due 25 = .ok (.goto (18), 3) := by decide +kernel
theorem d_AckBook_due_43 : decode c_AckBook_due 43 = .ok (.ireturn, 1) := by decide +kernel
theorem d_AckBook_due_28 : decode c_AckBook_due 28 = .ok (.aload_n 2, 1) := by decide +kernel
theorem d_AckBook_due_29 : decode c_AckBook_due 29 = .ok (.getfield 157, 3) := by decide +kernel
theorem d_AckBook_due_32 : decode c_AckBook_due 32 = .ok (.getfield 197, 3) := by decide +kernel
theorem d_AckBook_due_35 : decode c_AckBook_due 35 = .ok (.ifCond .le (7), 3) := by decide +kernel
theorem d_AckBook_due_42 : decode c_AckBook_due 42 = .ok (.iconst (0), 1) := by decide +kernel
theorem d_AckBook_due_38 : decode c_AckBook_due 38 = .ok (.iconst (1), 1) := by decide +kernel
theorem d_AckBook_due_39 : decode c_AckBook_due 39 = .ok (.goto (4), 3) := by decide +kernel
theorem d_AckBookLaw_due_0 : decode c_AckBookLaw_due 0 = .ok (.aload_n 2, 1) := by decide +kernel
theorem d_AckBookLaw_due_1 : decode c_AckBookLaw_due 1 = .ok (.iconst (0), 1) := by decide +kernel
theorem d_AckBookLaw_due_2 : decode c_AckBookLaw_due 2 = .ok (.aload_n 0, 1) := by decide +kernel
theorem d_AckBookLaw_due_3 : decode c_AckBookLaw_due 3 = .ok (.iload_n 1, 1) := by decide +kernel
theorem d_AckBookLaw_due_4 : decode c_AckBookLaw_due 4 = .ok (.invokevirtual 40, 3) := by decide +kernel
theorem d_AckBookLaw_due_7 : decode c_AckBookLaw_due 7 = .ok (.ifCond .eq (7), 3) := by decide +kernel
theorem d_AckBookLaw_due_14 : decode c_AckBookLaw_due 14 = .ok (.lconst 0, 1) := by decide +kernel
theorem d_AckBookLaw_due_15 : decode c_AckBookLaw_due 15 = .ok (.lastore, 1) := by decide +kernel
theorem d_AckBookLaw_due_16 : decode c_AckBookLaw_due 16 = .ok (.goto (6), 3) := by decide +kernel
theorem d_AckBookLaw_due_22 : decode c_AckBookLaw_due 22 = .ok (.iconst (0), 1) := by decide +kernel
theorem d_AckBookLaw_due_23 : decode c_AckBookLaw_due 23 = .ok (.ireturn, 1) := by decide +kernel
theorem d_AckBookLaw_due_10 : decode c_AckBookLaw_due 10 = .ok (.lconst 1, 1) := by decide +kernel
theorem d_AckBookLaw_due_11 : decode c_AckBookLaw_due 11 = .ok (.goto (4), 3) := by decide +kernel
theorem d_AckBookLaw_due_19 : decode c_AckBookLaw_due 19 = .ok (.astore_n 3, 1) := by decide +kernel
theorem d_AckBookLaw_due_20 : decode c_AckBookLaw_due 20 = .ok (.iconst (1), 1) := by decide +kernel
theorem d_AckBookLaw_due_21 : decode c_AckBookLaw_due 21 = .ok (.ireturn, 1) := by decide +kernel
theorem d_AckBook_Arrivals_settle_0 : decode c_AckBook_Arrivals_settle 0 = .ok (.aload_n 0, 1) := by decide +kernel
theorem d_AckBook_Arrivals_settle_1 : decode c_AckBook_Arrivals_settle 1 = .ok (.iconst (0), 1) := by decide +kernel
theorem d_AckBook_Arrivals_settle_2 : decode c_AckBook_Arrivals_settle 2 = .ok (.putfield 50, 3) := by decide +kernel
theorem d_AckBook_Arrivals_settle_5 : decode c_AckBook_Arrivals_settle 5 = .ok (.aload_n 0, 1) := by decide +kernel
theorem d_AckBook_Arrivals_settle_6 : decode c_AckBook_Arrivals_settle 6 = .ok (.iconst (0), 1) := by decide +kernel
theorem d_AckBook_Arrivals_settle_7 : decode c_AckBook_Arrivals_settle 7 = .ok (.putfield 56, 3) := by decide +kernel
theorem d_AckBook_Arrivals_settle_10 : decode c_AckBook_Arrivals_settle 10 = .ok (.iload_n 1, 1) := by decide +kernel
theorem d_AckBook_Arrivals_settle_11 : decode c_AckBook_Arrivals_settle 11 = .ok (.aload_n 0, 1) := by decide +kernel
theorem d_AckBook_Arrivals_settle_12 : decode c_AckBook_Arrivals_settle 12 = .ok (.getfield 40, 3) := by decide +kernel
theorem d_AckBook_Arrivals_settle_15 : decode c_AckBook_Arrivals_settle 15 = .ok (.isub, 1) := by decide +kernel
theorem d_AckBook_Arrivals_settle_16 : decode c_AckBook_Arrivals_settle 16 = .ok (.ireturn, 1) := by decide +kernel
theorem d_AckBook_written_0 : decode c_AckBook_written 0 = .ok (.aload_n 0, 1) := by decide +kernel
theorem d_AckBook_written_1 : decode c_AckBook_written 1 = .ok (.iload_n 1, 1) := by decide +kernel
theorem d_AckBook_written_2 : decode c_AckBook_written 2 = .ok (.invokevirtual 39, 3) := by decide +kernel
theorem d_AckBook_written_5 : decode c_AckBook_written 5 = .ok (.astore_n 2, 1) := by decide +kernel
theorem d_AckBook_written_6 : decode c_AckBook_written 6 = .ok (.aload_n 2, 1) := by decide +kernel
theorem d_AckBook_written_7 : decode c_AckBook_written 7 = .ok (.invokestatic 52, 3) := by decide +kernel
theorem d_AckBook_written_10 : decode c_AckBook_written 10 = .ok (.aload_n 2, 1) := by decide +kernel
theorem d_AckBook_written_11 : decode c_AckBook_written 11 = .ok (.getfield 157, 3) := by decide +kernel
theorem d_AckBook_written_14 : decode c_AckBook_written 14 = .ok (.getfield 200, 3) := by decide +kernel
theorem d_AckBook_written_17 : decode c_AckBook_written 17 = .ok (.ifCond .ne (13), 3) := by decide +kernel
theorem d_AckBook_written_20 : decode c_AckBook_written 20 = .ok (.new 66, 3) := by decide +kernel
theorem d_AckBook_written_23 : decode c_AckBook_written 23 = .ok (.dup, 1) := by decide +kernel
theorem d_AckBook_written_24 : decode c_AckBook_written 24 = .ok (.ldc 202, 2) := by decide +kernel
theorem d_AckBook_written_26 : decode c_AckBook_written 26 = .ok (.invokespecial 70, 3) := by decide +kernel
theorem d_AckBook_written_29 : decode c_AckBook_written 29 = .ok (.athrow, 1) := by decide +kernel
theorem d_AckBook_written_30 : decode c_AckBook_written 30 = .ok (.aload_n 2, 1) := by decide +kernel
theorem d_AckBook_written_31 : decode c_AckBook_written 31 = .ok (.getfield 157, 3) := by decide +kernel
theorem d_AckBook_written_34 : decode c_AckBook_written 34 = .ok (.aload_n 0, 1) := by decide +kernel
theorem d_AckBook_written_35 : decode c_AckBook_written 35 = .ok (.getfield 73, 3) := by decide +kernel
theorem d_AckBook_written_38 : decode c_AckBook_written 38 = .ok (.invokevirtual 204, 3) := by decide +kernel
theorem d_AckBook_written_41 : decode c_AckBook_written 41 = .ok (.ireturn, 1) := by decide +kernel
theorem d_AckBookLaw_written_0 : decode c_AckBookLaw_written 0 = .ok (.aload_n 2, 1) := by decide +kernel
theorem d_AckBookLaw_written_1 : decode c_AckBookLaw_written 1 = .ok (.iconst (0), 1) := by decide +kernel
theorem d_AckBookLaw_written_2 : decode c_AckBookLaw_written 2 = .ok (.aload_n 0, 1) := by decide +kernel
theorem d_AckBookLaw_written_3 : decode c_AckBookLaw_written 3 = .ok (.iload_n 1, 1) := by decide +kernel
theorem d_AckBookLaw_written_4 : decode c_AckBookLaw_written 4 = .ok (.invokevirtual 44, 3) := by decide +kernel
theorem d_AckBookLaw_written_7 : decode c_AckBookLaw_written 7 = .ok (.i2l, 1) := by decide +kernel
theorem d_AckBookLaw_written_8 : decode c_AckBookLaw_written 8 = .ok (.lastore, 1) := by decide +kernel
theorem d_AckBookLaw_written_9 : decode c_AckBookLaw_written 9 = .ok (.goto (9), 3) := by decide +kernel
theorem d_AckBookLaw_written_18 : decode c_AckBookLaw_written 18 = .ok (.iconst (0), 1) := by decide +kernel
theorem d_AckBookLaw_written_19 : decode c_AckBookLaw_written 19 = .ok (.ireturn, 1) := by decide +kernel
theorem d_AckBookLaw_written_12 : decode c_AckBookLaw_written 12 = .ok (.astore_n 3, 1) := by decide +kernel
theorem d_AckBookLaw_written_13 : decode c_AckBookLaw_written 13 = .ok (.iconst (1), 1) := by decide +kernel
theorem d_AckBookLaw_written_14 : decode c_AckBookLaw_written 14 = .ok (.ireturn, 1) := by decide +kernel
theorem d_AckBookLaw_written_15 : decode c_AckBookLaw_written 15 = .ok (.astore_n 3, 1) := by decide +kernel
theorem d_AckBookLaw_written_16 : decode c_AckBookLaw_written 16 = .ok (.iconst (2), 1) := by decide +kernel
theorem d_AckBookLaw_written_17 : decode c_AckBookLaw_written 17 = .ok (.ireturn, 1) := by decide +kernel
theorem d_AckBook_range_0 : decode c_AckBook_range 0 = .ok (.aload_n 0, 1) := by decide +kernel
theorem d_AckBook_range_1 : decode c_AckBook_range 1 = .ok (.iload_n 1, 1) := by decide +kernel
theorem d_AckBook_range_2 : decode c_AckBook_range 2 = .ok (.invokevirtual 39, 3) := by decide +kernel
theorem d_AckBook_range_5 : decode c_AckBook_range 5 = .ok (.getfield 157, 3) := by decide +kernel
theorem d_AckBook_range_8 : decode c_AckBook_range 8 = .ok (.astore 4, 2) := by decide +kernel
theorem d_AckBook_range_10 : decode c_AckBook_range 10 = .ok (.iload_n 2, 1) := by decide +kernel
theorem d_AckBook_range_11 : decode c_AckBook_range 11 = .ok (.ifCond .lt (12), 3) := by decide +kernel
theorem d_AckBook_range_23 : decode c_AckBook_range 23 = .ok (.new 207, 3) := by decide +kernel
theorem d_AckBook_range_26 : decode c_AckBook_range 26 = .ok (.dup, 1) := by decide +kernel
theorem d_AckBook_range_27 : decode c_AckBook_range 27 = .ok (.ldc 209, 2) := by decide +kernel
theorem d_AckBook_range_29 : decode c_AckBook_range 29 = .ok (.invokespecial 211, 3) := by decide +kernel
theorem d_AckBook_range_32 : decode c_AckBook_range 32 = .ok (.athrow, 1) := by decide +kernel
theorem d_AckBook_range_14 : decode c_AckBook_range 14 = .ok (.iload_n 2, 1) := by decide +kernel
theorem d_AckBook_range_15 : decode c_AckBook_range 15 = .ok (.aload 4, 2) := by decide +kernel
theorem d_AckBook_range_17 : decode c_AckBook_range 17 = .ok (.getfield 200, 3) := by decide +kernel
theorem d_AckBook_range_20 : decode c_AckBook_range 20 = .ok (.if_icmp .lt (13), 3) := by decide +kernel
theorem d_AckBook_range_33 : decode c_AckBook_range 33 = .ok (.iload_n 3, 1) := by decide +kernel
theorem d_AckBook_range_34 : decode c_AckBook_range 34 = .ok (.ifCond .eq (13), 3) := by decide +kernel
theorem d_AckBook_range_47 : decode c_AckBook_range 47 = .ok (.aload 4, 2) := by decide +kernel
theorem d_AckBook_range_49 : decode c_AckBook_range 49 = .ok (.getfield 216, 3) := by decide +kernel
theorem d_AckBook_range_52 : decode c_AckBook_range 52 = .ok (.iload_n 2, 1) := by decide +kernel
theorem d_AckBook_range_53 : decode c_AckBook_range 53 = .ok (.laload, 1) := by decide +kernel
theorem d_AckBook_range_54 : decode c_AckBook_range 54 = .ok (.lreturn, 1) := by decide +kernel
theorem d_AckBook_range_37 : decode c_AckBook_range 37 = .ok (.aload 4, 2) := by decide +kernel
theorem d_AckBook_range_39 : decode c_AckBook_range 39 = .ok (.getfield 212, 3) := by decide +kernel
theorem d_AckBook_range_42 : decode c_AckBook_range 42 = .ok (.iload_n 2, 1) := by decide +kernel
theorem d_AckBook_range_43 : decode c_AckBook_range 43 = .ok (.laload, 1) := by decide +kernel
theorem d_AckBook_range_44 : decode c_AckBook_range 44 = .ok (.goto (10), 3) := by decide +kernel
theorem d_AckBookLaw_range_0 : decode c_AckBookLaw_range 0 = .ok (.aload 4, 2) := by decide +kernel
theorem d_AckBookLaw_range_2 : decode c_AckBookLaw_range 2 = .ok (.iconst (0), 1) := by decide +kernel
