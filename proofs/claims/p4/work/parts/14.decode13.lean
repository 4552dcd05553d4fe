theorem d_AckBook_Sent_forget_33 : decode c_AckBook_Sent_forget 33 = .ok (.aload_n 3, 1) := by decide +kernel
theorem d_AckBook_Sent_forget_34 : decode c_AckBook_Sent_forget 34 = .ok (.invokevirtual 113, 3) := by decide +kernel
theorem d_AckBook_Sent_forget_37 : decode c_AckBook_Sent_forget 37 = .ok (.iinc 2 (1), 3) := by decide +kernel
theorem d_AckBook_Sent_forget_40 : decode c_AckBook_Sent_forget 40 = .ok (.goto (-38), 3) := by decide +kernel
theorem d_AckBook_Sent_forget_0 : decode c_AckBook_Sent_forget 0 = .ok (.iconst (0), 1) := by decide +kernel
theorem d_AckBook_Sent_forget_1 : decode c_AckBook_Sent_forget 1 = .ok (.istore_n 2, 1) := by decide +kernel
theorem d_AckBook_Arrivals_forget_0 : decode c_AckBook_Arrivals_forget 0 = .ok (.aload_n 0, 1) := by decide +kernel
theorem d_AckBook_Arrivals_forget_1 : decode c_AckBook_Arrivals_forget 1 = .ok (.iconst (0), 1) := by decide +kernel
theorem d_AckBook_Arrivals_forget_2 : decode c_AckBook_Arrivals_forget 2 = .ok (.putfield 26, 3) := by decide +kernel
theorem d_AckBook_Arrivals_forget_5 : decode c_AckBook_Arrivals_forget 5 = .ok (.aload_n 0, 1) := by decide +kernel
theorem d_AckBook_Arrivals_forget_6 : decode c_AckBook_Arrivals_forget 6 = .ok (.lconst 0, 1) := by decide +kernel
theorem d_AckBook_Arrivals_forget_7 : decode c_AckBook_Arrivals_forget 7 = .ok (.putfield 22, 3) := by decide +kernel
theorem d_AckBook_Arrivals_forget_10 : decode c_AckBook_Arrivals_forget 10 = .ok (.aload_n 0, 1) := by decide +kernel
theorem d_AckBook_Arrivals_forget_11 : decode c_AckBook_Arrivals_forget 11 = .ok (.iconst (0), 1) := by decide +kernel
theorem d_AckBook_Arrivals_forget_12 : decode c_AckBook_Arrivals_forget 12 = .ok (.putfield 50, 3) := by decide +kernel
theorem d_AckBook_Arrivals_forget_15 : decode c_AckBook_Arrivals_forget 15 = .ok (.aload_n 0, 1) := by decide +kernel
theorem d_AckBook_Arrivals_forget_16 : decode c_AckBook_Arrivals_forget 16 = .ok (.iconst (0), 1) := by decide +kernel
theorem d_AckBook_Arrivals_forget_17 : decode c_AckBook_Arrivals_forget 17 = .ok (.putfield 56, 3) := by decide +kernel
theorem d_AckBook_Arrivals_forget_20 : decode c_AckBook_Arrivals_forget 20 = .ok (.return_, 1) := by decide +kernel
theorem d_AckBook_discard_0 : decode c_AckBook_discard 0 = .ok (.aload_n 0, 1) := by decide +kernel
theorem d_AckBook_discard_1 : decode c_AckBook_discard 1 = .ok (.iload_n 1, 1) := by decide +kernel
theorem d_AckBook_discard_2 : decode c_AckBook_discard 2 = .ok (.invokevirtual 39, 3) := by decide +kernel
theorem d_AckBook_discard_5 : decode c_AckBook_discard 5 = .ok (.astore_n 2, 1) := by decide +kernel
theorem d_AckBook_discard_6 : decode c_AckBook_discard 6 = .ok (.aload_n 2, 1) := by decide +kernel
theorem d_AckBook_discard_7 : decode c_AckBook_discard 7 = .ok (.invokestatic 52, 3) := by decide +kernel
theorem d_AckBook_discard_10 : decode c_AckBook_discard 10 = .ok (.aload_n 2, 1) := by decide +kernel
theorem d_AckBook_discard_11 : decode c_AckBook_discard 11 = .ok (.iconst (1), 1) := by decide +kernel
theorem d_AckBook_discard_12 : decode c_AckBook_discard 12 = .ok (.putfield 149, 3) := by decide +kernel
theorem d_AckBook_discard_15 : decode c_AckBook_discard 15 = .ok (.aload_n 2, 1) := by decide +kernel
theorem d_AckBook_discard_16 : decode c_AckBook_discard 16 = .ok (.getfield 56, 3) := by decide +kernel
theorem d_AckBook_discard_19 : decode c_AckBook_discard 19 = .ok (.aload_n 0, 1) := by decide +kernel
theorem d_AckBook_discard_20 : decode c_AckBook_discard 20 = .ok (.getfield 35, 3) := by decide +kernel
theorem d_AckBook_discard_23 : decode c_AckBook_discard 23 = .ok (.invokevirtual 153, 3) := by decide +kernel
theorem d_AckBook_discard_26 : decode c_AckBook_discard 26 = .ok (.aload_n 2, 1) := by decide +kernel
theorem d_AckBook_discard_27 : decode c_AckBook_discard 27 = .ok (.getfield 157, 3) := by decide +kernel
theorem d_AckBook_discard_30 : decode c_AckBook_discard 30 = .ok (.invokevirtual 161, 3) := by decide +kernel
theorem d_AckBook_discard_33 : decode c_AckBook_discard 33 = .ok (.aload_n 0, 1) := by decide +kernel
theorem d_AckBook_discard_34 : decode c_AckBook_discard 34 = .ok (.iconst (0), 1) := by decide +kernel
theorem d_AckBook_discard_35 : decode c_AckBook_discard 35 = .ok (.putfield 137, 3) := by decide +kernel
theorem d_AckBook_discard_38 : decode c_AckBook_discard 38 = .ok (.return_, 1) := by decide +kernel
theorem d_AckBookLaw_discard_0 : decode c_AckBookLaw_discard 0 = .ok (.aload_n 0, 1) := by decide +kernel
theorem d_AckBookLaw_discard_1 : decode c_AckBookLaw_discard 1 = .ok (.iload_n 1, 1) := by decide +kernel
theorem d_AckBookLaw_discard_2 : decode c_AckBookLaw_discard 2 = .ok (.invokevirtual 25, 3) := by decide +kernel
theorem d_AckBookLaw_discard_5 : decode c_AckBookLaw_discard 5 = .ok (.goto (9), 3) := by decide +kernel
theorem d_AckBookLaw_discard_14 : decode c_AckBookLaw_discard 14 = .ok (.iconst (0), 1) := by decide +kernel
theorem d_AckBookLaw_discard_15 : decode c_AckBookLaw_discard 15 = .ok (.ireturn, 1) := by decide +kernel
theorem d_AckBookLaw_discard_8 : decode c_AckBookLaw_discard 8 = .ok (.astore_n 2, 1) := by decide +kernel
theorem d_AckBookLaw_discard_9 : decode c_AckBookLaw_discard 9 = .ok (.iconst (1), 1) := by decide +kernel
theorem d_AckBookLaw_discard_10 : decode c_AckBookLaw_discard 10 = .ok (.ireturn, 1) := by decide +kernel
theorem d_AckBookLaw_discard_11 : decode c_AckBookLaw_discard 11 = .ok (.astore_n 2, 1) := by decide +kernel
theorem d_AckBookLaw_discard_12 : decode c_AckBookLaw_discard 12 = .ok (.iconst (2), 1) := by decide +kernel
theorem d_AckBookLaw_discard_13 : decode c_AckBookLaw_discard 13 = .ok (.ireturn, 1) := by decide +kernel
theorem d_AckBook_Chain_removeFirst_0 : decode c_AckBook_Chain_removeFirst 0 = .ok (.aload_n 0, 1) := by decide +kernel
theorem d_AckBook_Chain_removeFirst_1 : decode c_AckBook_Chain_removeFirst 1 = .ok (.getfield 9, 3) := by decide +kernel
theorem d_AckBook_Chain_removeFirst_4 : decode c_AckBook_Chain_removeFirst 4 = .ok (.ifnonnull (5), 3) := by decide +kernel
theorem d_AckBook_Chain_removeFirst_7 : decode c_AckBook_Chain_removeFirst 7 = .ok (.iconst (-1), 1) := by decide +kernel
theorem d_AckBook_Chain_removeFirst_8 : decode c_AckBook_Chain_removeFirst 8 = .ok (.ireturn, 1) := by decide +kernel
theorem d_AckBook_Chain_removeFirst_9 : decode c_AckBook_Chain_removeFirst 9 = .ok (.aload_n 0, 1) := by decide +kernel
theorem d_AckBook_Chain_removeFirst_10 : decode c_AckBook_Chain_removeFirst 10 = .ok (.getfield 9, 3) := by decide +kernel
theorem d_AckBook_Chain_removeFirst_13 : decode c_AckBook_Chain_removeFirst 13 = .ok (.getfield 23, 3) := by decide +kernel
theorem d_AckBook_Chain_removeFirst_16 : decode c_AckBook_Chain_removeFirst 16 = .ok (.istore_n 1, 1) := by decide +kernel
theorem d_AckBook_Chain_removeFirst_17 : decode c_AckBook_Chain_removeFirst 17 = .ok (.aload_n 0, 1) := by decide +kernel
theorem d_AckBook_Chain_removeFirst_18 : decode c_AckBook_Chain_removeFirst 18 = .ok (.aload_n 0, 1) := by decide +kernel
theorem d_AckBook_Chain_removeFirst_19 : decode c_AckBook_Chain_removeFirst 19 = .ok (.getfield 9, 3) := by decide +kernel
theorem d_AckBook_Chain_removeFirst_22 : decode c_AckBook_Chain_removeFirst 22 = .ok (.getfield 18, 3) := by decide +kernel
theorem d_AckBook_Chain_removeFirst_25 : decode c_AckBook_Chain_removeFirst 25 = .ok (.putfield 9, 3) := by decide +kernel
theorem d_AckBook_Chain_removeFirst_28 : decode c_AckBook_Chain_removeFirst 28 = .ok (.iload_n 1, 1) := by decide +kernel
theorem d_AckBook_Chain_removeFirst_29 : decode c_AckBook_Chain_removeFirst 29 = .ok (.ireturn, 1) := by decide +kernel
theorem d_AckBook_next_0 : decode c_AckBook_next 0 = .ok (.aload_n 0, 1) := by decide +kernel
theorem d_AckBook_next_1 : decode c_AckBook_next 1 = .ok (.iload_n 1, 1) := by decide +kernel
theorem d_AckBook_next_2 : decode c_AckBook_next 2 = .ok (.invokevirtual 39, 3) := by decide +kernel
theorem d_AckBook_next_5 : decode c_AckBook_next 5 = .ok (.getfield 56, 3) := by decide +kernel
theorem d_AckBook_next_8 : decode c_AckBook_next 8 = .ok (.astore_n 3, 1) := by decide +kernel
theorem d_AckBook_next_9 : decode c_AckBook_next 9 = .ok (.iload_n 2, 1) := by decide +kernel
theorem d_AckBook_next_10 : decode c_AckBook_next 10 = .ok (.ifCond .eq (13), 3) := by decide +kernel
theorem d_AckBook_next_23 : decode c_AckBook_next 23 = .ok (.aload_n 3, 1) := by decide +kernel
theorem d_AckBook_next_24 : decode c_AckBook_next 24 = .ok (.getfield 180, 3) := by decide +kernel
theorem d_AckBook_next_27 : decode c_AckBook_next 27 = .ok (.invokevirtual 175, 3) := by decide +kernel
theorem d_AckBook_next_30 : decode c_AckBook_next 30 = .ok (.ireturn, 1) := by decide +kernel
theorem d_AckBook_next_13 : decode c_AckBook_next 13 = .ok (.aload_n 3, 1) := by decide +kernel
theorem d_AckBook_next_14 : decode c_AckBook_next 14 = .ok (.getfield 171, 3) := by decide +kernel
theorem d_AckBook_next_17 : decode c_AckBook_next 17 = .ok (.invokevirtual 175, 3) := by decide +kernel
theorem d_AckBook_next_20 : decode c_AckBook_next 20 = .ok (.goto (10), 3) := by decide +kernel
theorem d_AckBookLaw_next_0 : decode c_AckBookLaw_next 0 = .ok (.aload_n 3, 1) := by decide +kernel
theorem d_AckBookLaw_next_1 : decode c_AckBookLaw_next 1 = .ok (.iconst (0), 1) := by decide +kernel
theorem d_AckBookLaw_next_2 : decode c_AckBookLaw_next 2 = .ok (.aload_n 0, 1) := by decide +kernel
theorem d_AckBookLaw_next_3 : decode c_AckBookLaw_next 3 = .ok (.iload_n 1, 1) := by decide +kernel
theorem d_AckBookLaw_next_4 : decode c_AckBookLaw_next 4 = .ok (.iload_n 2, 1) := by decide +kernel
theorem d_AckBookLaw_next_5 : decode c_AckBookLaw_next 5 = .ok (.invokevirtual 29, 3) := by decide +kernel
theorem d_AckBookLaw_next_8 : decode c_AckBookLaw_next 8 = .ok (.i2l, 1) := by decide +kernel
theorem d_AckBookLaw_next_9 : decode c_AckBookLaw_next 9 = .ok (.lastore, 1) := by decide +kernel
theorem d_AckBookLaw_next_10 : decode c_AckBookLaw_next 10 = .ok (.goto (7), 3) := by decide +kernel
theorem d_AckBookLaw_next_17 : decode c_AckBookLaw_next 17 = .ok (.iconst (0), 1) := by decide +kernel
theorem d_AckBookLaw_next_18 : decode c_AckBookLaw_next 18 = .ok (.ireturn, 1) := by decide +kernel
theorem d_AckBookLaw_next_13 : decode c_AckBookLaw_next 13 = .ok (.astore 4, 2) := by decide +kernel
theorem d_AckBookLaw_next_15 : decode c_AckBookLaw_next 15 = .ok (.iconst (1), 1) := by decide +kernel
theorem d_AckBookLaw_next_16 : decode c_AckBookLaw_next 16 = .ok (.ireturn, 1) := by decide +kernel
theorem d_AckBook_state_0 : decode c_AckBook_state 0 = .ok (.aload_n 0, 1) := by decide +kernel
theorem d_AckBook_state_1 : decode c_AckBook_state 1 = .ok (.iload_n 1, 1) := by decide +kernel
theorem d_AckBook_state_2 : decode c_AckBook_state 2 = .ok (.invokevirtual 39, 3) := by decide +kernel
theorem d_AckBook_state_5 : decode c_AckBook_state 5 = .ok (.astore_n 3, 1) := by decide +kernel
theorem d_AckBook_state_6 : decode c_AckBook_state 6 = .ok (.aload_n 3, 1) := by decide +kernel
theorem d_AckBook_state_7 : decode c_AckBook_state 7 = .ok (.getfield 56, 3) := by decide +kernel
theorem d_AckBook_state_10 : decode c_AckBook_state 10 = .ok (.iload_n 2, 1) := by decide +kernel
theorem d_AckBook_state_11 : decode c_AckBook_state 11 = .ok (.i2l, 1) := by decide +kernel
theorem d_AckBook_state_12 : decode c_AckBook_state 12 = .ok (.invokevirtual 119, 3) := by decide +kernel
theorem d_AckBook_state_15 : decode c_AckBook_state 15 = .ok (.astore 4, 2) := by decide +kernel
theorem d_AckBook_state_17 : decode c_AckBook_state 17 = .ok (.aload 4, 2) := by decide +kernel
theorem d_AckBook_state_19 : decode c_AckBook_state 19 = .ok (.ifnonnull (5), 3) := by decide +kernel
theorem d_AckBook_state_22 : decode c_AckBook_state 22 = .ok (.iconst (-1), 1) := by decide +kernel
theorem d_AckBook_state_23 : decode c_AckBook_state 23 = .ok (.ireturn, 1) := by decide +kernel
theorem d_AckBook_state_24 : decode c_AckBook_state 24 = .ok (.aload_n 3, 1) := by decide +kernel
theorem d_AckBook_state_25 : decode c_AckBook_state 25 = .ok (.getfield 149, 3) := by decide +kernel
theorem d_AckBook_state_28 : decode c_AckBook_state 28 = .ok (.ifCond .eq (7), 3) := by decide +kernel
theorem d_AckBook_state_35 : decode c_AckBook_state 35 = .ok (.aload 4, 2) := by decide +kernel
theorem d_AckBook_state_37 : decode c_AckBook_state 37 = .ok (.getfield 183, 3) := by decide +kernel
theorem d_AckBook_state_40 : decode c_AckBook_state 40 = .ok (.ireturn, 1) := by decide +kernel
theorem d_AckBook_state_31 : decode c_AckBook_state 31 = .ok (.iconst (3), 1) := by decide +kernel
theorem d_AckBook_state_32 : decode c_AckBook_state 32 = .ok (.goto (8), 3) := by decide +kernel
theorem d_AckBookLaw_state_0 : decode c_AckBookLaw_state 0 = .ok (.aload_n 3, 1) := by decide +kernel
