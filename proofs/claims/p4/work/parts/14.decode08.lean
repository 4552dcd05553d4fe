theorem d_AckBook_send_134 : decode c_AckBook_send 134 = .ok (.ireturn, 1) := by decide +kernel
theorem d_AckBook_send_67 : decode c_AckBook_send 67 = .ok (.new 66, 3) := by decide +kernel
theorem d_AckBook_send_70 : decode c_AckBook_send 70 = .ok (.dup, 1) := by decide +kernel
theorem d_AckBook_send_71 : decode c_AckBook_send 71 = .ok (.ldc 68, 2) := by decide +kernel
theorem d_AckBook_send_73 : decode c_AckBook_send 73 = .ok (.invokespecial 70, 3) := by decide +kernel
theorem d_AckBook_send_76 : decode c_AckBook_send 76 = .ok (.athrow, 1) := by decide +kernel
theorem d_AckBook_send_0 : decode c_AckBook_send 0 = .ok (.aload_n 0, 1) := by decide +kernel
theorem d_AckBook_send_1 : decode c_AckBook_send 1 = .ok (.iload_n 1, 1) := by decide +kernel
theorem d_AckBook_send_2 : decode c_AckBook_send 2 = .ok (.invokevirtual 39, 3) := by decide +kernel
theorem d_AckBook_send_5 : decode c_AckBook_send 5 = .ok (.astore 5, 2) := by decide +kernel
theorem d_AckBook_send_7 : decode c_AckBook_send 7 = .ok (.iload_n 2, 1) := by decide +kernel
theorem d_AckBook_send_8 : decode c_AckBook_send 8 = .ok (.iconst (1), 1) := by decide +kernel
theorem d_AckBook_send_9 : decode c_AckBook_send 9 = .ok (.if_icmp .lt (10), 3) := by decide +kernel
theorem d_AckBook_send_19 : decode c_AckBook_send 19 = .ok (.new 43, 3) := by decide +kernel
theorem d_AckBook_send_22 : decode c_AckBook_send 22 = .ok (.dup, 1) := by decide +kernel
theorem d_AckBook_send_23 : decode c_AckBook_send 23 = .ok (.ldc 45, 2) := by decide +kernel
theorem d_AckBook_send_25 : decode c_AckBook_send 25 = .ok (.invokespecial 47, 3) := by decide +kernel
theorem d_AckBook_send_28 : decode c_AckBook_send 28 = .ok (.athrow, 1) := by decide +kernel
theorem d_AckBook_send_12 : decode c_AckBook_send 12 = .ok (.iload_n 2, 1) := by decide +kernel
theorem d_AckBook_send_13 : decode c_AckBook_send 13 = .ok (.sipush (1200), 3) := by decide +kernel
theorem d_AckBook_send_16 : decode c_AckBook_send 16 = .ok (.if_icmp .le (13), 3) := by decide +kernel
theorem d_AckBook_send_29 : decode c_AckBook_send 29 = .ok (.iload_n 3, 1) := by decide +kernel
theorem d_AckBook_send_30 : decode c_AckBook_send 30 = .ok (.ifCond .eq (18), 3) := by decide +kernel
theorem d_AckBook_send_33 : decode c_AckBook_send 33 = .ok (.iload 4, 2) := by decide +kernel
theorem d_AckBook_send_35 : decode c_AckBook_send 35 = .ok (.ifCond .ne (13), 3) := by decide +kernel
theorem d_AckBook_send_38 : decode c_AckBook_send 38 = .ok (.new 43, 3) := by decide +kernel
theorem d_AckBook_send_41 : decode c_AckBook_send 41 = .ok (.dup, 1) := by decide +kernel
theorem d_AckBook_send_42 : decode c_AckBook_send 42 = .ok (.ldc 50, 2) := by decide +kernel
theorem d_AckBook_send_44 : decode c_AckBook_send 44 = .ok (.invokespecial 47, 3) := by decide +kernel
theorem d_AckBook_send_47 : decode c_AckBook_send 47 = .ok (.athrow, 1) := by decide +kernel
theorem d_AckBookLaw_send_0 : decode c_AckBookLaw_send 0 = .ok (.aload 5, 2) := by decide +kernel
theorem d_AckBookLaw_send_2 : decode c_AckBookLaw_send 2 = .ok (.iconst (0), 1) := by decide +kernel
theorem d_AckBookLaw_send_3 : decode c_AckBookLaw_send 3 = .ok (.aload_n 0, 1) := by decide +kernel
theorem d_AckBookLaw_send_4 : decode c_AckBookLaw_send 4 = .ok (.iload_n 1, 1) := by decide +kernel
theorem d_AckBookLaw_send_5 : decode c_AckBookLaw_send 5 = .ok (.iload_n 2, 1) := by decide +kernel
theorem d_AckBookLaw_send_6 : decode c_AckBookLaw_send 6 = .ok (.iload_n 3, 1) := by decide +kernel
theorem d_AckBookLaw_send_7 : decode c_AckBookLaw_send 7 = .ok (.iload 4, 2) := by decide +kernel
theorem d_AckBookLaw_send_9 : decode c_AckBookLaw_send 9 = .ok (.invokevirtual 7, 3) := by decide +kernel
theorem d_AckBookLaw_send_12 : decode c_AckBookLaw_send 12 = .ok (.i2l, 1) := by decide +kernel
theorem d_AckBookLaw_send_13 : decode c_AckBookLaw_send 13 = .ok (.lastore, 1) := by decide +kernel
theorem d_AckBookLaw_send_14 : decode c_AckBookLaw_send 14 = .ok (.goto (11), 3) := by decide +kernel
theorem d_AckBookLaw_send_25 : decode c_AckBookLaw_send 25 = .ok (.iconst (0), 1) := by decide +kernel
theorem d_AckBookLaw_send_26 : decode c_AckBookLaw_send 26 = .ok (.ireturn, 1) := by decide +kernel
theorem d_AckBookLaw_send_17 : decode c_AckBookLaw_send 17 = .ok (.astore 6, 2) := by decide +kernel
theorem d_AckBookLaw_send_19 : decode c_AckBookLaw_send 19 = .ok (.iconst (1), 1) := by decide +kernel
theorem d_AckBookLaw_send_20 : decode c_AckBookLaw_send 20 = .ok (.ireturn, 1) := by decide +kernel
theorem d_AckBookLaw_send_21 : decode c_AckBookLaw_send 21 = .ok (.astore 6, 2) := by decide +kernel
theorem d_AckBookLaw_send_23 : decode c_AckBookLaw_send 23 = .ok (.iconst (2), 1) := by decide +kernel
theorem d_AckBookLaw_send_24 : decode c_AckBookLaw_send 24 = .ok (.ireturn, 1) := by decide +kernel
theorem d_AckBook_Claim_isBelow_0 : decode c_AckBook_Claim_isBelow 0 = .ok (.aload_n 0, 1) := by decide +kernel
theorem d_AckBook_Claim_isBelow_1 : decode c_AckBook_Claim_isBelow 1 = .ok (.getfield 18, 3) := by decide +kernel
theorem d_AckBook_Claim_isBelow_4 : decode c_AckBook_Claim_isBelow 4 = .ok (.ifCond .le (12), 3) := by decide +kernel
theorem d_AckBook_Claim_isBelow_16 : decode c_AckBook_Claim_isBelow 16 = .ok (.iconst (1), 1) := by decide +kernel
theorem d_AckBook_Claim_isBelow_17 : decode c_AckBook_Claim_isBelow 17 = .ok (.ireturn, 1) := by decide +kernel
theorem d_AckBook_Claim_isBelow_7 : decode c_AckBook_Claim_isBelow 7 = .ok (.aload_n 0, 1) := by decide +kernel
theorem d_AckBook_Claim_isBelow_8 : decode c_AckBook_Claim_isBelow 8 = .ok (.getfield 18, 3) := by decide +kernel
theorem d_AckBook_Claim_isBelow_11 : decode c_AckBook_Claim_isBelow 11 = .ok (.bipush (64), 2) := by decide +kernel
theorem d_AckBook_Claim_isBelow_13 : decode c_AckBook_Claim_isBelow 13 = .ok (.if_icmp .le (5), 3) := by decide +kernel
theorem d_AckBook_Claim_isBelow_18 : decode c_AckBook_Claim_isBelow 18 = .ok (.lload_n 1, 1) := by decide +kernel
theorem d_AckBook_Claim_isBelow_19 : decode c_AckBook_Claim_isBelow 19 = .ok (.aload_n 0, 1) := by decide +kernel
theorem d_AckBook_Claim_isBelow_20 : decode c_AckBook_Claim_isBelow 20 = .ok (.getfield 9, 3) := by decide +kernel
theorem d_AckBook_Claim_isBelow_23 : decode c_AckBook_Claim_isBelow 23 = .ok (.aload_n 0, 1) := by decide +kernel
theorem d_AckBook_Claim_isBelow_24 : decode c_AckBook_Claim_isBelow 24 = .ok (.getfield 18, 3) := by decide +kernel
theorem d_AckBook_Claim_isBelow_27 : decode c_AckBook_Claim_isBelow 27 = .ok (.iconst (1), 1) := by decide +kernel
theorem d_AckBook_Claim_isBelow_28 : decode c_AckBook_Claim_isBelow 28 = .ok (.isub, 1) := by decide +kernel
theorem d_AckBook_Claim_isBelow_29 : decode c_AckBook_Claim_isBelow 29 = .ok (.laload, 1) := by decide +kernel
theorem d_AckBook_Claim_isBelow_30 : decode c_AckBook_Claim_isBelow 30 = .ok (.lconst 1, 1) := by decide +kernel
theorem d_AckBook_Claim_isBelow_31 : decode c_AckBook_Claim_isBelow 31 = .ok (.lsub, 1) := by decide +kernel
theorem d_AckBook_Claim_isBelow_32 : decode c_AckBook_Claim_isBelow 32 = .ok (.lcmp, 1) := by decide +kernel
theorem d_AckBook_Claim_isBelow_33 : decode c_AckBook_Claim_isBelow 33 = .ok (.ifCond .ge (7), 3) := by decide +kernel
theorem d_AckBook_Claim_isBelow_40 : decode c_AckBook_Claim_isBelow 40 = .ok (.iconst (0), 1) := by decide +kernel
theorem d_AckBook_Claim_isBelow_41 : decode c_AckBook_Claim_isBelow 41 = .ok (.ireturn, 1) := by decide +kernel
theorem d_AckBook_Claim_isBelow_36 : decode c_AckBook_Claim_isBelow 36 = .ok (.iconst (1), 1) := by decide +kernel
theorem d_AckBook_Claim_isBelow_37 : decode c_AckBook_Claim_isBelow 37 = .ok (.goto (4), 3) := by decide +kernel
theorem d_AckBook_Claim_isFull_0 : decode c_AckBook_Claim_isFull 0 = .ok (.aload_n 0, 1) := by decide +kernel
theorem d_AckBook_Claim_isFull_1 : decode c_AckBook_Claim_isFull 1 = .ok (.getfield 18, 3) := by decide +kernel
theorem d_AckBook_Claim_isFull_4 : decode c_AckBook_Claim_isFull 4 = .ok (.bipush (64), 2) := by decide +kernel
theorem d_AckBook_Claim_isFull_6 : decode c_AckBook_Claim_isFull 6 = .ok (.if_icmp .lt (7), 3) := by decide +kernel
theorem d_AckBook_Claim_isFull_13 : decode c_AckBook_Claim_isFull 13 = .ok (.iconst (0), 1) := by decide +kernel
theorem d_AckBook_Claim_isFull_14 : decode c_AckBook_Claim_isFull 14 = .ok (.ireturn, 1) := by decide +kernel
theorem d_AckBook_Claim_isFull_9 : decode c_AckBook_Claim_isFull 9 = .ok (.iconst (1), 1) := by decide +kernel
theorem d_AckBook_Claim_isFull_10 : decode c_AckBook_Claim_isFull 10 = .ok (.goto (4), 3) := by decide +kernel
theorem d_AckBook_Claim_add_0 : decode c_AckBook_Claim_add 0 = .ok (.aload_n 0, 1) := by decide +kernel
theorem d_AckBook_Claim_add_1 : decode c_AckBook_Claim_add 1 = .ok (.getfield 18, 3) := by decide +kernel
theorem d_AckBook_Claim_add_4 : decode c_AckBook_Claim_add 4 = .ok (.ifCond .lt (42), 3) := by decide +kernel
theorem d_AckBook_Claim_add_46 : decode c_AckBook_Claim_add 46 = .ok (.aload_n 0, 1) := by decide +kernel
theorem d_AckBook_Claim_add_47 : decode c_AckBook_Claim_add 47 = .ok (.getfield 18, 3) := by decide +kernel
theorem d_AckBook_Claim_add_50 : decode c_AckBook_Claim_add 50 = .ok (.ireturn, 1) := by decide +kernel
theorem d_AckBook_Claim_add_7 : decode c_AckBook_Claim_add 7 = .ok (.aload_n 0, 1) := by decide +kernel
theorem d_AckBook_Claim_add_8 : decode c_AckBook_Claim_add 8 = .ok (.getfield 18, 3) := by decide +kernel
theorem d_AckBook_Claim_add_11 : decode c_AckBook_Claim_add 11 = .ok (.bipush (64), 2) := by decide +kernel
theorem d_AckBook_Claim_add_13 : decode c_AckBook_Claim_add 13 = .ok (.if_icmp .ge (33), 3) := by decide +kernel
theorem d_AckBook_Claim_add_16 : decode c_AckBook_Claim_add 16 = .ok (.aload_n 0, 1) := by decide +kernel
theorem d_AckBook_Claim_add_17 : decode c_AckBook_Claim_add 17 = .ok (.getfield 9, 3) := by decide +kernel
theorem d_AckBook_Claim_add_20 : decode c_AckBook_Claim_add 20 = .ok (.aload_n 0, 1) := by decide +kernel
theorem d_AckBook_Claim_add_21 : decode c_AckBook_Claim_add 21 = .ok (.getfield 18, 3) := by decide +kernel
theorem d_AckBook_Claim_add_24 : decode c_AckBook_Claim_add 24 = .ok (.lload_n 1, 1) := by decide +kernel
theorem d_AckBook_Claim_add_25 : decode c_AckBook_Claim_add 25 = .ok (.lastore, 1) := by decide +kernel
theorem d_AckBook_Claim_add_26 : decode c_AckBook_Claim_add 26 = .ok (.aload_n 0, 1) := by decide +kernel
theorem d_AckBook_Claim_add_27 : decode c_AckBook_Claim_add 27 = .ok (.getfield 15, 3) := by decide +kernel
theorem d_AckBook_Claim_add_30 : decode c_AckBook_Claim_add 30 = .ok (.aload_n 0, 1) := by decide +kernel
theorem d_AckBook_Claim_add_31 : decode c_AckBook_Claim_add 31 = .ok (.getfield 18, 3) := by decide +kernel
theorem d_AckBook_Claim_add_34 : decode c_AckBook_Claim_add 34 = .ok (.lload_n 3, 1) := by decide +kernel
theorem d_AckBook_Claim_add_35 : decode c_AckBook_Claim_add 35 = .ok (.lastore, 1) := by decide +kernel
theorem d_AckBook_Claim_add_36 : decode c_AckBook_Claim_add 36 = .ok (.aload_n 0, 1) := by decide +kernel
theorem d_AckBook_Claim_add_37 : decode c_AckBook_Claim_add 37 = .ok (.dup, 1) := by decide +kernel
theorem d_AckBook_Claim_add_38 : decode c_AckBook_Claim_add 38 = .ok (.getfield 18, 3) := by decide +kernel
theorem d_AckBook_Claim_add_41 : decode c_AckBook_Claim_add 41 = .ok (.iconst (1), 1) := by decide +kernel
theorem d_AckBook_Claim_add_42 : decode c_AckBook_Claim_add 42 = .ok (.iadd, 1) := by decide +kernel
theorem d_AckBook_Claim_add_43 : decode c_AckBook_Claim_add 43 = .ok (.putfield 18, 3) := by decide +kernel
theorem d_AckBook_span_0 : decode c_AckBook_span 0 = .ok (.lload_n 1, 1) := by decide +kernel
theorem d_AckBook_span_1 : decode c_AckBook_span 1 = .ok (.lconst 0, 1) := by decide +kernel
theorem d_AckBook_span_2 : decode c_AckBook_span 2 = .ok (.lcmp, 1) := by decide +kernel
theorem d_AckBook_span_3 : decode c_AckBook_span 3 = .ok (.ifCond .lt (9), 3) := by decide +kernel
theorem d_AckBook_span_12 : decode c_AckBook_span 12 = .ok (.new 43, 3) := by decide +kernel
theorem d_AckBook_span_15 : decode c_AckBook_span 15 = .ok (.dup, 1) := by decide +kernel
theorem d_AckBook_span_16 : decode c_AckBook_span 16 = .ok (.ldc 91, 2) := by decide +kernel
theorem d_AckBook_span_18 : decode c_AckBook_span 18 = .ok (.invokespecial 47, 3) := by decide +kernel
theorem d_AckBook_span_21 : decode c_AckBook_span 21 = .ok (.athrow, 1) := by decide +kernel
theorem d_AckBook_span_6 : decode c_AckBook_span 6 = .ok (.lload_n 3, 1) := by decide +kernel
