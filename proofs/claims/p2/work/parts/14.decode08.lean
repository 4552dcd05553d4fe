theorem d_AckBook_send_42 : decode c_AckBook_send 42 = .ok (.ldc 50, 2) := by decide +kernel
theorem d_AckBook_send_44 : decode c_AckBook_send 44 = .ok (.invokespecial 47, 3) := by decide +kernel
theorem d_AckBook_send_47 : decode c_AckBook_send 47 = .ok (.athrow, 1) := by decide +kernel
theorem d_AckBook_Claim_isBelow_0 : decode c_AckBook_Claim_isBelow 0 = .ok (.aload_n 0, 1) := by decide +kernel
theorem d_AckBook_Claim_isBelow_1 : decode c_AckBook_Claim_isBelow 1 = .ok (.getfield 18, 3) := by decide +kernel
theorem d_AckBook_Claim_isBelow_4 : decode c_AckBook_Claim_isBelow 4 = .ok (.ifCond .le (12), 3) := by decide +kernel
theorem d_AckBook_Claim_isBelow_16 : decode c_AckBook_Claim_isBelow 16 = .ok (.iconst (1), 1) := by decide +kernel
theorem d_AckBook_Claim_isBelow_17 : decode c_AckBook_Claim_isBelow 17 = .ok (.ireturn, 1) := by decide +kernel
theorem d_AckBook_Claim_isBelow_7 : decode c_AckBook_Claim_isBelow 7 = .ok (.aload_n 0, 1) := by decide +kernel
theorem d_AckBook_Claim_isBelow_8 : decode c_AckBook_Claim_isBelow 8 = .ok (.getfield 18, 3) := by decide +kernel
theorem d_AckBook_Claim_isBelow_11 : decode c_AckBook_Claim_isBelow 11 = .ok (.bipush (64), 2) := by decide +kernel
theorem d_AckBook_Claim_isBelow_13 : decode c_AckBook_Claim_isBelow 13 = .ok (.if_icmp .le (5), 3) := by decide +kernel
theorem d_AckBook_Claim_isBelow_18 : decode c_AckBook_Claim_isBelow 18 = .ok (.lload_n 1, 1) := by decide +kernel
theorem d_AckBook_Claim_isBelow_19 : decode c_AckBook_Claim_isBelow 19 = .ok (.aload_n 0, 1) := by decide +kernel
theorem d_AckBook_Claim_isBelow_20 : decode c_AckBook_Claim_isBelow 20 = .ok (.getfield 9, 3) := by decide +kernel
theorem d_AckBook_Claim_isBelow_23 : decode c_AckBook_Claim_isBelow 23 = .ok (.aload_n 0, 1) := by decide +kernel
theorem d_AckBook_Claim_isBelow_24 : decode c_AckBook_Claim_isBelow 24 = .ok (.getfield 18, 3) := by decide +kernel
theorem d_AckBook_Claim_isBelow_27 : decode c_AckBook_Claim_isBelow 27 = .ok (.iconst (1), 1) := by decide +kernel
theorem d_AckBook_Claim_isBelow_28 : decode c_AckBook_Claim_isBelow 28 = .ok (.isub, 1) := by decide +kernel
theorem d_AckBook_Claim_isBelow_29 : decode c_AckBook_Claim_isBelow 29 = .ok (.laload, 1) := by decide +kernel
theorem d_AckBook_Claim_isBelow_30 : decode c_AckBook_Claim_isBelow 30 = .ok (.lconst 1, 1) := by decide +kernel
theorem d_AckBook_Claim_isBelow_31 : decode c_AckBook_Claim_isBelow 31 = .ok (.lsub, 1) := by decide +kernel
theorem d_AckBook_Claim_isBelow_32 : decode c_AckBook_Claim_isBelow 32 = .ok (.lcmp, 1) := by decide +kernel
theorem d_AckBook_Claim_isBelow_33 : decode c_AckBook_Claim_isBelow 33 = .ok (.ifCond .ge (7), 3) := by decide +kernel
theorem d_AckBook_Claim_isBelow_40 : decode c_AckBook_Claim_isBelow 40 = .ok (.iconst (0), 1) := by decide +kernel
theorem d_AckBook_Claim_isBelow_41 : decode c_AckBook_Claim_isBelow 41 = .ok (.ireturn, 1) := by decide +kernel
theorem d_AckBook_Claim_isBelow_36 : decode c_AckBook_Claim_isBelow 36 = .ok (.iconst (1), 1) := by decide +kernel
theorem d_AckBook_Claim_isBelow_37 : decode c_AckBook_Claim_isBelow 37 = .ok (.goto (4), 3) := by decide +kernel
theorem d_AckBook_Claim_isFull_0 : decode c_AckBook_Claim_isFull 0 = .ok (.aload_n 0, 1) := by decide +kernel
theorem d_AckBook_Claim_isFull_1 : decode c_AckBook_Claim_isFull 1 = .ok (.getfield 18, 3) := by decide +kernel
theorem d_AckBook_Claim_isFull_4 : decode c_AckBook_Claim_isFull 4 = .ok (.bipush (64), 2) := by decide +kernel
theorem d_AckBook_Claim_isFull_6 : decode c_AckBook_Claim_isFull 6 = .ok (.if_icmp .lt (7), 3) := by decide +kernel
theorem d_AckBook_Claim_isFull_13 : decode c_AckBook_Claim_isFull 13 = .ok (.iconst (0), 1) := by decide +kernel
theorem d_AckBook_Claim_isFull_14 : decode c_AckBook_Claim_isFull 14 = .ok (.ireturn, 1) := by decide +kernel
theorem d_AckBook_Claim_isFull_9 : decode c_AckBook_Claim_isFull 9 = .ok (.iconst (1), 1) := by decide +kernel
theorem d_AckBook_Claim_isFull_10 : decode c_AckBook_Claim_isFull 10 = .ok (.goto (4), 3) := by decide +kernel
theorem d_AckBook_Claim_add_0 : decode c_AckBook_Claim_add 0 = .ok (.aload_n 0, 1) := by decide +kernel
theorem d_AckBook_Claim_add_1 : decode c_AckBook_Claim_add 1 = .ok (.getfield 18, 3) := by decide +kernel
theorem d_AckBook_Claim_add_4 : decode c_AckBook_Claim_add 4 = .ok (.ifCond .lt (42), 3) := by decide +kernel
theorem d_AckBook_Claim_add_46 : decode c_AckBook_Claim_add 46 = .ok (.aload_n 0, 1) := by decide +kernel
theorem d_AckBook_Claim_add_47 : decode c_AckBook_Claim_add 47 = .ok (.getfield 18, 3) := by decide +kernel
theorem d_AckBook_Claim_add_50 : decode c_AckBook_Claim_add 50 = .ok (.ireturn, 1) := by decide +kernel
theorem d_AckBook_Claim_add_7 : decode c_AckBook_Claim_add 7 = .ok (.aload_n 0, 1) := by decide +kernel
theorem d_AckBook_Claim_add_8 : decode c_AckBook_Claim_add 8 = .ok (.getfield 18, 3) := by decide +kernel
theorem d_AckBook_Claim_add_11 : decode c_AckBook_Claim_add 11 = .ok (.bipush (64), 2) := by decide +kernel
theorem d_AckBook_Claim_add_13 : decode c_AckBook_Claim_add 13 = .ok (.if_icmp .ge (33), 3) := by decide +kernel
theorem d_AckBook_Claim_add_16 : decode c_AckBook_Claim_add 16 = .ok (.aload_n 0, 1) := by decide +kernel
theorem d_AckBook_Claim_add_17 : decode c_AckBook_Claim_add 17 = .ok (.getfield 9, 3) := by decide +kernel
theorem d_AckBook_Claim_add_20 : decode c_AckBook_Claim_add 20 = .ok (.aload_n 0, 1) := by decide +kernel
theorem d_AckBook_Claim_add_21 : decode c_AckBook_Claim_add 21 = .ok (.getfield 18, 3) := by decide +kernel
theorem d_AckBook_Claim_add_24 : decode c_AckBook_Claim_add 24 = .ok (.lload_n 1, 1) := by decide +kernel
theorem d_AckBook_Claim_add_25 : decode c_AckBook_Claim_add 25 = .ok (.lastore, 1) := by decide +kernel
theorem d_AckBook_Claim_add_26 : decode c_AckBook_Claim_add 26 = .ok (.aload_n 0, 1) := by decide +kernel
theorem d_AckBook_Claim_add_27 : decode c_AckBook_Claim_add 27 = .ok (.getfield 15, 3) := by decide +kernel
theorem d_AckBook_Claim_add_30 : decode c_AckBook_Claim_add 30 = .ok (.aload_n 0, 1) := by decide +kernel
theorem d_AckBook_Claim_add_31 : decode c_AckBook_Claim_add 31 = .ok (.getfield 18, 3) := by decide +kernel
theorem d_AckBook_Claim_add_34 : decode c_AckBook_Claim_add 34 = .ok (.lload_n 3, 1) := by decide +kernel
theorem d_AckBook_Claim_add_35 : decode c_AckBook_Claim_add 35 = .ok (.lastore, 1) := by decide +kernel
theorem d_AckBook_Claim_add_36 : decode c_AckBook_Claim_add 36 = .ok (.aload_n 0, 1) := by decide +kernel
theorem d_AckBook_Claim_add_37 : decode c_AckBook_Claim_add 37 = .ok (.dup, 1) := by decide +kernel
theorem d_AckBook_Claim_add_38 : decode c_AckBook_Claim_add 38 = .ok (.getfield 18, 3) := by decide +kernel
theorem d_AckBook_Claim_add_41 : decode c_AckBook_Claim_add 41 = .ok (.iconst (1), 1) := by decide +kernel
theorem d_AckBook_Claim_add_42 : decode c_AckBook_Claim_add 42 = .ok (.iadd, 1) := by decide +kernel
theorem d_AckBook_Claim_add_43 : decode c_AckBook_Claim_add 43 = .ok (.putfield 18, 3) := by decide +kernel
theorem d_AckBook_span_0 : decode c_AckBook_span 0 = .ok (.lload_n 1, 1) := by decide +kernel
theorem d_AckBook_span_1 : decode c_AckBook_span 1 = .ok (.lconst 0, 1) := by decide +kernel
theorem d_AckBook_span_2 : decode c_AckBook_span 2 = .ok (.lcmp, 1) := by decide +kernel
theorem d_AckBook_span_3 : decode c_AckBook_span 3 = .ok (.ifCond .lt (9), 3) := by decide +kernel
theorem d_AckBook_span_12 : decode c_AckBook_span 12 = .ok (.new 43, 3) := by decide +kernel
theorem d_AckBook_span_15 : decode c_AckBook_span 15 = .ok (.dup, 1) := by decide +kernel
theorem d_AckBook_span_16 : decode c_AckBook_span 16 = .ok (.ldc 91, 2) := by decide +kernel
theorem d_AckBook_span_18 : decode c_AckBook_span 18 = .ok (.invokespecial 47, 3) := by decide +kernel
theorem d_AckBook_span_21 : decode c_AckBook_span 21 = .ok (.athrow, 1) := by decide +kernel
theorem d_AckBook_span_6 : decode c_AckBook_span 6 = .ok (.lload_n 3, 1) := by decide +kernel
theorem d_AckBook_span_7 : decode c_AckBook_span 7 = .ok (.lload_n 1, 1) := by decide +kernel
theorem d_AckBook_span_8 : decode c_AckBook_span 8 = .ok (.lcmp, 1) := by decide +kernel
theorem d_AckBook_span_9 : decode c_AckBook_span 9 = .ok (.ifCond .ge (13), 3) := by decide +kernel
theorem d_AckBook_span_22 : decode c_AckBook_span 22 = .ok (.aload_n 0, 1) := by decide +kernel
theorem d_AckBook_span_23 : decode c_AckBook_span 23 = .ok (.getfield 21, 3) := by decide +kernel
theorem d_AckBook_span_26 : decode c_AckBook_span 26 = .ok (.lload_n 3, 1) := by decide +kernel
theorem d_AckBook_span_27 : decode c_AckBook_span 27 = .ok (.invokevirtual 93, 3) := by decide +kernel
theorem d_AckBook_span_30 : decode c_AckBook_span 30 = .ok (.ifCond .ne (13), 3) := by decide +kernel
theorem d_AckBook_span_33 : decode c_AckBook_span 33 = .ok (.new 43, 3) := by decide +kernel
theorem d_AckBook_span_36 : decode c_AckBook_span 36 = .ok (.dup, 1) := by decide +kernel
theorem d_AckBook_span_37 : decode c_AckBook_span 37 = .ok (.ldc 97, 2) := by decide +kernel
theorem d_AckBook_span_39 : decode c_AckBook_span 39 = .ok (.invokespecial 47, 3) := by decide +kernel
theorem d_AckBook_span_42 : decode c_AckBook_span 42 = .ok (.athrow, 1) := by decide +kernel
theorem d_AckBook_span_43 : decode c_AckBook_span 43 = .ok (.aload_n 0, 1) := by decide +kernel
theorem d_AckBook_span_44 : decode c_AckBook_span 44 = .ok (.getfield 21, 3) := by decide +kernel
theorem d_AckBook_span_47 : decode c_AckBook_span 47 = .ok (.invokevirtual 99, 3) := by decide +kernel
theorem d_AckBook_span_50 : decode c_AckBook_span 50 = .ok (.ifCond .eq (13), 3) := by decide +kernel
theorem d_AckBook_span_63 : decode c_AckBook_span 63 = .ok (.aload_n 0, 1) := by decide +kernel
theorem d_AckBook_span_64 : decode c_AckBook_span 64 = .ok (.getfield 21, 3) := by decide +kernel
theorem d_AckBook_span_67 : decode c_AckBook_span 67 = .ok (.lload_n 1, 1) := by decide +kernel
theorem d_AckBook_span_68 : decode c_AckBook_span 68 = .ok (.lload_n 3, 1) := by decide +kernel
theorem d_AckBook_span_69 : decode c_AckBook_span 69 = .ok (.invokevirtual 105, 3) := by decide +kernel
theorem d_AckBook_span_72 : decode c_AckBook_span 72 = .ok (.ireturn, 1) := by decide +kernel
theorem d_AckBook_span_53 : decode c_AckBook_span 53 = .ok (.new 66, 3) := by decide +kernel
theorem d_AckBook_span_56 : decode c_AckBook_span 56 = .ok (.dup, 1) := by decide +kernel
theorem d_AckBook_span_57 : decode c_AckBook_span 57 = .ok (.ldc 103, 2) := by decide +kernel
theorem d_AckBook_span_59 : decode c_AckBook_span 59 = .ok (.invokespecial 70, 3) := by decide +kernel
theorem d_AckBook_span_62 : decode c_AckBook_span 62 = .ok (.athrow, 1) := by decide +kernel
theorem d_AckBook_Claim_close_0 : decode c_AckBook_Claim_close 0 = .ok (.aload_n 0, 1) := by decide +kernel
theorem d_AckBook_Claim_close_1 : decode c_AckBook_Claim_close 1 = .ok (.aload_n 0, 1) := by decide +kernel
theorem d_AckBook_Claim_close_2 : decode c_AckBook_Claim_close 2 = .ok (.getfield 18, 3) := by decide +kernel
theorem d_AckBook_Claim_close_5 : decode c_AckBook_Claim_close 5 = .ok (.putfield 22, 3) := by decide +kernel
theorem d_AckBook_Claim_close_8 : decode c_AckBook_Claim_close 8 = .ok (.aload_n 0, 1) := by decide +kernel
theorem d_AckBook_Claim_close_9 : decode c_AckBook_Claim_close 9 = .ok (.iconst (0), 1) := by decide +kernel
theorem d_AckBook_Claim_close_10 : decode c_AckBook_Claim_close 10 = .ok (.putfield 18, 3) := by decide +kernel
theorem d_AckBook_Claim_close_13 : decode c_AckBook_Claim_close 13 = .ok (.return_, 1) := by decide +kernel
theorem d_AckBook_Claim_greatest_0 : decode c_AckBook_Claim_greatest 0 = .ok (.aload_n 0, 1) := by decide +kernel
theorem d_AckBook_Claim_greatest_1 : decode c_AckBook_Claim_greatest 1 = .ok (.getfield 22, 3) := by decide +kernel
theorem d_AckBook_Claim_greatest_4 : decode c_AckBook_Claim_greatest 4 = .ok (.ifCond .ne (9), 3) := by decide +kernel
theorem d_AckBook_Claim_greatest_7 : decode c_AckBook_Claim_greatest 7 = .ok (.ldc2_w 25, 3) := by decide +kernel
theorem d_AckBook_Claim_greatest_10 : decode c_AckBook_Claim_greatest 10 = .ok (.goto (9), 3) := by decide +kernel
theorem d_AckBook_Claim_greatest_19 : decode c_AckBook_Claim_greatest 19 = .ok (.lreturn, 1) := by decide +kernel
theorem d_AckBook_Claim_greatest_13 : decode c_AckBook_Claim_greatest 13 = .ok (.aload_n 0, 1) := by decide +kernel
theorem d_AckBook_Claim_greatest_14 : decode c_AckBook_Claim_greatest 14 = .ok (.getfield 15, 3) := by decide +kernel
theorem d_AckBook_Claim_greatest_17 : decode c_AckBook_Claim_greatest 17 = .ok (.iconst (0), 1) := by decide +kernel
theorem d_AckBook_Claim_greatest_18 : decode c_AckBook_Claim_greatest 18 = .ok (.laload, 1) := by decide +kernel
