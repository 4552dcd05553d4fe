theorem d_AckBook_Claim_isFull_4 : decode c_AckBook_Claim_isFull 4 = .ok (.bipush (64), 2) := by decide +kernel
theorem d_AckBook_Claim_isFull_6 : decode c_AckBook_Claim_isFull 6 = .ok (.if_icmp .lt (7), 3) := by decide +kernel
theorem d_AckBook_Claim_isFull_13 : decode c_AckBook_Claim_isFull 13 = .ok (.iconst (0), 1) := by decide +kernel
theorem d_AckBook_Claim_isFull_14 : decode c_AckBook_Claim_isFull 14 = .ok (.ireturn, 1) := by decide +kernel
theorem d_AckBook_Claim_isFull_9 : decode c_AckBook_Claim_isFull 9 = .ok (.iconst (1), 1) := by decide +kernel
theorem d_AckBook_Claim_isFull_10 : decode c_AckBook_Claim_isFull 10 = .ok (.goto (4), 3) := by decide +kernel
theorem d_AckBook_Claim_add_0 : decode c_AckBook_Claim_add 0 = .ok (.aload_n 0, 1) := by decide +kernel
theorem d_AckBook_Claim_add_1 : decode c_AckBook_Claim_add 1 = .ok (.getfield 18, 3) := by decide +kernel
theorem d_AckBook_Claim_add_4 : decode c_AckBook_Claim_add 4 = .ok (.ifCond .lt (42), 3) := by decide +kernel
theorem d_AckBook_Claim_add_46 : decode c_AckBook_Claim_add 46 = .ok (.aload_n 0, 1) := by decide +kernel
theorem d_AckBook_Claim_add_47 : decode c_AckBook_Claim_add 47 = .ok (.getfield 18, 3) := by decide +kernel
theorem d_AckBook_Claim_add_50 : decode c_AckBook_Claim_add 50 = .ok (.ireturn, 1) := by decide +kernel
theorem d_AckBook_Claim_add_7 : decode c_AckBook_Claim_add 7 = .ok (.aload_n 0, 1) := by decide +kernel
theorem d_AckBook_Claim_add_8 : decode c_AckBook_Claim_add 8 = .ok (.getfield 18, 3) := by decide +kernel
theorem d_AckBook_Claim_add_11 : decode c_AckBook_Claim_add 11 = .ok (.bipush (64), 2) := by decide +kernel
theorem d_AckBook_Claim_add_13 : decode c_AckBook_Claim_add 13 = .ok (.if_icmp .ge (33), 3) := by decide +kernel
theorem d_AckBook_Claim_add_16 : decode c_AckBook_Claim_add 16 = .ok (.aload_n 0, 1) := by decide +kernel
theorem d_AckBook_Claim_add_17 : decode c_AckBook_Claim_add 17 = .ok (.getfield 9, 3) := by decide +kernel
theorem d_AckBook_Claim_add_20 : decode c_AckBook_Claim_add 20 = .ok (.aload_n 0, 1) := by decide +kernel
theorem d_AckBook_Claim_add_21 : decode c_AckBook_Claim_add 21 = .ok (.getfield 18, 3) := by decide +kernel
theorem d_AckBook_Claim_add_24 : decode c_AckBook_Claim_add 24 = .ok (.lload_n 1, 1) := by decide +kernel
theorem d_AckBook_Claim_add_25 : decode c_AckBook_Claim_add 25 = .ok (.lastore, 1) := by decide +kernel
theorem d_AckBook_Claim_add_26 : decode c_AckBook_Claim_add 26 = .ok (.aload_n 0, 1) := by decide +kernel
theorem d_AckBook_Claim_add_27 : decode c_AckBook_Claim_add 27 = .ok (.getfield 15, 3) := by decide +kernel
theorem d_AckBook_Claim_add_30 : decode c_AckBook_Claim_add 30 = .ok (.aload_n 0, 1) := by decide +kernel
theorem d_AckBook_Claim_add_31 : decode c_AckBook_Claim_add 31 = .ok (.getfield 18, 3) := by decide +kernel
theorem d_AckBook_Claim_add_34 : decode c_AckBook_Claim_add 34 = .ok (.lload_n 3, 1) := by decide +kernel
theorem d_AckBook_Claim_add_35 : decode c_AckBook_Claim_add 35 = .ok (.lastore, 1) := by decide +kernel
theorem d_AckBook_Claim_add_36 : decode c_AckBook_Claim_add 36 = .ok (.aload_n 0, 1) := by decide +kernel
theorem d_AckBook_Claim_add_37 : decode c_AckBook_Claim_add 37 = .ok (.dup, 1) := by decide +kernel
theorem d_AckBook_Claim_add_38 : decode c_AckBook_Claim_add 38 = .ok (.getfield 18, 3) := by decide +kernel
theorem d_AckBook_Claim_add_41 : decode c_AckBook_Claim_add 41 = .ok (.iconst (1), 1) := by decide +kernel
theorem d_AckBook_Claim_add_42 : decode c_AckBook_Claim_add 42 = .ok (.iadd, 1) := by decide +kernel
theorem d_AckBook_Claim_add_43 : decode c_AckBook_Claim_add 43 = .ok (.putfield 18, 3) := by decide +kernel
theorem d_AckBook_Claim_close_0 : decode c_AckBook_Claim_close 0 = .ok (.aload_n 0, 1) := by decide +kernel
theorem d_AckBook_Claim_close_1 : decode c_AckBook_Claim_close 1 = .ok (.aload_n 0, 1) := by decide +kernel
theorem d_AckBook_Claim_close_2 : decode c_AckBook_Claim_close 2 = .ok (.getfield 18, 3) := by decide +kernel
theorem d_AckBook_Claim_close_5 : decode c_AckBook_Claim_close 5 = .ok (.putfield 22, 3) := by decide +kernel
theorem d_AckBook_Claim_close_8 : decode c_AckBook_Claim_close 8 = .ok (.aload_n 0, 1) := by decide +kernel
theorem d_AckBook_Claim_close_9 : decode c_AckBook_Claim_close 9 = .ok (.iconst (0), 1) := by decide +kernel
theorem d_AckBook_Claim_close_10 : decode c_AckBook_Claim_close 10 = .ok (.putfield 18, 3) := by decide +kernel
theorem d_AckBook_Claim_close_13 : decode c_AckBook_Claim_close 13 = .ok (.return_, 1) := by decide +kernel
theorem d_AckBook_Claim_greatest_0 : decode c_AckBook_Claim_greatest 0 = .ok (.aload_n 0, 1) := by decide +kernel
theorem d_AckBook_Claim_greatest_1 : decode c_AckBook_Claim_greatest 1 = .ok (.getfield 22, 3) := by decide +kernel
theorem d_AckBook_Claim_greatest_4 : decode c_AckBook_Claim_greatest 4 = .ok (.ifCond .ne (9), 3) := by decide +kernel
theorem d_AckBook_Claim_greatest_7 : decode c_AckBook_Claim_greatest 7 = .ok (.ldc2_w 25, 3) := by decide +kernel
theorem d_AckBook_Claim_greatest_10 : decode c_AckBook_Claim_greatest 10 = .ok (.goto (9), 3) := by decide +kernel
theorem d_AckBook_Claim_greatest_19 : decode c_AckBook_Claim_greatest 19 = .ok (.lreturn, 1) := by decide +kernel
theorem d_AckBook_Claim_greatest_13 : decode c_AckBook_Claim_greatest 13 = .ok (.aload_n 0, 1) := by decide +kernel
theorem d_AckBook_Claim_greatest_14 : decode c_AckBook_Claim_greatest 14 = .ok (.getfield 15, 3) := by decide +kernel
theorem d_AckBook_Claim_greatest_17 : decode c_AckBook_Claim_greatest 17 = .ok (.iconst (0), 1) := by decide +kernel
theorem d_AckBook_Claim_greatest_18 : decode c_AckBook_Claim_greatest 18 = .ok (.laload, 1) := by decide +kernel
theorem d_AckBook_Claim_high_0 : decode c_AckBook_Claim_high 0 = .ok (.iload_n 1, 1) := by decide +kernel
theorem d_AckBook_Claim_high_1 : decode c_AckBook_Claim_high 1 = .ok (.ifCond .lt (18), 3) := by decide +kernel
theorem d_AckBook_Claim_high_19 : decode c_AckBook_Claim_high 19 = .ok (.ldc2_w 25, 3) := by decide +kernel
theorem d_AckBook_Claim_high_22 : decode c_AckBook_Claim_high 22 = .ok (.lreturn, 1) := by decide +kernel
theorem d_AckBook_Claim_high_4 : decode c_AckBook_Claim_high 4 = .ok (.iload_n 1, 1) := by decide +kernel
theorem d_AckBook_Claim_high_5 : decode c_AckBook_Claim_high 5 = .ok (.bipush (64), 2) := by decide +kernel
theorem d_AckBook_Claim_high_7 : decode c_AckBook_Claim_high 7 = .ok (.if_icmp .ge (12), 3) := by decide +kernel
theorem d_AckBook_Claim_high_10 : decode c_AckBook_Claim_high 10 = .ok (.aload_n 0, 1) := by decide +kernel
theorem d_AckBook_Claim_high_11 : decode c_AckBook_Claim_high 11 = .ok (.getfield 15, 3) := by decide +kernel
theorem d_AckBook_Claim_high_14 : decode c_AckBook_Claim_high 14 = .ok (.iload_n 1, 1) := by decide +kernel
theorem d_AckBook_Claim_high_15 : decode c_AckBook_Claim_high 15 = .ok (.laload, 1) := by decide +kernel
theorem d_AckBook_Claim_high_16 : decode c_AckBook_Claim_high 16 = .ok (.goto (6), 3) := by decide +kernel
theorem d_AckBook_Claim_low_0 : decode c_AckBook_Claim_low 0 = .ok (.iload_n 1, 1) := by decide +kernel
theorem d_AckBook_Claim_low_1 : decode c_AckBook_Claim_low 1 = .ok (.ifCond .lt (18), 3) := by decide +kernel
theorem d_AckBook_Claim_low_19 : decode c_AckBook_Claim_low 19 = .ok (.ldc2_w 25, 3) := by decide +kernel
theorem d_AckBook_Claim_low_22 : decode c_AckBook_Claim_low 22 = .ok (.lreturn, 1) := by decide +kernel
theorem d_AckBook_Claim_low_4 : decode c_AckBook_Claim_low 4 = .ok (.iload_n 1, 1) := by decide +kernel
theorem d_AckBook_Claim_low_5 : decode c_AckBook_Claim_low 5 = .ok (.bipush (64), 2) := by decide +kernel
theorem d_AckBook_Claim_low_7 : decode c_AckBook_Claim_low 7 = .ok (.if_icmp .ge (12), 3) := by decide +kernel
theorem d_AckBook_Claim_low_10 : decode c_AckBook_Claim_low 10 = .ok (.aload_n 0, 1) := by decide +kernel
theorem d_AckBook_Claim_low_11 : decode c_AckBook_Claim_low 11 = .ok (.getfield 9, 3) := by decide +kernel
theorem d_AckBook_Claim_low_14 : decode c_AckBook_Claim_low 14 = .ok (.iload_n 1, 1) := by decide +kernel
theorem d_AckBook_Claim_low_15 : decode c_AckBook_Claim_low 15 = .ok (.laload, 1) := by decide +kernel
theorem d_AckBook_Claim_low_16 : decode c_AckBook_Claim_low 16 = .ok (.goto (6), 3) := by decide +kernel
theorem d_AckBook_Way_take_0 : decode c_AckBook_Way_take 0 = .ok (.aload_n 0, 1) := by decide +kernel
theorem d_AckBook_Way_take_1 : decode c_AckBook_Way_take 1 = .ok (.iload_n 1, 1) := by decide +kernel
theorem d_AckBook_Way_take_2 : decode c_AckBook_Way_take 2 = .ok (.putfield 24, 3) := by decide +kernel
theorem d_AckBook_Way_take_5 : decode c_AckBook_Way_take 5 = .ok (.aload_n 0, 1) := by decide +kernel
theorem d_AckBook_Way_take_6 : decode c_AckBook_Way_take 6 = .ok (.aload_n 0, 1) := by decide +kernel
theorem d_AckBook_Way_take_7 : decode c_AckBook_Way_take 7 = .ok (.getfield 18, 3) := by decide +kernel
theorem d_AckBook_Way_take_10 : decode c_AckBook_Way_take 10 = .ok (.iconst (-1), 1) := by decide +kernel
theorem d_AckBook_Way_take_11 : decode c_AckBook_Way_take 11 = .ok (.if_icmp .ne (7), 3) := by decide +kernel
theorem d_AckBook_Way_take_14 : decode c_AckBook_Way_take 14 = .ok (.iload_n 1, 1) := by decide +kernel
theorem d_AckBook_Way_take_15 : decode c_AckBook_Way_take 15 = .ok (.goto (11), 3) := by decide +kernel
theorem d_AckBook_Way_take_26 : decode c_AckBook_Way_take 26 = .ok (.putfield 18, 3) := by decide +kernel
theorem d_AckBook_Way_take_29 : decode c_AckBook_Way_take 29 = .ok (.aload_n 0, 1) := by decide +kernel
theorem d_AckBook_Way_take_30 : decode c_AckBook_Way_take 30 = .ok (.getfield 21, 3) := by decide +kernel
theorem d_AckBook_Way_take_33 : decode c_AckBook_Way_take 33 = .ok (.iconst (-1), 1) := by decide +kernel
theorem d_AckBook_Way_take_34 : decode c_AckBook_Way_take 34 = .ok (.if_icmp .ne (24), 3) := by decide +kernel
theorem d_AckBook_Way_take_37 : decode c_AckBook_Way_take 37 = .ok (.aload_n 0, 1) := by decide +kernel
theorem d_AckBook_Way_take_38 : decode c_AckBook_Way_take 38 = .ok (.iload_n 3, 1) := by decide +kernel
theorem d_AckBook_Way_take_39 : decode c_AckBook_Way_take 39 = .ok (.putfield 21, 3) := by decide +kernel
theorem d_AckBook_Way_take_42 : decode c_AckBook_Way_take 42 = .ok (.aload_n 0, 1) := by decide +kernel
theorem d_AckBook_Way_take_43 : decode c_AckBook_Way_take 43 = .ok (.bipush (8), 2) := by decide +kernel
theorem d_AckBook_Way_take_45 : decode c_AckBook_Way_take 45 = .ok (.iload_n 1, 1) := by decide +kernel
theorem d_AckBook_Way_take_46 : decode c_AckBook_Way_take 46 = .ok (.imul, 1) := by decide +kernel
theorem d_AckBook_Way_take_47 : decode c_AckBook_Way_take 47 = .ok (.putfield 9, 3) := by decide +kernel
theorem d_AckBook_Way_take_50 : decode c_AckBook_Way_take 50 = .ok (.aload_n 0, 1) := by decide +kernel
theorem d_AckBook_Way_take_51 : decode c_AckBook_Way_take 51 = .ok (.iconst (2), 1) := by decide +kernel
theorem d_AckBook_Way_take_52 : decode c_AckBook_Way_take 52 = .ok (.iload_n 1, 1) := by decide +kernel
theorem d_AckBook_Way_take_53 : decode c_AckBook_Way_take 53 = .ok (.imul, 1) := by decide +kernel
theorem d_AckBook_Way_take_54 : decode c_AckBook_Way_take 54 = .ok (.putfield 15, 3) := by decide +kernel
theorem d_AckBook_Way_take_57 : decode c_AckBook_Way_take 57 = .ok (.return_, 1) := by decide +kernel
theorem d_AckBook_Way_take_58 : decode c_AckBook_Way_take 58 = .ok (.iload_n 1, 1) := by decide +kernel
theorem d_AckBook_Way_take_59 : decode c_AckBook_Way_take 59 = .ok (.aload_n 0, 1) := by decide +kernel
theorem d_AckBook_Way_take_60 : decode c_AckBook_Way_take 60 = .ok (.getfield 18, 3) := by decide +kernel
theorem d_AckBook_Way_take_63 : decode c_AckBook_Way_take 63 = .ok (.iload_n 2, 1) := by decide +kernel
theorem d_AckBook_Way_take_64 : decode c_AckBook_Way_take 64 = .ok (.iadd, 1) := by decide +kernel
theorem d_AckBook_Way_take_65 : decode c_AckBook_Way_take 65 = .ok (.if_icmp .lt (9), 3) := by decide +kernel
theorem d_AckBook_Way_take_74 : decode c_AckBook_Way_take 74 = .ok (.iload_n 1, 1) := by decide +kernel
theorem d_AckBook_Way_take_75 : decode c_AckBook_Way_take 75 = .ok (.istore 4, 2) := by decide +kernel
theorem d_AckBook_Way_take_77 : decode c_AckBook_Way_take 77 = .ok (.aload_n 0, 1) := by decide +kernel
theorem d_AckBook_Way_take_78 : decode c_AckBook_Way_take 78 = .ok (.getfield 9, 3) := by decide +kernel
theorem d_AckBook_Way_take_81 : decode c_AckBook_Way_take 81 = .ok (.bipush (8), 2) := by decide +kernel
theorem d_AckBook_Way_take_83 : decode c_AckBook_Way_take 83 = .ok (.idiv, 1) := by decide +kernel
theorem d_AckBook_Way_take_84 : decode c_AckBook_Way_take 84 = .ok (.iload 4, 2) := by decide +kernel
theorem d_AckBook_Way_take_86 : decode c_AckBook_Way_take 86 = .ok (.isub, 1) := by decide +kernel
theorem d_AckBook_Way_take_87 : decode c_AckBook_Way_take 87 = .ok (.invokestatic 33, 3) := by decide +kernel
