theorem d_AckBook_Chain_init_0 : decode c_AckBook_Chain_init 0 = .ok (.aload_n 0, 1) := by decide +kernel
theorem d_AckBook_Chain_init_1 : decode c_AckBook_Chain_init 1 = .ok (.invokespecial 3, 3) := by decide +kernel
theorem d_AckBook_Chain_init_4 : decode c_AckBook_Chain_init 4 = .ok (.return_, 1) := by decide +kernel
theorem d_AckBook_Arrivals_init_0 : decode c_AckBook_Arrivals_init 0 = .ok (.aload_n 0, 1) := by decide +kernel
theorem d_AckBook_Arrivals_init_1 : decode c_AckBook_Arrivals_init 1 = .ok (.invokespecial 3, 3) := by decide +kernel
theorem d_AckBook_Arrivals_init_4 : decode c_AckBook_Arrivals_init 4 = .ok (.aload_n 0, 1) := by decide +kernel
theorem d_AckBook_Arrivals_init_5 : decode c_AckBook_Arrivals_init 5 = .ok (.bipush (65), 2) := by decide +kernel
theorem d_AckBook_Arrivals_init_7 : decode c_AckBook_Arrivals_init 7 = .ok (.newarray .long, 2) := by decide +kernel
theorem d_AckBook_Arrivals_init_9 : decode c_AckBook_Arrivals_init 9 = .ok (.putfield 9, 3) := by decide +kernel
theorem d_AckBook_Arrivals_init_12 : decode c_AckBook_Arrivals_init 12 = .ok (.aload_n 0, 1) := by decide +kernel
theorem d_AckBook_Arrivals_init_13 : decode c_AckBook_Arrivals_init 13 = .ok (.bipush (65), 2) := by decide +kernel
theorem d_AckBook_Arrivals_init_15 : decode c_AckBook_Arrivals_init 15 = .ok (.newarray .long, 2) := by decide +kernel
theorem d_AckBook_Arrivals_init_17 : decode c_AckBook_Arrivals_init 17 = .ok (.putfield 15, 3) := by decide +kernel
theorem d_AckBook_Arrivals_init_20 : decode c_AckBook_Arrivals_init 20 = .ok (.return_, 1) := by decide +kernel
theorem d_AckBook_Claim_init_0 : decode c_AckBook_Claim_init 0 = .ok (.aload_n 0, 1) := by decide +kernel
theorem d_AckBook_Claim_init_1 : decode c_AckBook_Claim_init 1 = .ok (.invokespecial 3, 3) := by decide +kernel
theorem d_AckBook_Claim_init_4 : decode c_AckBook_Claim_init 4 = .ok (.aload_n 0, 1) := by decide +kernel
theorem d_AckBook_Claim_init_5 : decode c_AckBook_Claim_init 5 = .ok (.bipush (64), 2) := by decide +kernel
theorem d_AckBook_Claim_init_7 : decode c_AckBook_Claim_init 7 = .ok (.newarray .long, 2) := by decide +kernel
theorem d_AckBook_Claim_init_9 : decode c_AckBook_Claim_init 9 = .ok (.putfield 9, 3) := by decide +kernel
theorem d_AckBook_Claim_init_12 : decode c_AckBook_Claim_init 12 = .ok (.aload_n 0, 1) := by decide +kernel
theorem d_AckBook_Claim_init_13 : decode c_AckBook_Claim_init 13 = .ok (.bipush (64), 2) := by decide +kernel
theorem d_AckBook_Claim_init_15 : decode c_AckBook_Claim_init 15 = .ok (.newarray .long, 2) := by decide +kernel
theorem d_AckBook_Claim_init_17 : decode c_AckBook_Claim_init 17 = .ok (.putfield 15, 3) := by decide +kernel
theorem d_AckBook_Claim_init_20 : decode c_AckBook_Claim_init 20 = .ok (.return_, 1) := by decide +kernel
theorem d_AckBook_Way_init_0 : decode c_AckBook_Way_init 0 = .ok (.aload_n 0, 1) := by decide +kernel
theorem d_AckBook_Way_init_1 : decode c_AckBook_Way_init 1 = .ok (.invokespecial 3, 3) := by decide +kernel
theorem d_AckBook_Way_init_4 : decode c_AckBook_Way_init 4 = .ok (.aload_n 0, 1) := by decide +kernel
theorem d_AckBook_Way_init_5 : decode c_AckBook_Way_init 5 = .ok (.sipush (800), 3) := by decide +kernel
theorem d_AckBook_Way_init_8 : decode c_AckBook_Way_init 8 = .ok (.putfield 9, 3) := by decide +kernel
theorem d_AckBook_Way_init_11 : decode c_AckBook_Way_init 11 = .ok (.aload_n 0, 1) := by decide +kernel
theorem d_AckBook_Way_init_12 : decode c_AckBook_Way_init 12 = .ok (.sipush (200), 3) := by decide +kernel
theorem d_AckBook_Way_init_15 : decode c_AckBook_Way_init 15 = .ok (.putfield 15, 3) := by decide +kernel
theorem d_AckBook_Way_init_18 : decode c_AckBook_Way_init 18 = .ok (.aload_n 0, 1) := by decide +kernel
theorem d_AckBook_Way_init_19 : decode c_AckBook_Way_init 19 = .ok (.iconst (-1), 1) := by decide +kernel
theorem d_AckBook_Way_init_20 : decode c_AckBook_Way_init 20 = .ok (.putfield 18, 3) := by decide +kernel
theorem d_AckBook_Way_init_23 : decode c_AckBook_Way_init 23 = .ok (.aload_n 0, 1) := by decide +kernel
theorem d_AckBook_Way_init_24 : decode c_AckBook_Way_init 24 = .ok (.iconst (-1), 1) := by decide +kernel
theorem d_AckBook_Way_init_25 : decode c_AckBook_Way_init 25 = .ok (.putfield 21, 3) := by decide +kernel
theorem d_AckBook_Way_init_28 : decode c_AckBook_Way_init 28 = .ok (.return_, 1) := by decide +kernel
theorem d_AckBook_Flow_init_0 : decode c_AckBook_Flow_init 0 = .ok (.aload_n 0, 1) := by decide +kernel
theorem d_AckBook_Flow_init_1 : decode c_AckBook_Flow_init 1 = .ok (.invokespecial 3, 3) := by decide +kernel
theorem d_AckBook_Flow_init_4 : decode c_AckBook_Flow_init 4 = .ok (.aload_n 0, 1) := by decide +kernel
theorem d_AckBook_Flow_init_5 : decode c_AckBook_Flow_init 5 = .ok (.sipush (12000), 3) := by decide +kernel
theorem d_AckBook_Flow_init_8 : decode c_AckBook_Flow_init 8 = .ok (.putfield 9, 3) := by decide +kernel
theorem d_AckBook_Flow_init_11 : decode c_AckBook_Flow_init 11 = .ok (.aload_n 0, 1) := by decide +kernel
theorem d_AckBook_Flow_init_12 : decode c_AckBook_Flow_init 12 = .ok (.iconst (-1), 1) := by decide +kernel
theorem d_AckBook_Flow_init_13 : decode c_AckBook_Flow_init 13 = .ok (.putfield 15, 3) := by decide +kernel
theorem d_AckBook_Flow_init_16 : decode c_AckBook_Flow_init 16 = .ok (.aload_n 0, 1) := by decide +kernel
theorem d_AckBook_Flow_init_17 : decode c_AckBook_Flow_init 17 = .ok (.iconst (-1), 1) := by decide +kernel
theorem d_AckBook_Flow_init_18 : decode c_AckBook_Flow_init 18 = .ok (.putfield 18, 3) := by decide +kernel
theorem d_AckBook_Flow_init_21 : decode c_AckBook_Flow_init 21 = .ok (.return_, 1) := by decide +kernel
theorem d_AckBook_Way_patience_0 : decode c_AckBook_Way_patience 0 = .ok (.aload_n 0, 1) := by decide +kernel
theorem d_AckBook_Way_patience_1 : decode c_AckBook_Way_patience 1 = .ok (.getfield 9, 3) := by decide +kernel
theorem d_AckBook_Way_patience_4 : decode c_AckBook_Way_patience 4 = .ok (.bipush (8), 2) := by decide +kernel
theorem d_AckBook_Way_patience_6 : decode c_AckBook_Way_patience 6 = .ok (.idiv, 1) := by decide +kernel
theorem d_AckBook_Way_patience_7 : decode c_AckBook_Way_patience 7 = .ok (.aload_n 0, 1) := by decide +kernel
theorem d_AckBook_Way_patience_8 : decode c_AckBook_Way_patience 8 = .ok (.getfield 15, 3) := by decide +kernel
theorem d_AckBook_Way_patience_11 : decode c_AckBook_Way_patience 11 = .ok (.iconst (1), 1) := by decide +kernel
theorem d_AckBook_Way_patience_12 : decode c_AckBook_Way_patience 12 = .ok (.invokestatic 37, 3) := by decide +kernel
theorem d_AckBook_Way_patience_15 : decode c_AckBook_Way_patience 15 = .ok (.iadd, 1) := by decide +kernel
theorem d_AckBook_Way_patience_16 : decode c_AckBook_Way_patience 16 = .ok (.ireturn, 1) := by decide +kernel
theorem d_AckBook_Way_limit_0 : decode c_AckBook_Way_limit 0 = .ok (.bipush (9), 2) := by decide +kernel
theorem d_AckBook_Way_limit_2 : decode c_AckBook_Way_limit 2 = .ok (.aload_n 0, 1) := by decide +kernel
theorem d_AckBook_Way_limit_3 : decode c_AckBook_Way_limit 3 = .ok (.getfield 9, 3) := by decide +kernel
theorem d_AckBook_Way_limit_6 : decode c_AckBook_Way_limit 6 = .ok (.bipush (8), 2) := by decide +kernel
theorem d_AckBook_Way_limit_8 : decode c_AckBook_Way_limit 8 = .ok (.idiv, 1) := by decide +kernel
theorem d_AckBook_Way_limit_9 : decode c_AckBook_Way_limit 9 = .ok (.aload_n 0, 1) := by decide +kernel
theorem d_AckBook_Way_limit_10 : decode c_AckBook_Way_limit 10 = .ok (.getfield 24, 3) := by decide +kernel
theorem d_AckBook_Way_limit_13 : decode c_AckBook_Way_limit 13 = .ok (.invokestatic 37, 3) := by decide +kernel
theorem d_AckBook_Way_limit_16 : decode c_AckBook_Way_limit 16 = .ok (.imul, 1) := by decide +kernel
theorem d_AckBook_Way_limit_17 : decode c_AckBook_Way_limit 17 = .ok (.bipush (8), 2) := by decide +kernel
theorem d_AckBook_Way_limit_19 : decode c_AckBook_Way_limit 19 = .ok (.idiv, 1) := by decide +kernel
theorem d_AckBook_Way_limit_20 : decode c_AckBook_Way_limit 20 = .ok (.iconst (1), 1) := by decide +kernel
theorem d_AckBook_Way_limit_21 : decode c_AckBook_Way_limit 21 = .ok (.invokestatic 37, 3) := by decide +kernel
theorem d_AckBook_Way_limit_24 : decode c_AckBook_Way_limit 24 = .ok (.ireturn, 1) := by decide +kernel
theorem d_AckBook_Chain_append_0 : decode c_AckBook_Chain_append 0 = .ok (.aload_n 0, 1) := by decide +kernel
theorem d_AckBook_Chain_append_1 : decode c_AckBook_Chain_append 1 = .ok (.getfield 9, 3) := by decide +kernel
theorem d_AckBook_Chain_append_4 : decode c_AckBook_Chain_append 4 = .ok (.ifnull (10), 3) := by decide +kernel
theorem d_AckBook_Chain_append_14 : decode c_AckBook_Chain_append 14 = .ok (.aload_n 0, 1) := by decide +kernel
theorem d_AckBook_Chain_append_15 : decode c_AckBook_Chain_append 15 = .ok (.aload_n 1, 1) := by decide +kernel
theorem d_AckBook_Chain_append_16 : decode c_AckBook_Chain_append 16 = .ok (.putfield 9, 3) := by decide +kernel
theorem d_AckBook_Chain_append_19 : decode c_AckBook_Chain_append 19 = .ok (.goto (11), 3) := by decide +kernel
theorem d_AckBook_Chain_append_30 : decode c_AckBook_Chain_append 30 = .ok (.aload_n 0, 1) := by decide +kernel
theorem d_AckBook_Chain_append_31 : decode c_AckBook_Chain_append 31 = .ok (.aload_n 1, 1) := by decide +kernel
theorem d_AckBook_Chain_append_32 : decode c_AckBook_Chain_append 32 = .ok (.putfield 15, 3) := by decide +kernel
theorem d_AckBook_Chain_append_35 : decode c_AckBook_Chain_append 35 = .ok (.return_, 1) := by decide +kernel
theorem d_AckBook_Chain_append_7 : decode c_AckBook_Chain_append 7 = .ok (.aload_n 0, 1) := by decide +kernel
theorem d_AckBook_Chain_append_8 : decode c_AckBook_Chain_append 8 = .ok (.getfield 15, 3) := by decide +kernel
theorem d_AckBook_Chain_append_11 : decode c_AckBook_Chain_append 11 = .ok (.ifnonnull (11), 3) := by decide +kernel
theorem d_AckBook_Chain_append_22 : decode c_AckBook_Chain_append 22 = .ok (.aload_n 0, 1) := by decide +kernel
theorem d_AckBook_Chain_append_23 : decode c_AckBook_Chain_append 23 = .ok (.getfield 15, 3) := by decide +kernel
theorem d_AckBook_Chain_append_26 : decode c_AckBook_Chain_append 26 = .ok (.aload_n 1, 1) := by decide +kernel
theorem d_AckBook_Chain_append_27 : decode c_AckBook_Chain_append 27 = .ok (.putfield 18, 3) := by decide +kernel
theorem d_AckBook_Flow_leave_0 : decode c_AckBook_Flow_leave 0 = .ok (.aload_n 1, 1) := by decide +kernel
theorem d_AckBook_Flow_leave_1 : decode c_AckBook_Flow_leave 1 = .ok (.getfield 21, 3) := by decide +kernel
theorem d_AckBook_Flow_leave_4 : decode c_AckBook_Flow_leave 4 = .ok (.ifCond .eq (16), 3) := by decide +kernel
theorem d_AckBook_Flow_leave_20 : decode c_AckBook_Flow_leave 20 = .ok (.return_, 1) := by decide +kernel
theorem d_AckBook_Flow_leave_7 : decode c_AckBook_Flow_leave 7 = .ok (.aload_n 0, 1) := by decide +kernel
theorem d_AckBook_Flow_leave_8 : decode c_AckBook_Flow_leave 8 = .ok (.dup, 1) := by decide +kernel
theorem d_AckBook_Flow_leave_9 : decode c_AckBook_Flow_leave 9 = .ok (.getfield 27, 3) := by decide +kernel
theorem d_AckBook_Flow_leave_12 : decode c_AckBook_Flow_leave 12 = .ok (.aload_n 1, 1) := by decide +kernel
theorem d_AckBook_Flow_leave_13 : decode c_AckBook_Flow_leave 13 = .ok (.getfield 30, 3) := by decide +kernel
theorem d_AckBook_Flow_leave_16 : decode c_AckBook_Flow_leave 16 = .ok (.isub, 1) := by decide +kernel
theorem d_AckBook_Flow_leave_17 : decode c_AckBook_Flow_leave 17 = .ok (.putfield 27, 3) := by decide +kernel
theorem d_AckBook_Flow_isAfterRecovery_0 : decode c_AckBook_Flow_isAfterRecovery 0 = .ok (.aload_n 0, 1) := by decide +kernel
theorem d_AckBook_Flow_isAfterRecovery_1 : decode c_AckBook_Flow_isAfterRecovery 1 = .ok (.getfield 18, 3) := by decide +kernel
theorem d_AckBook_Flow_isAfterRecovery_4 : decode c_AckBook_Flow_isAfterRecovery 4 = .ok (.iconst (-1), 1) := by decide +kernel
theorem d_AckBook_Flow_isAfterRecovery_5 : decode c_AckBook_Flow_isAfterRecovery 5 = .ok (.if_icmp .eq (14), 3) := by decide +kernel
theorem d_AckBook_Flow_isAfterRecovery_19 : decode c_AckBook_Flow_isAfterRecovery 19 = .ok (.iconst (1), 1) := by decide +kernel
theorem d_AckBook_Flow_isAfterRecovery_20 : decode c_AckBook_Flow_isAfterRecovery 20 = .ok (.goto (4), 3) := by decide +kernel
theorem d_AckBook_Flow_isAfterRecovery_24 : decode c_AckBook_Flow_isAfterRecovery 24 = .ok (.ireturn, 1) := by decide +kernel
theorem d_AckBook_Flow_isAfterRecovery_8 : decode c_AckBook_Flow_isAfterRecovery 8 = .ok (.aload_n 1, 1) := by decide +kernel
theorem d_AckBook_Flow_isAfterRecovery_9 : decode c_AckBook_Flow_isAfterRecovery 9 = .ok (.getfield 58, 3) := by decide +kernel
theorem d_AckBook_Flow_isAfterRecovery_12 : decode c_AckBook_Flow_isAfterRecovery 12 = .ok (.aload_n 0, 1) := by decide +kernel
theorem d_AckBook_Flow_isAfterRecovery_13 : decode c_AckBook_Flow_isAfterRecovery 13 = .ok (.getfield 18, 3) := by decide +kernel
theorem d_AckBook_Flow_isAfterRecovery_16 : decode c_AckBook_Flow_isAfterRecovery 16 = .ok (.if_icmp .le (7), 3) := by decide +kernel
theorem d_AckBook_Flow_isAfterRecovery_23 : decode c_AckBook_Flow_isAfterRecovery 23 = .ok (.iconst (0), 1) := by decide +kernel
theorem d_AckBook_Flow_leaveLost_5 : decode c_AckBook_Flow_leaveLost 5 = .ok (.aload 4, 2) := by decide +kernel
theorem d_AckBook_Flow_leaveLost_7 : decode c_AckBook_Flow_leaveLost 7 = .ok (.ifnull (46), 3) := by decide +kernel
