theorem d_AckBook_Chain_init_0 : decode c_AckBook_Chain_init 0 = .ok (.aload_n 0, 1) := by decide +kernel
theorem d_AckBook_Chain_init_1 : decode c_AckBook_Chain_init 1 = .ok (.invokespecial 3, 3) := by decide +kernel
theorem d_AckBook_Chain_init_4 : decode c_AckBook_Chain_init 4 = .ok (.return_, 1) := by decide +kernel
theorem d_AbstractCollection_init_0 : decode c_AbstractCollection_init 0 = .ok (.aload_n 0, 1) := by decide +kernel
theorem d_AbstractCollection_init_1 : decode c_AbstractCollection_init 1 = .ok (.invokespecial 1, 3) := by decide +kernel
theorem d_AbstractCollection_init_4 : decode c_AbstractCollection_init 4 = .ok (.return_, 1) := by decide +kernel
theorem d_AbstractList_init_0 : decode c_AbstractList_init 0 = .ok (.aload_n 0, 1) := by decide +kernel
theorem d_AbstractList_init_1 : decode c_AbstractList_init 1 = .ok (.invokespecial 1, 3) := by decide +kernel
theorem d_AbstractList_init_4 : decode c_AbstractList_init 4 = .ok (.aload_n 0, 1) := by decide +kernel
theorem d_AbstractList_init_5 : decode c_AbstractList_init 5 = .ok (.iconst (0), 1) := by decide +kernel
theorem d_AbstractList_init_6 : decode c_AbstractList_init 6 = .ok (.putfield 7, 3) := by decide +kernel
theorem d_AbstractList_init_9 : decode c_AbstractList_init 9 = .ok (.return_, 1) := by decide +kernel
theorem d_ArrayList_init_0 : decode c_ArrayList_init 0 = .ok (.aload_n 0, 1) := by decide +kernel
theorem d_ArrayList_init_1 : decode c_ArrayList_init 1 = .ok (.invokespecial 1, 3) := by decide +kernel
theorem d_ArrayList_init_4 : decode c_ArrayList_init 4 = .ok (.aload_n 0, 1) := by decide +kernel
theorem d_ArrayList_init_5 : decode c_ArrayList_init 5 = .ok (.getstatic 39, 3) := by decide +kernel
theorem d_ArrayList_init_8 : decode c_ArrayList_init 8 = .ok (.putfield 9, 3) := by decide +kernel
theorem d_ArrayList_init_11 : decode c_ArrayList_init 11 = .ok (.return_, 1) := by decide +kernel
theorem d_AckBook_Sent_init_0 : decode c_AckBook_Sent_init 0 = .ok (.aload_n 0, 1) := by decide +kernel
theorem d_AckBook_Sent_init_1 : decode c_AckBook_Sent_init 1 = .ok (.invokespecial 3, 3) := by decide +kernel
theorem d_AckBook_Sent_init_4 : decode c_AckBook_Sent_init 4 = .ok (.aload_n 0, 1) := by decide +kernel
theorem d_AckBook_Sent_init_5 : decode c_AckBook_Sent_init 5 = .ok (.new 9, 3) := by decide +kernel
theorem d_AckBook_Sent_init_8 : decode c_AckBook_Sent_init 8 = .ok (.dup, 1) := by decide +kernel
theorem d_AckBook_Sent_init_9 : decode c_AckBook_Sent_init 9 = .ok (.invokespecial 11, 3) := by decide +kernel
theorem d_AckBook_Sent_init_12 : decode c_AckBook_Sent_init 12 = .ok (.putfield 12, 3) := by decide +kernel
theorem d_AckBook_Sent_init_15 : decode c_AckBook_Sent_init 15 = .ok (.aload_n 0, 1) := by decide +kernel
theorem d_AckBook_Sent_init_16 : decode c_AckBook_Sent_init 16 = .ok (.new 9, 3) := by decide +kernel
theorem d_AckBook_Sent_init_19 : decode c_AckBook_Sent_init 19 = .ok (.dup, 1) := by decide +kernel
theorem d_AckBook_Sent_init_20 : decode c_AckBook_Sent_init 20 = .ok (.invokespecial 11, 3) := by decide +kernel
theorem d_AckBook_Sent_init_23 : decode c_AckBook_Sent_init 23 = .ok (.putfield 18, 3) := by decide +kernel
theorem d_AckBook_Sent_init_26 : decode c_AckBook_Sent_init 26 = .ok (.aload_n 0, 1) := by decide +kernel
theorem d_AckBook_Sent_init_27 : decode c_AckBook_Sent_init 27 = .ok (.new 21, 3) := by decide +kernel
theorem d_AckBook_Sent_init_30 : decode c_AckBook_Sent_init 30 = .ok (.dup, 1) := by decide +kernel
theorem d_AckBook_Sent_init_31 : decode c_AckBook_Sent_init 31 = .ok (.invokespecial 23, 3) := by decide +kernel
theorem d_AckBook_Sent_init_34 : decode c_AckBook_Sent_init 34 = .ok (.putfield 24, 3) := by decide +kernel
theorem d_AckBook_Sent_init_37 : decode c_AckBook_Sent_init 37 = .ok (.aload_n 0, 1) := by decide +kernel
theorem d_AckBook_Sent_init_38 : decode c_AckBook_Sent_init 38 = .ok (.iconst (-1), 1) := by decide +kernel
theorem d_AckBook_Sent_init_39 : decode c_AckBook_Sent_init 39 = .ok (.putfield 28, 3) := by decide +kernel
theorem d_AckBook_Sent_init_42 : decode c_AckBook_Sent_init 42 = .ok (.aload_n 0, 1) := by decide +kernel
theorem d_AckBook_Sent_init_43 : decode c_AckBook_Sent_init 43 = .ok (.iconst (-1), 1) := by decide +kernel
theorem d_AckBook_Sent_init_44 : decode c_AckBook_Sent_init 44 = .ok (.putfield 32, 3) := by decide +kernel
theorem d_AckBook_Sent_init_47 : decode c_AckBook_Sent_init 47 = .ok (.return_, 1) := by decide +kernel
theorem d_AckBook_Arrivals_init_0 : decode c_AckBook_Arrivals_init 0 = .ok (.aload_n 0, 1) := by decide +kernel
theorem d_AckBook_Arrivals_init_1 : decode c_AckBook_Arrivals_init 1 = .ok (.invokespecial 3, 3) := by decide +kernel
theorem d_AckBook_Arrivals_init_4 : decode c_AckBook_Arrivals_init 4 = .ok (.aload_n 0, 1) := by decide +kernel
theorem d_AckBook_Arrivals_init_5 : decode c_AckBook_Arrivals_init 5 = .ok (.bipush (65), 2) := by decide +kernel
theorem d_AckBook_Arrivals_init_7 : decode c_AckBook_Arrivals_init 7 = .ok (.newarray .long, 2) := by decide +kernel
theorem d_AckBook_Arrivals_init_9 : decode c_AckBook_Arrivals_init 9 = .ok (.putfield 9, 3) := by decide +kernel
theorem d_AckBook_Arrivals_init_12 : decode c_AckBook_Arrivals_init 12 = .ok (.aload_n 0, 1) := by decide +kernel
theorem d_AckBook_Arrivals_init_13 : decode c_AckBook_Arrivals_init 13 = .ok (.bipush (65), 2) := by decide +kernel
theorem d_AckBook_Arrivals_init_15 : decode c_AckBook_Arrivals_init 15 = .ok (.newarray .long, 2) := by decide +kernel
theorem d_AckBook_Arrivals_init_17 : decode c_AckBook_Arrivals_init 17 = .ok (.putfield 15, 3) := by decide +kernel
theorem d_AckBook_Arrivals_init_20 : decode c_AckBook_Arrivals_init 20 = .ok (.return_, 1) := by decide +kernel
theorem d_AckBook_Space_init_0 : decode c_AckBook_Space_init 0 = .ok (.aload_n 0, 1) := by decide +kernel
theorem d_AckBook_Space_init_1 : decode c_AckBook_Space_init 1 = .ok (.invokespecial 1, 3) := by decide +kernel
theorem d_AckBook_Space_init_4 : decode c_AckBook_Space_init 4 = .ok (.aload_n 0, 1) := by decide +kernel
theorem d_AckBook_Space_init_5 : decode c_AckBook_Space_init 5 = .ok (.iload_n 1, 1) := by decide +kernel
theorem d_AckBook_Space_init_6 : decode c_AckBook_Space_init 6 = .ok (.putfield 7, 3) := by decide +kernel
theorem d_AckBook_Space_init_9 : decode c_AckBook_Space_init 9 = .ok (.aload_n 0, 1) := by decide +kernel
theorem d_AckBook_Space_init_10 : decode c_AckBook_Space_init 10 = .ok (.new 13, 3) := by decide +kernel
theorem d_AckBook_Space_init_13 : decode c_AckBook_Space_init 13 = .ok (.dup, 1) := by decide +kernel
theorem d_AckBook_Space_init_14 : decode c_AckBook_Space_init 14 = .ok (.invokespecial 15, 3) := by decide +kernel
theorem d_AckBook_Space_init_17 : decode c_AckBook_Space_init 17 = .ok (.putfield 16, 3) := by decide +kernel
theorem d_AckBook_Space_init_20 : decode c_AckBook_Space_init 20 = .ok (.aload_n 0, 1) := by decide +kernel
theorem d_AckBook_Space_init_21 : decode c_AckBook_Space_init 21 = .ok (.new 20, 3) := by decide +kernel
theorem d_AckBook_Space_init_24 : decode c_AckBook_Space_init 24 = .ok (.dup, 1) := by decide +kernel
theorem d_AckBook_Space_init_25 : decode c_AckBook_Space_init 25 = .ok (.invokespecial 22, 3) := by decide +kernel
theorem d_AckBook_Space_init_28 : decode c_AckBook_Space_init 28 = .ok (.putfield 23, 3) := by decide +kernel
theorem d_AckBook_Space_init_31 : decode c_AckBook_Space_init 31 = .ok (.return_, 1) := by decide +kernel
theorem d_AckBook_Claim_init_0 : decode c_AckBook_Claim_init 0 = .ok (.aload_n 0, 1) := by decide +kernel
theorem d_AckBook_Claim_init_1 : decode c_AckBook_Claim_init 1 = .ok (.invokespecial 3, 3) := by decide +kernel
theorem d_AckBook_Claim_init_4 : decode c_AckBook_Claim_init 4 = .ok (.aload_n 0, 1) := by decide +kernel
theorem d_AckBook_Claim_init_5 : decode c_AckBook_Claim_init 5 = .ok (.bipush (64), 2) := by decide +kernel
theorem d_AckBook_Claim_init_7 : decode c_AckBook_Claim_init 7 = .ok (.newarray .long, 2) := by decide +kernel
theorem d_AckBook_Claim_init_9 : decode c_AckBook_Claim_init 9 = .ok (.putfield 9, 3) := by decide +kernel
theorem d_AckBook_Claim_init_12 : decode c_AckBook_Claim_init 12 = .ok (.aload_n 0, 1) := by decide +kernel
theorem d_AckBook_Claim_init_13 : decode c_AckBook_Claim_init 13 = .ok (.bipush (64), 2) := by decide +kernel
theorem d_AckBook_Claim_init_15 : decode c_AckBook_Claim_init 15 = .ok (.newarray .long, 2) := by decide +kernel
theorem d_AckBook_Claim_init_17 : decode c_AckBook_Claim_init 17 = .ok (.putfield 15, 3) := by decide +kernel
theorem d_AckBook_Claim_init_20 : decode c_AckBook_Claim_init 20 = .ok (.return_, 1) := by decide +kernel
theorem d_AckBook_Way_init_0 : decode c_AckBook_Way_init 0 = .ok (.aload_n 0, 1) := by decide +kernel
theorem d_AckBook_Way_init_1 : decode c_AckBook_Way_init 1 = .ok (.invokespecial 3, 3) := by decide +kernel
theorem d_AckBook_Way_init_4 : decode c_AckBook_Way_init 4 = .ok (.aload_n 0, 1) := by decide +kernel
theorem d_AckBook_Way_init_5 : decode c_AckBook_Way_init 5 = .ok (.sipush (800), 3) := by decide +kernel
theorem d_AckBook_Way_init_8 : decode c_AckBook_Way_init 8 = .ok (.putfield 9, 3) := by decide +kernel
theorem d_AckBook_Way_init_11 : decode c_AckBook_Way_init 11 = .ok (.aload_n 0, 1) := by decide +kernel
theorem d_AckBook_Way_init_12 : decode c_AckBook_Way_init 12 = .ok (.sipush (200), 3) := by decide +kernel
theorem d_AckBook_Way_init_15 : decode c_AckBook_Way_init 15 = .ok (.putfield 15, 3) := by decide +kernel
theorem d_AckBook_Way_init_18 : decode c_AckBook_Way_init 18 = .ok (.aload_n 0, 1) := by decide +kernel
theorem d_AckBook_Way_init_19 : decode c_AckBook_Way_init 19 = .ok (.iconst (-1), 1) := by decide +kernel
theorem d_AckBook_Way_init_20 : decode c_AckBook_Way_init 20 = .ok (.putfield 18, 3) := by decide +kernel
theorem d_AckBook_Way_init_23 : decode c_AckBook_Way_init 23 = .ok (.aload_n 0, 1) := by decide +kernel
theorem d_AckBook_Way_init_24 : decode c_AckBook_Way_init 24 = .ok (.iconst (-1), 1) := by decide +kernel
theorem d_AckBook_Way_init_25 : decode c_AckBook_Way_init 25 = .ok (.putfield 21, 3) := by decide +kernel
theorem d_AckBook_Way_init_28 : decode c_AckBook_Way_init 28 = .ok (.return_, 1) := by decide +kernel
theorem d_AckBook_Flow_init_0 : decode c_AckBook_Flow_init 0 = .ok (.aload_n 0, 1) := by decide +kernel
theorem d_AckBook_Flow_init_1 : decode c_AckBook_Flow_init 1 = .ok (.invokespecial 3, 3) := by decide +kernel
theorem d_AckBook_Flow_init_4 : decode c_AckBook_Flow_init 4 = .ok (.aload_n 0, 1) := by decide +kernel
theorem d_AckBook_Flow_init_5 : decode c_AckBook_Flow_init 5 = .ok (.sipush (12000), 3) := by decide +kernel
theorem d_AckBook_Flow_init_8 : decode c_AckBook_Flow_init 8 = .ok (.putfield 9, 3) := by decide +kernel
theorem d_AckBook_Flow_init_11 : decode c_AckBook_Flow_init 11 = .ok (.aload_n 0, 1) := by decide +kernel
theorem d_AckBook_Flow_init_12 : decode c_AckBook_Flow_init 12 = .ok (.iconst (-1), 1) := by decide +kernel
theorem d_AckBook_Flow_init_13 : decode c_AckBook_Flow_init 13 = .ok (.putfield 15, 3) := by decide +kernel
theorem d_AckBook_Flow_init_16 : decode c_AckBook_Flow_init 16 = .ok (.aload_n 0, 1) := by decide +kernel
theorem d_AckBook_Flow_init_17 : decode c_AckBook_Flow_init 17 = .ok (.iconst (-1), 1) := by decide +kernel
theorem d_AckBook_Flow_init_18 : decode c_AckBook_Flow_init 18 = .ok (.putfield 18, 3) := by decide +kernel
theorem d_AckBook_Flow_init_21 : decode c_AckBook_Flow_init 21 = .ok (.return_, 1) := by decide +kernel
theorem d_AckBook_init_14 : decode c_AckBook_init 14 = .ok (.iload_n 1, 1) := by decide +kernel
theorem d_AckBook_init_15 : decode c_AckBook_init 15 = .ok (.iconst (3), 1) := by decide +kernel
theorem d_AckBook_init_16 : decode c_AckBook_init 16 = .ok (.if_icmp .ge (23), 3) := by decide +kernel
theorem d_AckBook_init_39 : decode c_AckBook_init 39 = .ok (.aload_n 0, 1) := by decide +kernel
theorem d_AckBook_init_40 : decode c_AckBook_init 40 = .ok (.new 18, 3) := by decide +kernel
theorem d_AckBook_init_43 : decode c_AckBook_init 43 = .ok (.dup, 1) := by decide +kernel
theorem d_AckBook_init_44 : decode c_AckBook_init 44 = .ok (.invokespecial 20, 3) := by decide +kernel
theorem d_AckBook_init_47 : decode c_AckBook_init 47 = .ok (.putfield 21, 3) := by decide +kernel
theorem d_AckBook_init_50 : decode c_AckBook_init 50 = .ok (.aload_n 0, 1) := by decide +kernel
theorem d_AckBook_init_51 : decode c_AckBook_init 51 = .ok (.new 25, 3) := by decide +kernel
theorem d_AckBook_init_54 : decode c_AckBook_init 54 = .ok (.dup, 1) := by decide +kernel
theorem d_AckBook_init_55 : decode c_AckBook_init 55 = .ok (.invokespecial 27, 3) := by decide +kernel
theorem d_AckBook_init_58 : decode c_AckBook_init 58 = .ok (.putfield 28, 3) := by decide +kernel
