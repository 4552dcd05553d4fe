theorem d_AckBook_Way_take_90 : decode c_AckBook_Way_take 90 = .ok (.istore 5, 2) := by decide +kernel
theorem d_AckBook_Way_take_92 : decode c_AckBook_Way_take 92 = .ok (.aload_n 0, 1) := by decide +kernel
theorem d_AckBook_Way_take_93 : decode c_AckBook_Way_take 93 = .ok (.dup, 1) := by decide +kernel
theorem d_AckBook_Way_take_94 : decode c_AckBook_Way_take 94 = .ok (.getfield 15, 3) := by decide +kernel
theorem d_AckBook_Way_take_97 : decode c_AckBook_Way_take 97 = .ok (.iload 5, 2) := by decide +kernel
theorem d_AckBook_Way_take_99 : decode c_AckBook_Way_take 99 = .ok (.aload_n 0, 1) := by decide +kernel
theorem d_AckBook_Way_take_100 : decode c_AckBook_Way_take 100 = .ok (.getfield 15, 3) := by decide +kernel
theorem d_AckBook_Way_take_103 : decode c_AckBook_Way_take 103 = .ok (.iconst (4), 1) := by decide +kernel
theorem d_AckBook_Way_take_104 : decode c_AckBook_Way_take 104 = .ok (.idiv, 1) := by decide +kernel
theorem d_AckBook_Way_take_105 : decode c_AckBook_Way_take 105 = .ok (.isub, 1) := by decide +kernel
theorem d_AckBook_Way_take_106 : decode c_AckBook_Way_take 106 = .ok (.iadd, 1) := by decide +kernel
theorem d_AckBook_Way_take_107 : decode c_AckBook_Way_take 107 = .ok (.putfield 15, 3) := by decide +kernel
theorem d_AckBook_Way_take_110 : decode c_AckBook_Way_take 110 = .ok (.aload_n 0, 1) := by decide +kernel
theorem d_AckBook_Way_take_111 : decode c_AckBook_Way_take 111 = .ok (.dup, 1) := by decide +kernel
theorem d_AckBook_Way_take_112 : decode c_AckBook_Way_take 112 = .ok (.getfield 9, 3) := by decide +kernel
theorem d_AckBook_Way_take_115 : decode c_AckBook_Way_take 115 = .ok (.iload 4, 2) := by decide +kernel
theorem d_AckBook_Way_take_117 : decode c_AckBook_Way_take 117 = .ok (.aload_n 0, 1) := by decide +kernel
theorem d_AckBook_Way_take_118 : decode c_AckBook_Way_take 118 = .ok (.getfield 9, 3) := by decide +kernel
theorem d_AckBook_Way_take_121 : decode c_AckBook_Way_take 121 = .ok (.bipush (8), 2) := by decide +kernel
theorem d_AckBook_Way_take_123 : decode c_AckBook_Way_take 123 = .ok (.idiv, 1) := by decide +kernel
theorem d_AckBook_Way_take_124 : decode c_AckBook_Way_take 124 = .ok (.isub, 1) := by decide +kernel
theorem d_AckBook_Way_take_125 : decode c_AckBook_Way_take 125 = .ok (.iadd, 1) := by decide +kernel
theorem d_AckBook_Way_take_126 : decode c_AckBook_Way_take 126 = .ok (.putfield 9, 3) := by decide +kernel
theorem d_AckBook_Way_take_129 : decode c_AckBook_Way_take 129 = .ok (.return_, 1) := by decide +kernel
theorem d_AckBook_Way_take_68 : decode c_AckBook_Way_take 68 = .ok (.iload_n 1, 1) := by decide +kernel
theorem d_AckBook_Way_take_69 : decode c_AckBook_Way_take 69 = .ok (.iload_n 2, 1) := by decide +kernel
theorem d_AckBook_Way_take_70 : decode c_AckBook_Way_take 70 = .ok (.isub, 1) := by decide +kernel
theorem d_AckBook_Way_take_71 : decode c_AckBook_Way_take 71 = .ok (.goto (4), 3) := by decide +kernel
theorem d_AckBook_Way_take_18 : decode c_AckBook_Way_take 18 = .ok (.aload_n 0, 1) := by decide +kernel
theorem d_AckBook_Way_take_19 : decode c_AckBook_Way_take 19 = .ok (.getfield 18, 3) := by decide +kernel
theorem d_AckBook_Way_take_22 : decode c_AckBook_Way_take 22 = .ok (.iload_n 1, 1) := by decide +kernel
theorem d_AckBook_Way_take_23 : decode c_AckBook_Way_take 23 = .ok (.invokestatic 27, 3) := by decide +kernel
theorem d_AckBook_Flow_grow_0 : decode c_AckBook_Flow_grow 0 = .ok (.aload_n 0, 1) := by decide +kernel
theorem d_AckBook_Flow_grow_1 : decode c_AckBook_Flow_grow 1 = .ok (.getfield 15, 3) := by decide +kernel
theorem d_AckBook_Flow_grow_4 : decode c_AckBook_Flow_grow 4 = .ok (.iconst (-1), 1) := by decide +kernel
theorem d_AckBook_Flow_grow_5 : decode c_AckBook_Flow_grow 5 = .ok (.if_icmp .eq (14), 3) := by decide +kernel
theorem d_AckBook_Flow_grow_19 : decode c_AckBook_Flow_grow 19 = .ok (.aload_n 0, 1) := by decide +kernel
theorem d_AckBook_Flow_grow_20 : decode c_AckBook_Flow_grow 20 = .ok (.dup, 1) := by decide +kernel
theorem d_AckBook_Flow_grow_21 : decode c_AckBook_Flow_grow 21 = .ok (.getfield 9, 3) := by decide +kernel
theorem d_AckBook_Flow_grow_24 : decode c_AckBook_Flow_grow 24 = .ok (.iload_n 1, 1) := by decide +kernel
theorem d_AckBook_Flow_grow_25 : decode c_AckBook_Flow_grow 25 = .ok (.iadd, 1) := by decide +kernel
theorem d_AckBook_Flow_grow_26 : decode c_AckBook_Flow_grow 26 = .ok (.putfield 9, 3) := by decide +kernel
theorem d_AckBook_Flow_grow_29 : decode c_AckBook_Flow_grow 29 = .ok (.goto (29), 3) := by decide +kernel
theorem d_AckBook_Flow_grow_58 : decode c_AckBook_Flow_grow 58 = .ok (.return_, 1) := by decide +kernel
theorem d_AckBook_Flow_grow_8 : decode c_AckBook_Flow_grow 8 = .ok (.aload_n 0, 1) := by decide +kernel
theorem d_AckBook_Flow_grow_9 : decode c_AckBook_Flow_grow 9 = .ok (.getfield 9, 3) := by decide +kernel
theorem d_AckBook_Flow_grow_12 : decode c_AckBook_Flow_grow 12 = .ok (.aload_n 0, 1) := by decide +kernel
theorem d_AckBook_Flow_grow_13 : decode c_AckBook_Flow_grow 13 = .ok (.getfield 15, 3) := by decide +kernel
theorem d_AckBook_Flow_grow_16 : decode c_AckBook_Flow_grow 16 = .ok (.if_icmp .ge (16), 3) := by decide +kernel
theorem d_AckBook_Flow_grow_32 : decode c_AckBook_Flow_grow 32 = .ok (.aload_n 0, 1) := by decide +kernel
theorem d_AckBook_Flow_grow_33 : decode c_AckBook_Flow_grow 33 = .ok (.getfield 9, 3) := by decide +kernel
theorem d_AckBook_Flow_grow_36 : decode c_AckBook_Flow_grow 36 = .ok (.ifCond .le (22), 3) := by decide +kernel
theorem d_AckBook_Flow_grow_39 : decode c_AckBook_Flow_grow 39 = .ok (.aload_n 0, 1) := by decide +kernel
theorem d_AckBook_Flow_grow_40 : decode c_AckBook_Flow_grow 40 = .ok (.dup, 1) := by decide +kernel
theorem d_AckBook_Flow_grow_41 : decode c_AckBook_Flow_grow 41 = .ok (.getfield 9, 3) := by decide +kernel
theorem d_AckBook_Flow_grow_44 : decode c_AckBook_Flow_grow 44 = .ok (.sipush (1200), 3) := by decide +kernel
theorem d_AckBook_Flow_grow_47 : decode c_AckBook_Flow_grow 47 = .ok (.iload_n 1, 1) := by decide +kernel
theorem d_AckBook_Flow_grow_48 : decode c_AckBook_Flow_grow 48 = .ok (.imul, 1) := by decide +kernel
theorem d_AckBook_Flow_grow_49 : decode c_AckBook_Flow_grow 49 = .ok (.aload_n 0, 1) := by decide +kernel
theorem d_AckBook_Flow_grow_50 : decode c_AckBook_Flow_grow 50 = .ok (.getfield 9, 3) := by decide +kernel
theorem d_AckBook_Flow_grow_53 : decode c_AckBook_Flow_grow 53 = .ok (.idiv, 1) := by decide +kernel
theorem d_AckBook_Flow_grow_54 : decode c_AckBook_Flow_grow 54 = .ok (.iadd, 1) := by decide +kernel
theorem d_AckBook_Flow_grow_55 : decode c_AckBook_Flow_grow 55 = .ok (.putfield 9, 3) := by decide +kernel
theorem d_AckBook_Flow_leaveAcknowledged_4 : decode c_AckBook_Flow_leaveAcknowledged 4 = .ok (.aload_n 3, 1) := by decide +kernel
theorem d_AckBook_Flow_leaveAcknowledged_5 : decode c_AckBook_Flow_leaveAcknowledged 5 = .ok (.ifnull (49), 3) := by decide +kernel
theorem d_AckBook_Flow_leaveAcknowledged_54 : decode c_AckBook_Flow_leaveAcknowledged 54 = .ok (.iload_n 2, 1) := by decide +kernel
theorem d_AckBook_Flow_leaveAcknowledged_55 : decode c_AckBook_Flow_leaveAcknowledged 55 = .ok (.ireturn, 1) := by decide +kernel
theorem d_AckBook_Flow_leaveAcknowledged_8 : decode c_AckBook_Flow_leaveAcknowledged 8 = .ok (.iinc 2 (1), 3) := by decide +kernel
theorem d_AckBook_Flow_leaveAcknowledged_11 : decode c_AckBook_Flow_leaveAcknowledged 11 = .ok (.aload_n 0, 1) := by decide +kernel
theorem d_AckBook_Flow_leaveAcknowledged_12 : decode c_AckBook_Flow_leaveAcknowledged 12 = .ok (.aload_n 3, 1) := by decide +kernel
theorem d_AckBook_Flow_leaveAcknowledged_13 : decode c_AckBook_Flow_leaveAcknowledged 13 = .ok (.invokevirtual 36, 3) := by decide +kernel
theorem d_AckBook_Flow_leaveAcknowledged_16 : decode c_AckBook_Flow_leaveAcknowledged 16 = .ok (.aload_n 3, 1) := by decide +kernel
theorem d_AckBook_Flow_leaveAcknowledged_17 : decode c_AckBook_Flow_leaveAcknowledged 17 = .ok (.getfield 21, 3) := by decide +kernel
theorem d_AckBook_Flow_leaveAcknowledged_20 : decode c_AckBook_Flow_leaveAcknowledged 20 = .ok (.ifCond .eq (26), 3) := by decide +kernel
theorem d_AckBook_Flow_leaveAcknowledged_46 : decode c_AckBook_Flow_leaveAcknowledged 46 = .ok (.aload_n 3, 1) := by decide +kernel
theorem d_AckBook_Flow_leaveAcknowledged_47 : decode c_AckBook_Flow_leaveAcknowledged 47 = .ok (.getfield 48, 3) := by decide +kernel
theorem d_AckBook_Flow_leaveAcknowledged_50 : decode c_AckBook_Flow_leaveAcknowledged 50 = .ok (.astore_n 3, 1) := by decide +kernel
theorem d_AckBook_Flow_leaveAcknowledged_51 : decode c_AckBook_Flow_leaveAcknowledged 51 = .ok (.goto (-47), 3) := by decide +kernel
theorem d_AckBook_Flow_leaveAcknowledged_23 : decode c_AckBook_Flow_leaveAcknowledged 23 = .ok (.aload_n 3, 1) := by decide +kernel
theorem d_AckBook_Flow_leaveAcknowledged_24 : decode c_AckBook_Flow_leaveAcknowledged 24 = .ok (.getfield 33, 3) := by decide +kernel
theorem d_AckBook_Flow_leaveAcknowledged_27 : decode c_AckBook_Flow_leaveAcknowledged 27 = .ok (.ifCond .eq (19), 3) := by decide +kernel
theorem d_AckBook_Flow_leaveAcknowledged_30 : decode c_AckBook_Flow_leaveAcknowledged 30 = .ok (.aload_n 0, 1) := by decide +kernel
theorem d_AckBook_Flow_leaveAcknowledged_31 : decode c_AckBook_Flow_leaveAcknowledged 31 = .ok (.aload_n 3, 1) := by decide +kernel
theorem d_AckBook_Flow_leaveAcknowledged_32 : decode c_AckBook_Flow_leaveAcknowledged 32 = .ok (.invokevirtual 40, 3) := by decide +kernel
theorem d_AckBook_Flow_leaveAcknowledged_35 : decode c_AckBook_Flow_leaveAcknowledged 35 = .ok (.ifCond .eq (11), 3) := by decide +kernel
theorem d_AckBook_Flow_leaveAcknowledged_38 : decode c_AckBook_Flow_leaveAcknowledged 38 = .ok (.aload_n 0, 1) := by decide +kernel
theorem d_AckBook_Flow_leaveAcknowledged_39 : decode c_AckBook_Flow_leaveAcknowledged 39 = .ok (.aload_n 3, 1) := by decide +kernel
theorem d_AckBook_Flow_leaveAcknowledged_40 : decode c_AckBook_Flow_leaveAcknowledged 40 = .ok (.getfield 30, 3) := by decide +kernel
theorem d_AckBook_Flow_leaveAcknowledged_43 : decode c_AckBook_Flow_leaveAcknowledged 43 = .ok (.invokevirtual 44, 3) := by decide +kernel
theorem d_AckBook_Flow_leaveAcknowledged_0 : decode c_AckBook_Flow_leaveAcknowledged 0 = .ok (.iconst (0), 1) := by decide +kernel
theorem d_AckBook_Flow_leaveAcknowledged_1 : decode c_AckBook_Flow_leaveAcknowledged 1 = .ok (.istore_n 2, 1) := by decide +kernel
theorem d_AckBook_Flow_leaveAcknowledged_2 : decode c_AckBook_Flow_leaveAcknowledged 2 = .ok (.aload_n 1, 1) := by decide +kernel
theorem d_AckBook_Flow_leaveAcknowledged_3 : decode c_AckBook_Flow_leaveAcknowledged 3 = .ok (.astore_n 3, 1) := by decide +kernel
theorem d_AckBook_Chain_clear_0 : decode c_AckBook_Chain_clear 0 = .ok (.aload_n 0, 1) := by decide +kernel
theorem d_AckBook_Chain_clear_1 : decode c_AckBook_Chain_clear 1 = .ok (.aconst_null, 1) := by decide +kernel
theorem d_AckBook_Chain_clear_2 : decode c_AckBook_Chain_clear 2 = .ok (.putfield 9, 3) := by decide +kernel
theorem d_AckBook_Chain_clear_5 : decode c_AckBook_Chain_clear 5 = .ok (.return_, 1) := by decide +kernel
theorem d_AckBook_Arrivals_forget_0 : decode c_AckBook_Arrivals_forget 0 = .ok (.aload_n 0, 1) := by decide +kernel
theorem d_AckBook_Arrivals_forget_1 : decode c_AckBook_Arrivals_forget 1 = .ok (.iconst (0), 1) := by decide +kernel
theorem d_AckBook_Arrivals_forget_2 : decode c_AckBook_Arrivals_forget 2 = .ok (.putfield 26, 3) := by decide +kernel
theorem d_AckBook_Arrivals_forget_5 : decode c_AckBook_Arrivals_forget 5 = .ok (.aload_n 0, 1) := by decide +kernel
theorem d_AckBook_Arrivals_forget_6 : decode c_AckBook_Arrivals_forget 6 = .ok (.lconst 0, 1) := by decide +kernel
theorem d_AckBook_Arrivals_forget_7 : decode c_AckBook_Arrivals_forget 7 = .ok (.putfield 22, 3) := by decide +kernel
theorem d_AckBook_Arrivals_forget_10 : decode c_AckBook_Arrivals_forget 10 = .ok (.aload_n 0, 1) := by decide +kernel
theorem d_AckBook_Arrivals_forget_11 : decode c_AckBook_Arrivals_forget 11 = .ok (.iconst (0), 1) := by decide +kernel
theorem d_AckBook_Arrivals_forget_12 : decode c_AckBook_Arrivals_forget 12 = .ok (.putfield 50, 3) := by decide +kernel
theorem d_AckBook_Arrivals_forget_15 : decode c_AckBook_Arrivals_forget 15 = .ok (.aload_n 0, 1) := by decide +kernel
theorem d_AckBook_Arrivals_forget_16 : decode c_AckBook_Arrivals_forget 16 = .ok (.iconst (0), 1) := by decide +kernel
theorem d_AckBook_Arrivals_forget_17 : decode c_AckBook_Arrivals_forget 17 = .ok (.putfield 56, 3) := by decide +kernel
theorem d_AckBook_Arrivals_forget_20 : decode c_AckBook_Arrivals_forget 20 = .ok (.return_, 1) := by decide +kernel
theorem d_AckBook_Chain_removeFirst_0 : decode c_AckBook_Chain_removeFirst 0 = .ok (.aload_n 0, 1) := by decide +kernel
theorem d_AckBook_Chain_removeFirst_1 : decode c_AckBook_Chain_removeFirst 1 = .ok (.getfield 9, 3) := by decide +kernel
theorem d_AckBook_Chain_removeFirst_4 : decode c_AckBook_Chain_removeFirst 4 = .ok (.ifnonnull (5), 3) := by decide +kernel
theorem d_AckBook_Chain_removeFirst_7 : decode c_AckBook_Chain_removeFirst 7 = .ok (.iconst (-1), 1) := by decide +kernel
theorem d_AckBook_Chain_removeFirst_8 : decode c_AckBook_Chain_removeFirst 8 = .ok (.ireturn, 1) := by decide +kernel
theorem d_AckBook_Chain_removeFirst_9 : decode c_AckBook_Chain_removeFirst 9 = .ok (.aload_n 0, 1) := by decide +kernel
theorem d_AckBook_Chain_removeFirst_10 : decode c_AckBook_Chain_removeFirst 10 = .ok (.getfield 9, 3) := by decide +kernel
theorem d_AckBook_Chain_removeFirst_13 : decode c_AckBook_Chain_removeFirst 13 = .ok (.getfield 23, 3) := by decide +kernel
theorem d_AckBook_Chain_removeFirst_16 : decode c_AckBook_Chain_removeFirst 16 = .ok (.istore_n 1, 1) := by decide +kernel
theorem d_AckBook_Chain_removeFirst_17 : decode c_AckBook_Chain_removeFirst 17 = .ok (.aload_n 0, 1) := by decide +kernel
