theorem d_AckBook_hasEliciting_13 : decode c_AckBook_hasEliciting 13 = .ok (.iconst (1), 1) := by decide +kernel
theorem d_AckBook_hasEliciting_14 : decode c_AckBook_hasEliciting 14 = .ok (.ireturn, 1) := by decide +kernel
theorem d_AckBook_hasEliciting_0 : decode c_AckBook_hasEliciting 0 = .ok (.aload_n 0, 1) := by decide +kernel
theorem d_AckBook_hasEliciting_1 : decode c_AckBook_hasEliciting 1 = .ok (.astore_n 1, 1) := by decide +kernel
theorem d_AckBook_Way_take_0 : decode c_AckBook_Way_take 0 = .ok (.aload_n 0, 1) := by decide +kernel
theorem d_AckBook_Way_take_1 : decode c_AckBook_Way_take 1 = .ok (.iload_n 1, 1) := by decide +kernel
theorem d_AckBook_Way_take_2 : decode c_AckBook_Way_take 2 = .ok (.putfield 24, 3) := by decide +kernel
theorem d_AckBook_Way_take_5 : decode c_AckBook_Way_take 5 = .ok (.aload_n 0, 1) := by decide +kernel
theorem d_AckBook_Way_take_6 : decode c_AckBook_Way_take 6 = .ok (.aload_n 0, 1) := by decide +kernel
theorem d_AckBook_Way_take_7 : decode c_AckBook_Way_take 7 = .ok (.getfield 18, 3) := by decide +kernel
theorem d_AckBook_Way_take_10 : decode c_AckBook_Way_take 10 = .ok (.iconst (-1), 1) := by decide +kernel
theorem d_AckBook_Way_take_11 : decode c_AckBook_Way_take 11 = .ok (.if_icmp .ne (7), 3) := by decide +kernel
theorem d_AckBook_Way_take_14 : decode c_AckBook_Way_take 14 = .ok (.iload_n 1, 1) := by decide +kernel
theorem d_AckBook_Way_take_15 : decode c_AckBook_Way_take 15 = .ok (.goto (11), 3) := by decide +kernel
theorem d_AckBook_Way_take_26 : decode c_AckBook_Way_take 26 = .ok (.putfield 18, 3) := by decide +kernel
theorem d_AckBook_Way_take_29 : decode c_AckBook_Way_take 29 = .ok (.aload_n 0, 1) := by decide +kernel
theorem d_AckBook_Way_take_30 : decode c_AckBook_Way_take 30 = .ok (.getfield 21, 3) := by decide +kernel
theorem d_AckBook_Way_take_33 : decode c_AckBook_Way_take 33 = .ok (.iconst (-1), 1) := by decide +kernel
theorem d_AckBook_Way_take_34 : decode c_AckBook_Way_take 34 = .ok (.if_icmp .ne (24), 3) := by decide +kernel
theorem d_AckBook_Way_take_37 : decode c_AckBook_Way_take 37 = .ok (.aload_n 0, 1) := by decide +kernel
theorem d_AckBook_Way_take_38 : decode c_AckBook_Way_take 38 = .ok (.iload_n 3, 1) := by decide +kernel
theorem d_AckBook_Way_take_39 : decode c_AckBook_Way_take 39 = .ok (.putfield 21, 3) := by decide +kernel
theorem d_AckBook_Way_take_42 : decode c_AckBook_Way_take 42 = .ok (.aload_n 0, 1) := by decide +kernel
theorem d_AckBook_Way_take_43 : decode c_AckBook_Way_take 43 = .ok (.bipush (8), 2) := by decide +kernel
theorem d_AckBook_Way_take_45 : decode c_AckBook_Way_take 45 = .ok (.iload_n 1, 1) := by decide +kernel
theorem d_AckBook_Way_take_46 : decode c_AckBook_Way_take 46 = .ok (.imul, 1) := by decide +kernel
theorem d_AckBook_Way_take_47 : decode c_AckBook_Way_take 47 = .ok (.putfield 9, 3) := by decide +kernel
theorem d_AckBook_Way_take_50 : decode c_AckBook_Way_take 50 = .ok (.aload_n 0, 1) := by decide +kernel
theorem d_AckBook_Way_take_51 : decode c_AckBook_Way_take 51 = .ok (.iconst (2), 1) := by decide +kernel
theorem d_AckBook_Way_take_52 : decode c_AckBook_Way_take 52 = .ok (.iload_n 1, 1) := by decide +kernel
theorem d_AckBook_Way_take_53 : decode c_AckBook_Way_take 53 = .ok (.imul, 1) := by decide +kernel
theorem d_AckBook_Way_take_54 : decode c_AckBook_Way_take 54 = .ok (.putfield 15, 3) := by decide +kernel
theorem d_AckBook_Way_take_57 : decode c_AckBook_Way_take 57 = .ok (.return_, 1) := by decide +kernel
theorem d_AckBook_Way_take_58 : decode c_AckBook_Way_take 58 = .ok (.iload_n 1, 1) := by decide +kernel
theorem d_AckBook_Way_take_59 : decode c_AckBook_Way_take 59 = .ok (.aload_n 0, 1) := by decide +kernel
theorem d_AckBook_Way_take_60 : decode c_AckBook_Way_take 60 = .ok (.getfield 18, 3) := by decide +kernel
theorem d_AckBook_Way_take_63 : decode c_AckBook_Way_take 63 = .ok (.iload_n 2, 1) := by decide +kernel
theorem d_AckBook_Way_take_64 : decode c_AckBook_Way_take 64 = .ok (.iadd, 1) := by decide +kernel
theorem d_AckBook_Way_take_65 : decode c_AckBook_Way_take 65 = .ok (.if_icmp .lt (9), 3) := by decide +kernel
theorem d_AckBook_Way_take_74 : decode c_AckBook_Way_take 74 = .ok (.iload_n 1, 1) := by decide +kernel
theorem d_AckBook_Way_take_75 : decode c_AckBook_Way_take 75 = .ok (.istore 4, 2) := by decide +kernel
theorem d_AckBook_Way_take_77 : decode c_AckBook_Way_take 77 = .ok (.aload_n 0, 1) := by decide +kernel
theorem d_AckBook_Way_take_78 : decode c_AckBook_Way_take 78 = .ok (.getfield 9, 3) := by decide +kernel
theorem d_AckBook_Way_take_81 : decode c_AckBook_Way_take 81 = .ok (.bipush (8), 2) := by decide +kernel
theorem d_AckBook_Way_take_83 : decode c_AckBook_Way_take 83 = .ok (.idiv, 1) := by decide +kernel
theorem d_AckBook_Way_take_84 : decode c_AckBook_Way_take 84 = .ok (.iload 4, 2) := by decide +kernel
theorem d_AckBook_Way_take_86 : decode c_AckBook_Way_take 86 = .ok (.isub, 1) := by decide +kernel
theorem d_AckBook_Way_take_87 : decode c_AckBook_Way_take 87 = .ok (.invokestatic 33, 3) := by decide +kernel
theorem d_AckBook_Way_take_90 : decode c_AckBook_Way_take 90 = .ok (.istore 5, 2) := by decide +kernel
theorem d_AckBook_Way_take_92 : decode c_AckBook_Way_take 92 = .ok (.aload_n 0, 1) := by decide +kernel
theorem d_AckBook_Way_take_93 : decode c_AckBook_Way_take 93 = .ok (.dup, 1) := by decide +kernel
theorem d_AckBook_Way_take_94 : decode c_AckBook_Way_take 94 = .ok (.getfield 15, 3) := by decide +kernel
theorem d_AckBook_Way_take_97 : decode c_AckBook_Way_take 97 = .ok (.iload 5, 2) := by decide +kernel
theorem d_AckBook_Way_take_99 : decode c_AckBook_Way_take 99 = .ok (.aload_n 0, 1) := by decide +kernel
theorem d_AckBook_Way_take_100 : decode c_AckBook_Way_take 100 = .ok (.getfield 15, 3) := by decide +kernel
theorem d_AckBook_Way_take_103 : decode c_AckBook_Way_take 103 = .ok (.iconst (4), 1) := by decide +kernel
theorem d_AckBook_Way_take_104 : decode c_AckBook_Way_take 104 = .ok (.idiv, 1) := by decide +kernel
theorem d_AckBook_Way_take_105 : decode c_AckBook_Way_take 105 = .ok (.isub, 1) := by decide +kernel
theorem d_AckBook_Way_take_106 : decode c_AckBook_Way_take 106 = .ok (.iadd, 1) := by decide +kernel
theorem d_AckBook_Way_take_107 : decode c_AckBook_Way_take 107 = .ok (.putfield 15, 3) := by decide +kernel
theorem d_AckBook_Way_take_110 : decode c_AckBook_Way_take 110 = .ok (.aload_n 0, 1) := by decide +kernel
theorem d_AckBook_Way_take_111 : decode c_AckBook_Way_take 111 = .ok (.dup, 1) := by decide +kernel
theorem d_AckBook_Way_take_112 : decode c_AckBook_Way_take 112 = .ok (.getfield 9, 3) := by decide +kernel
theorem d_AckBook_Way_take_115 : decode c_AckBook_Way_take 115 = .ok (.iload 4, 2) := by decide +kernel
theorem d_AckBook_Way_take_117 : decode c_AckBook_Way_take 117 = .ok (.aload_n 0, 1) := by decide +kernel
theorem d_AckBook_Way_take_118 : decode c_AckBook_Way_take 118 = .ok (.getfield 9, 3) := by decide +kernel
theorem d_AckBook_Way_take_121 : decode c_AckBook_Way_take 121 = .ok (.bipush (8), 2) := by decide +kernel
theorem d_AckBook_Way_take_123 : decode c_AckBook_Way_take 123 = .ok (.idiv, 1) := by decide +kernel
theorem d_AckBook_Way_take_124 : decode c_AckBook_Way_take 124 = .ok (.isub, 1) := by decide +kernel
theorem d_AckBook_Way_take_125 : decode c_AckBook_Way_take 125 = .ok (.iadd, 1) := by decide +kernel
theorem d_AckBook_Way_take_126 : decode c_AckBook_Way_take 126 = .ok (.putfield 9, 3) := by decide +kernel
theorem d_AckBook_Way_take_129 : decode c_AckBook_Way_take 129 = .ok (.return_, 1) := by decide +kernel
theorem d_AckBook_Way_take_68 : decode c_AckBook_Way_take 68 = .ok (.iload_n 1, 1) := by decide +kernel
theorem d_AckBook_Way_take_69 : decode c_AckBook_Way_take 69 = .ok (.iload_n 2, 1) := by decide +kernel
theorem d_AckBook_Way_take_70 : decode c_AckBook_Way_take 70 = .ok (.isub, 1) := by decide +kernel
theorem d_AckBook_Way_take_71 : decode c_AckBook_Way_take 71 = .ok (.goto (4), 3) := by decide +kernel
theorem d_AckBook_Way_take_18 : decode c_AckBook_Way_take 18 = .ok (.aload_n 0, 1) := by decide +kernel
theorem d_AckBook_Way_take_19 : decode c_AckBook_Way_take 19 = .ok (.getfield 18, 3) := by decide +kernel
theorem d_AckBook_Way_take_22 : decode c_AckBook_Way_take 22 = .ok (.iload_n 1, 1) := by decide +kernel
theorem d_AckBook_Way_take_23 : decode c_AckBook_Way_take 23 = .ok (.invokestatic 27, 3) := by decide +kernel
theorem d_AckBook_Flow_grow_0 : decode c_AckBook_Flow_grow 0 = .ok (.aload_n 0, 1) := by decide +kernel
theorem d_AckBook_Flow_grow_1 : decode c_AckBook_Flow_grow 1 = .ok (.getfield 15, 3) := by decide +kernel
theorem d_AckBook_Flow_grow_4 : decode c_AckBook_Flow_grow 4 = .ok (.iconst (-1), 1) := by decide +kernel
theorem d_AckBook_Flow_grow_5 : decode c_AckBook_Flow_grow 5 = .ok (.if_icmp .eq (14), 3) := by decide +kernel
theorem d_AckBook_Flow_grow_19 : decode c_AckBook_Flow_grow 19 = .ok (.aload_n 0, 1) := by decide +kernel
theorem d_AckBook_Flow_grow_20 : decode c_AckBook_Flow_grow 20 = .ok (.dup, 1) := by decide +kernel
theorem d_AckBook_Flow_grow_21 : decode c_AckBook_Flow_grow 21 = .ok (.getfield 9, 3) := by decide +kernel
theorem d_AckBook_Flow_grow_24 : decode c_AckBook_Flow_grow 24 = .ok (.iload_n 1, 1) := by decide +kernel
theorem d_AckBook_Flow_grow_25 : decode c_AckBook_Flow_grow 25 = .ok (.iadd, 1) := by decide +kernel
theorem d_AckBook_Flow_grow_26 : decode c_AckBook_Flow_grow 26 = .ok (.putfield 9, 3) := by decide +kernel
theorem d_AckBook_Flow_grow_29 : decode c_AckBook_Flow_grow 29 = .ok (.goto (29), 3) := by decide +kernel
theorem d_AckBook_Flow_grow_58 : decode c_AckBook_Flow_grow 58 = .ok (.return_, 1) := by decide +kernel
theorem d_AckBook_Flow_grow_8 : decode c_AckBook_Flow_grow 8 = .ok (.aload_n 0, 1) := by decide +kernel
theorem d_AckBook_Flow_grow_9 : decode c_AckBook_Flow_grow 9 = .ok (.getfield 9, 3) := by decide +kernel
theorem d_AckBook_Flow_grow_12 : decode c_AckBook_Flow_grow 12 = .ok (.aload_n 0, 1) := by decide +kernel
theorem d_AckBook_Flow_grow_13 : decode c_AckBook_Flow_grow 13 = .ok (.getfield 15, 3) := by decide +kernel
theorem d_AckBook_Flow_grow_16 : decode c_AckBook_Flow_grow 16 = .ok (.if_icmp .ge (16), 3) := by decide +kernel
theorem d_AckBook_Flow_grow_32 : decode c_AckBook_Flow_grow 32 = .ok (.aload_n 0, 1) := by decide +kernel
theorem d_AckBook_Flow_grow_33 : decode c_AckBook_Flow_grow 33 = .ok (.getfield 9, 3) := by decide +kernel
theorem d_AckBook_Flow_grow_36 : decode c_AckBook_Flow_grow 36 = .ok (.ifCond .le (22), 3) := by decide +kernel
theorem d_AckBook_Flow_grow_39 : decode c_AckBook_Flow_grow 39 = .ok (.aload_n 0, 1) := by decide +kernel
theorem d_AckBook_Flow_grow_40 : decode c_AckBook_Flow_grow 40 = .ok (.dup, 1) := by decide +kernel
theorem d_AckBook_Flow_grow_41 : decode c_AckBook_Flow_grow 41 = .ok (.getfield 9, 3) := by decide +kernel
theorem d_AckBook_Flow_grow_44 : decode c_AckBook_Flow_grow 44 = .ok (.sipush (1200), 3) := by decide +kernel
theorem d_AckBook_Flow_grow_47 : decode c_AckBook_Flow_grow 47 = .ok (.iload_n 1, 1) := by decide +kernel
theorem d_AckBook_Flow_grow_48 : decode c_AckBook_Flow_grow 48 = .ok (.imul, 1) := by decide +kernel
theorem d_AckBook_Flow_grow_49 : decode c_AckBook_Flow_grow 49 = .ok (.aload_n 0, 1) := by decide +kernel
theorem d_AckBook_Flow_grow_50 : decode c_AckBook_Flow_grow 50 = .ok (.getfield 9, 3) := by decide +kernel
theorem d_AckBook_Flow_grow_53 : decode c_AckBook_Flow_grow 53 = .ok (.idiv, 1) := by decide +kernel
theorem d_AckBook_Flow_grow_54 : decode c_AckBook_Flow_grow 54 = .ok (.iadd, 1) := by decide +kernel
theorem d_AckBook_Flow_grow_55 : decode c_AckBook_Flow_grow 55 = .ok (.putfield 9, 3) := by decide +kernel
theorem d_AckBook_Flow_leaveAcknowledged_4 : decode c_AckBook_Flow_leaveAcknowledged 4 = .ok (.aload_n 3, 1) := by decide +kernel
theorem d_AckBook_Flow_leaveAcknowledged_5 : decode c_AckBook_Flow_leaveAcknowledged 5 = .ok (.ifnull (49), 3) := by decide +kernel
theorem d_AckBook_Flow_leaveAcknowledged_54 : decode c_AckBook_Flow_leaveAcknowledged 54 = .ok (.iload_n 2, 1) := by decide +kernel
theorem d_AckBook_Flow_leaveAcknowledged_55 : decode c_AckBook_Flow_leaveAcknowledged 55 = .ok (.ireturn, 1) := by decide +kernel
theorem d_AckBook_Flow_leaveAcknowledged_8 : decode c_AckBook_Flow_leaveAcknowledged 8 = .ok (.iinc 2 (1), 3) := by decide +kernel
theorem d_AckBook_Flow_leaveAcknowledged_11 : decode c_AckBook_Flow_leaveAcknowledged 11 = .ok (.aload_n 0, 1) := by decide +kernel
theorem d_AckBook_Flow_leaveAcknowledged_12 : decode c_AckBook_Flow_leaveAcknowledged 12 = .ok (.aload_n 3, 1) := by decide +kernel
theorem d_AckBook_Flow_leaveAcknowledged_13 : decode c_AckBook_Flow_leaveAcknowledged 13 = .ok (.invokevirtual 36, 3) := by decide +kernel
theorem d_AckBook_Flow_leaveAcknowledged_16 : decode c_AckBook_Flow_leaveAcknowledged 16 = .ok (.aload_n 3, 1) := by decide +kernel
