theorem d_AckBook_Way_take_60 : decode c_AckBook_Way_take 60 = .ok (.getfield 18, 3) := by decide +kernel
theorem d_AckBook_Way_take_63 : decode c_AckBook_Way_take 63 = .ok (.iload_n 2, 1) := by decide +kernel
theorem d_AckBook_Way_take_64 : decode c_AckBook_Way_take 64 = .ok (.iadd, 1) := by decide +kernel
theorem d_AckBook_Way_take_65 : decode c_AckBook_Way_take 65 = .ok (.if_icmp .lt (9), 3) := by decide +kernel
theorem d_AckBook_Way_take_74 : decode c_AckBook_Way_take 74 = .ok (.iload_n 1, 1) := by decide +kernel
theorem d_AckBook_Way_take_68 : decode c_AckBook_Way_take 68 = .ok (.iload_n 1, 1) := by decide +kernel
theorem d_AckBook_Way_take_69 : decode c_AckBook_Way_take 69 = .ok (.iload_n 2, 1) := by decide +kernel
theorem d_AckBook_Way_take_70 : decode c_AckBook_Way_take 70 = .ok (.isub, 1) := by decide +kernel
theorem d_AckBook_Way_take_71 : decode c_AckBook_Way_take 71 = .ok (.goto (4), 3) := by decide +kernel
theorem d_AckBook_Way_take_0 : decode c_AckBook_Way_take 0 = .ok (.aload_n 0, 1) := by decide +kernel
theorem d_AckBook_Way_take_1 : decode c_AckBook_Way_take 1 = .ok (.iload_n 1, 1) := by decide +kernel
theorem d_AckBook_Way_take_2 : decode c_AckBook_Way_take 2 = .ok (.putfield 24, 3) := by decide +kernel
theorem d_AckBook_Way_take_5 : decode c_AckBook_Way_take 5 = .ok (.aload_n 0, 1) := by decide +kernel
theorem d_AckBook_Way_take_6 : decode c_AckBook_Way_take 6 = .ok (.aload_n 0, 1) := by decide +kernel
theorem d_AckBook_Way_take_7 : decode c_AckBook_Way_take 7 = .ok (.getfield 18, 3) := by decide +kernel
theorem d_AckBook_Way_take_10 : decode c_AckBook_Way_take 10 = .ok (.iconst (-1), 1) := by decide +kernel
theorem d_AckBook_Way_take_11 : decode c_AckBook_Way_take 11 = .ok (.if_icmp .ne (7), 3) := by decide +kernel
theorem d_AckBook_Way_take_14 : decode c_AckBook_Way_take 14 = .ok (.iload_n 1, 1) := by decide +kernel
theorem d_AckBook_Way_take_15 : decode c_AckBook_Way_take 15 = .ok (.goto (11), 3) := by decide +kernel
theorem d_AckBook_Way_take_18 : decode c_AckBook_Way_take 18 = .ok (.aload_n 0, 1) := by decide +kernel
theorem d_AckBook_Way_take_19 : decode c_AckBook_Way_take 19 = .ok (.getfield 18, 3) := by decide +kernel
theorem d_AckBook_Way_take_22 : decode c_AckBook_Way_take 22 = .ok (.iload_n 1, 1) := by decide +kernel
theorem d_AckBook_Way_take_23 : decode c_AckBook_Way_take 23 = .ok (.invokestatic 27, 3) := by decide +kernel
theorem d_AckBook_Flow_grow_19 : decode c_AckBook_Flow_grow 19 = .ok (.aload_n 0, 1) := by decide +kernel
theorem d_AckBook_Flow_grow_20 : decode c_AckBook_Flow_grow 20 = .ok (.dup, 1) := by decide +kernel
theorem d_AckBook_Flow_grow_21 : decode c_AckBook_Flow_grow 21 = .ok (.getfield 9, 3) := by decide +kernel
theorem d_AckBook_Flow_grow_24 : decode c_AckBook_Flow_grow 24 = .ok (.iload_n 1, 1) := by decide +kernel
theorem d_AckBook_Flow_grow_25 : decode c_AckBook_Flow_grow 25 = .ok (.iadd, 1) := by decide +kernel
theorem d_AckBook_Flow_grow_26 : decode c_AckBook_Flow_grow 26 = .ok (.putfield 9, 3) := by decide +kernel
theorem d_AckBook_Flow_grow_29 : decode c_AckBook_Flow_grow 29 = .ok (.goto (29), 3) := by decide +kernel
theorem d_AckBook_Flow_grow_58 : decode c_AckBook_Flow_grow 58 = .ok (.return_, 1) := by decide +kernel
theorem d_AckBook_Flow_grow_0 : decode c_AckBook_Flow_grow 0 = .ok (.aload_n 0, 1) := by decide +kernel
theorem d_AckBook_Flow_grow_1 : decode c_AckBook_Flow_grow 1 = .ok (.getfield 15, 3) := by decide +kernel
theorem d_AckBook_Flow_grow_4 : decode c_AckBook_Flow_grow 4 = .ok (.iconst (-1), 1) := by decide +kernel
theorem d_AckBook_Flow_grow_5 : decode c_AckBook_Flow_grow 5 = .ok (.if_icmp .eq (14), 3) := by decide +kernel
theorem d_AckBook_Flow_grow_8 : decode c_AckBook_Flow_grow 8 = .ok (.aload_n 0, 1) := by decide +kernel
theorem d_AckBook_Flow_grow_9 : decode c_AckBook_Flow_grow 9 = .ok (.getfield 9, 3) := by decide +kernel
theorem d_AckBook_Flow_grow_12 : decode c_AckBook_Flow_grow 12 = .ok (.aload_n 0, 1) := by decide +kernel
theorem d_AckBook_Flow_grow_13 : decode c_AckBook_Flow_grow 13 = .ok (.getfield 15, 3) := by decide +kernel
theorem d_AckBook_Flow_grow_16 : decode c_AckBook_Flow_grow 16 = .ok (.if_icmp .ge (16), 3) := by decide +kernel
theorem d_AckBook_Flow_grow_32 : decode c_AckBook_Flow_grow 32 = .ok (.aload_n 0, 1) := by decide +kernel
theorem d_AckBook_Flow_grow_33 : decode c_AckBook_Flow_grow 33 = .ok (.getfield 9, 3) := by decide +kernel
theorem d_AckBook_Flow_grow_36 : decode c_AckBook_Flow_grow 36 = .ok (.ifCond .le (22), 3) := by decide +kernel
theorem d_AckBook_Flow_grow_39 : decode c_AckBook_Flow_grow 39 = .ok (.aload_n 0, 1) := by decide +kernel
theorem d_AckBook_Flow_grow_40 : decode c_AckBook_Flow_grow 40 = .ok (.dup, 1) := by decide +kernel
theorem d_AckBook_Flow_grow_41 : decode c_AckBook_Flow_grow 41 = .ok (.getfield 9, 3) := by decide +kernel
theorem d_AckBook_Flow_grow_44 : decode c_AckBook_Flow_grow 44 = .ok (.sipush (1200), 3) := by decide +kernel
theorem d_AckBook_Flow_grow_47 : decode c_AckBook_Flow_grow 47 = .ok (.iload_n 1, 1) := by decide +kernel
theorem d_AckBook_Flow_grow_48 : decode c_AckBook_Flow_grow 48 = .ok (.imul, 1) := by decide +kernel
theorem d_AckBook_Flow_grow_49 : decode c_AckBook_Flow_grow 49 = .ok (.aload_n 0, 1) := by decide +kernel
theorem d_AckBook_Flow_grow_50 : decode c_AckBook_Flow_grow 50 = .ok (.getfield 9, 3) := by decide +kernel
theorem d_AckBook_Flow_grow_53 : decode c_AckBook_Flow_grow 53 = .ok (.idiv, 1) := by decide +kernel
theorem d_AckBook_Flow_grow_54 : decode c_AckBook_Flow_grow 54 = .ok (.iadd, 1) := by decide +kernel
theorem d_AckBook_Flow_grow_55 : decode c_AckBook_Flow_grow 55 = .ok (.putfield 9, 3) := by decide +kernel
theorem d_AckBook_Flow_leaveAcknowledged_4 : decode c_AckBook_Flow_leaveAcknowledged 4 = .ok (.aload_n 3, 1) := by decide +kernel
theorem d_AckBook_Flow_leaveAcknowledged_5 : decode c_AckBook_Flow_leaveAcknowledged 5 = .ok (.ifnull (49), 3) := by decide +kernel
theorem d_AckBook_Flow_leaveAcknowledged_54 : decode c_AckBook_Flow_leaveAcknowledged 54 = .ok (.iload_n 2, 1) := by decide +kernel
theorem d_AckBook_Flow_leaveAcknowledged_55 : decode c_AckBook_Flow_leaveAcknowledged 55 = .ok (.ireturn, 1) := by decide +kernel
theorem d_AckBook_Flow_leaveAcknowledged_8 : decode c_AckBook_Flow_leaveAcknowledged 8 = .ok (.iinc 2 (1), 3) := by decide +kernel
theorem d_AckBook_Flow_leaveAcknowledged_11 : decode c_AckBook_Flow_leaveAcknowledged 11 = .ok (.aload_n 0, 1) := by decide +kernel
theorem d_AckBook_Flow_leaveAcknowledged_12 : decode c_AckBook_Flow_leaveAcknowledged 12 = .ok (.aload_n 3, 1) := by decide +kernel
theorem d_AckBook_Flow_leaveAcknowledged_13 : decode c_AckBook_Flow_leaveAcknowledged 13 = .ok (.invokevirtual 36, 3) := by decide +kernel
theorem d_AckBook_Flow_leaveAcknowledged_16 : decode c_AckBook_Flow_leaveAcknowledged 16 = .ok (.aload_n 3, 1) := by decide +kernel
theorem d_AckBook_Flow_leaveAcknowledged_17 : decode c_AckBook_Flow_leaveAcknowledged 17 = .ok (.getfield 21, 3) := by decide +kernel
theorem d_AckBook_Flow_leaveAcknowledged_20 : decode c_AckBook_Flow_leaveAcknowledged 20 = .ok (.ifCond .eq (26), 3) := by decide +kernel
theorem d_AckBook_Flow_leaveAcknowledged_46 : decode c_AckBook_Flow_leaveAcknowledged 46 = .ok (.aload_n 3, 1) := by decide +kernel
theorem d_AckBook_Flow_leaveAcknowledged_47 : decode c_AckBook_Flow_leaveAcknowledged 47 = .ok (.getfield 48, 3) := by decide +kernel
theorem d_AckBook_Flow_leaveAcknowledged_50 : decode c_AckBook_Flow_leaveAcknowledged 50 = .ok (.astore_n 3, 1) := by decide +kernel
theorem d_AckBook_Flow_leaveAcknowledged_51 : decode c_AckBook_Flow_leaveAcknowledged 51 = .ok (.goto (-47), 3) := by decide +kernel
theorem d_AckBook_Flow_leaveAcknowledged_23 : decode c_AckBook_Flow_leaveAcknowledged 23 = .ok (.aload_n 3, 1) := by decide +kernel
theorem d_AckBook_Flow_leaveAcknowledged_24 : decode c_AckBook_Flow_leaveAcknowledged 24 = .ok (.getfield 33, 3) := by decide +kernel
theorem d_AckBook_Flow_leaveAcknowledged_27 : decode c_AckBook_Flow_leaveAcknowledged 27 = .ok (.ifCond .eq (19), 3) := by decide +kernel
theorem d_AckBook_Flow_leaveAcknowledged_30 : decode c_AckBook_Flow_leaveAcknowledged 30 = .ok (.aload_n 0, 1) := by decide +kernel
theorem d_AckBook_Flow_leaveAcknowledged_31 : decode c_AckBook_Flow_leaveAcknowledged 31 = .ok (.aload_n 3, 1) := by decide +kernel
theorem d_AckBook_Flow_leaveAcknowledged_32 : decode c_AckBook_Flow_leaveAcknowledged 32 = .ok (.invokevirtual 40, 3) := by decide +kernel
theorem d_AckBook_Flow_leaveAcknowledged_35 : decode c_AckBook_Flow_leaveAcknowledged 35 = .ok (.ifCond .eq (11), 3) := by decide +kernel
theorem d_AckBook_Flow_leaveAcknowledged_38 : decode c_AckBook_Flow_leaveAcknowledged 38 = .ok (.aload_n 0, 1) := by decide +kernel
theorem d_AckBook_Flow_leaveAcknowledged_39 : decode c_AckBook_Flow_leaveAcknowledged 39 = .ok (.aload_n 3, 1) := by decide +kernel
theorem d_AckBook_Flow_leaveAcknowledged_40 : decode c_AckBook_Flow_leaveAcknowledged 40 = .ok (.getfield 30, 3) := by decide +kernel
theorem d_AckBook_Flow_leaveAcknowledged_43 : decode c_AckBook_Flow_leaveAcknowledged 43 = .ok (.invokevirtual 44, 3) := by decide +kernel
theorem d_AckBook_Flow_leaveAcknowledged_0 : decode c_AckBook_Flow_leaveAcknowledged 0 = .ok (.iconst (0), 1) := by decide +kernel
theorem d_AckBook_Flow_leaveAcknowledged_1 : decode c_AckBook_Flow_leaveAcknowledged 1 = .ok (.istore_n 2, 1) := by decide +kernel
theorem d_AckBook_Flow_leaveAcknowledged_2 : decode c_AckBook_Flow_leaveAcknowledged 2 = .ok (.aload_n 1, 1) := by decide +kernel
theorem d_AckBook_Flow_leaveAcknowledged_3 : decode c_AckBook_Flow_leaveAcknowledged 3 = .ok (.astore_n 3, 1) := by decide +kernel
theorem d_AckBook_settle_100 : decode c_AckBook_settle 100 = .ok (.aload_n 0, 1) := by decide +kernel
theorem d_AckBook_settle_101 : decode c_AckBook_settle 101 = .ok (.getfield 35, 3) := by decide +kernel
theorem d_AckBook_settle_104 : decode c_AckBook_settle 104 = .ok (.aload 5, 2) := by decide +kernel
theorem d_AckBook_settle_106 : decode c_AckBook_settle 106 = .ok (.invokevirtual 296, 3) := by decide +kernel
theorem d_AckBook_settle_109 : decode c_AckBook_settle 109 = .ok (.istore 6, 2) := by decide +kernel
theorem d_AckBook_settle_111 : decode c_AckBook_settle 111 = .ok (.aload_n 0, 1) := by decide +kernel
theorem d_AckBook_settle_112 : decode c_AckBook_settle 112 = .ok (.aload_n 1, 1) := by decide +kernel
theorem d_AckBook_settle_113 : decode c_AckBook_settle 113 = .ok (.getfield 56, 3) := by decide +kernel
theorem d_AckBook_settle_116 : decode c_AckBook_settle 116 = .ok (.invokevirtual 133, 3) := by decide +kernel
theorem d_AckBook_settle_119 : decode c_AckBook_settle 119 = .ok (.aload_n 0, 1) := by decide +kernel
theorem d_AckBook_settle_120 : decode c_AckBook_settle 120 = .ok (.iconst (0), 1) := by decide +kernel
theorem d_AckBook_settle_121 : decode c_AckBook_settle 121 = .ok (.putfield 137, 3) := by decide +kernel
theorem d_AckBook_settle_124 : decode c_AckBook_settle 124 = .ok (.iload 6, 2) := by decide +kernel
theorem d_AckBook_settle_126 : decode c_AckBook_settle 126 = .ok (.ireturn, 1) := by decide +kernel
theorem d_AckBook_settle_76 : decode c_AckBook_settle 76 = .ok (.istore 6, 2) := by decide +kernel
theorem d_AckBook_settle_78 : decode c_AckBook_settle 78 = .ok (.aload_n 0, 1) := by decide +kernel
theorem d_AckBook_settle_79 : decode c_AckBook_settle 79 = .ok (.getfield 28, 3) := by decide +kernel
theorem d_AckBook_settle_82 : decode c_AckBook_settle 82 = .ok (.aload_n 0, 1) := by decide +kernel
theorem d_AckBook_settle_83 : decode c_AckBook_settle 83 = .ok (.getfield 73, 3) := by decide +kernel
theorem d_AckBook_settle_86 : decode c_AckBook_settle 86 = .ok (.aload_n 2, 1) := by decide +kernel
theorem d_AckBook_settle_87 : decode c_AckBook_settle 87 = .ok (.getfield 289, 3) := by decide +kernel
theorem d_AckBook_settle_90 : decode c_AckBook_settle 90 = .ok (.isub, 1) := by decide +kernel
theorem d_AckBook_settle_91 : decode c_AckBook_settle 91 = .ok (.iload 6, 2) := by decide +kernel
theorem d_AckBook_settle_93 : decode c_AckBook_settle 93 = .ok (.aload_n 0, 1) := by decide +kernel
theorem d_AckBook_settle_94 : decode c_AckBook_settle 94 = .ok (.getfield 73, 3) := by decide +kernel
theorem d_AckBook_settle_97 : decode c_AckBook_settle 97 = .ok (.invokevirtual 292, 3) := by decide +kernel
theorem d_AckBook_settle_12 : decode c_AckBook_settle 12 = .ok (.istore 4, 2) := by decide +kernel
theorem d_AckBook_settle_14 : decode c_AckBook_settle 14 = .ok (.aload_n 1, 1) := by decide +kernel
theorem d_AckBook_settle_15 : decode c_AckBook_settle 15 = .ok (.getfield 56, 3) := by decide +kernel
theorem d_AckBook_settle_18 : decode c_AckBook_settle 18 = .ok (.aload_n 2, 1) := by decide +kernel
theorem d_AckBook_settle_19 : decode c_AckBook_settle 19 = .ok (.getfield 88, 3) := by decide +kernel
theorem d_AckBook_settle_22 : decode c_AckBook_settle 22 = .ok (.invokevirtual 278, 3) := by decide +kernel
theorem d_AckBook_settle_25 : decode c_AckBook_settle 25 = .ok (.aload_n 1, 1) := by decide +kernel
theorem d_AckBook_settle_26 : decode c_AckBook_settle 26 = .ok (.getfield 56, 3) := by decide +kernel
theorem d_AckBook_settle_29 : decode c_AckBook_settle 29 = .ok (.aload_n 0, 1) := by decide +kernel
theorem d_AckBook_settle_30 : decode c_AckBook_settle 30 = .ok (.getfield 21, 3) := by decide +kernel
