theorem d_AckBook_Flow_leaveLost_53 : decode c_AckBook_Flow_leaveLost 53 = .ok (.iload_n 3, 1) := by decide +kernel
theorem d_AckBook_Flow_leaveLost_54 : decode c_AckBook_Flow_leaveLost 54 = .ok (.ifCond .eq (32), 3) := by decide +kernel
theorem d_AckBook_Flow_leaveLost_86 : decode c_AckBook_Flow_leaveLost 86 = .ok (.return_, 1) := by decide +kernel
theorem d_AckBook_Flow_leaveLost_57 : decode c_AckBook_Flow_leaveLost 57 = .ok (.aload_n 0, 1) := by decide +kernel
theorem d_AckBook_Flow_leaveLost_58 : decode c_AckBook_Flow_leaveLost 58 = .ok (.iload_n 2, 1) := by decide +kernel
theorem d_AckBook_Flow_leaveLost_59 : decode c_AckBook_Flow_leaveLost 59 = .ok (.putfield 18, 3) := by decide +kernel
theorem d_AckBook_Flow_leaveLost_62 : decode c_AckBook_Flow_leaveLost 62 = .ok (.aload_n 0, 1) := by decide +kernel
theorem d_AckBook_Flow_leaveLost_63 : decode c_AckBook_Flow_leaveLost 63 = .ok (.aload_n 0, 1) := by decide +kernel
theorem d_AckBook_Flow_leaveLost_64 : decode c_AckBook_Flow_leaveLost 64 = .ok (.getfield 9, 3) := by decide +kernel
theorem d_AckBook_Flow_leaveLost_67 : decode c_AckBook_Flow_leaveLost 67 = .ok (.iconst (2), 1) := by decide +kernel
theorem d_AckBook_Flow_leaveLost_68 : decode c_AckBook_Flow_leaveLost 68 = .ok (.idiv, 1) := by decide +kernel
theorem d_AckBook_Flow_leaveLost_69 : decode c_AckBook_Flow_leaveLost 69 = .ok (.putfield 15, 3) := by decide +kernel
theorem d_AckBook_Flow_leaveLost_72 : decode c_AckBook_Flow_leaveLost 72 = .ok (.aload_n 0, 1) := by decide +kernel
theorem d_AckBook_Flow_leaveLost_73 : decode c_AckBook_Flow_leaveLost 73 = .ok (.aload_n 0, 1) := by decide +kernel
theorem d_AckBook_Flow_leaveLost_74 : decode c_AckBook_Flow_leaveLost 74 = .ok (.getfield 15, 3) := by decide +kernel
theorem d_AckBook_Flow_leaveLost_77 : decode c_AckBook_Flow_leaveLost 77 = .ok (.sipush (2400), 3) := by decide +kernel
theorem d_AckBook_Flow_leaveLost_80 : decode c_AckBook_Flow_leaveLost 80 = .ok (.invokestatic 52, 3) := by decide +kernel
theorem d_AckBook_Flow_leaveLost_83 : decode c_AckBook_Flow_leaveLost 83 = .ok (.putfield 9, 3) := by decide +kernel
theorem d_AckBook_Flow_leaveLost_10 : decode c_AckBook_Flow_leaveLost 10 = .ok (.aload_n 0, 1) := by decide +kernel
theorem d_AckBook_Flow_leaveLost_11 : decode c_AckBook_Flow_leaveLost 11 = .ok (.aload 4, 2) := by decide +kernel
theorem d_AckBook_Flow_leaveLost_13 : decode c_AckBook_Flow_leaveLost 13 = .ok (.invokevirtual 36, 3) := by decide +kernel
theorem d_AckBook_Flow_leaveLost_16 : decode c_AckBook_Flow_leaveLost 16 = .ok (.iload_n 3, 1) := by decide +kernel
theorem d_AckBook_Flow_leaveLost_17 : decode c_AckBook_Flow_leaveLost 17 = .ok (.ifCond .ne (20), 3) := by decide +kernel
theorem d_AckBook_Flow_leaveLost_20 : decode c_AckBook_Flow_leaveLost 20 = .ok (.aload 4, 2) := by decide +kernel
theorem d_AckBook_Flow_leaveLost_22 : decode c_AckBook_Flow_leaveLost 22 = .ok (.getfield 21, 3) := by decide +kernel
theorem d_AckBook_Flow_leaveLost_25 : decode c_AckBook_Flow_leaveLost 25 = .ok (.ifCond .eq (16), 3) := by decide +kernel
theorem d_AckBook_Flow_leaveLost_41 : decode c_AckBook_Flow_leaveLost 41 = .ok (.iconst (0), 1) := by decide +kernel
theorem d_AckBook_Flow_leaveLost_42 : decode c_AckBook_Flow_leaveLost 42 = .ok (.istore_n 3, 1) := by decide +kernel
theorem d_AckBook_Flow_leaveLost_43 : decode c_AckBook_Flow_leaveLost 43 = .ok (.aload 4, 2) := by decide +kernel
theorem d_AckBook_Flow_leaveLost_45 : decode c_AckBook_Flow_leaveLost 45 = .ok (.getfield 48, 3) := by decide +kernel
theorem d_AckBook_Flow_leaveLost_48 : decode c_AckBook_Flow_leaveLost 48 = .ok (.astore 4, 2) := by decide +kernel
theorem d_AckBook_Flow_leaveLost_50 : decode c_AckBook_Flow_leaveLost 50 = .ok (.goto (-45), 3) := by decide +kernel
theorem d_AckBook_Flow_leaveLost_28 : decode c_AckBook_Flow_leaveLost 28 = .ok (.aload_n 0, 1) := by decide +kernel
theorem d_AckBook_Flow_leaveLost_29 : decode c_AckBook_Flow_leaveLost 29 = .ok (.aload 4, 2) := by decide +kernel
theorem d_AckBook_Flow_leaveLost_31 : decode c_AckBook_Flow_leaveLost 31 = .ok (.invokevirtual 40, 3) := by decide +kernel
theorem d_AckBook_Flow_leaveLost_34 : decode c_AckBook_Flow_leaveLost 34 = .ok (.ifCond .eq (7), 3) := by decide +kernel
theorem d_AckBook_Flow_leaveLost_37 : decode c_AckBook_Flow_leaveLost 37 = .ok (.iconst (1), 1) := by decide +kernel
theorem d_AckBook_Flow_leaveLost_38 : decode c_AckBook_Flow_leaveLost 38 = .ok (.goto (4), 3) := by decide +kernel
theorem d_AckBook_Flow_leaveLost_0 : decode c_AckBook_Flow_leaveLost 0 = .ok (.iconst (0), 1) := by decide +kernel
theorem d_AckBook_Flow_leaveLost_1 : decode c_AckBook_Flow_leaveLost 1 = .ok (.istore_n 3, 1) := by decide +kernel
theorem d_AckBook_Flow_leaveLost_2 : decode c_AckBook_Flow_leaveLost 2 = .ok (.aload_n 1, 1) := by decide +kernel
theorem d_AckBook_Flow_leaveLost_3 : decode c_AckBook_Flow_leaveLost 3 = .ok (.astore 4, 2) := by decide +kernel
theorem d_AckBook_Flow_collapse_0 : decode c_AckBook_Flow_collapse 0 = .ok (.aload_n 0, 1) := by decide +kernel
theorem d_AckBook_Flow_collapse_1 : decode c_AckBook_Flow_collapse 1 = .ok (.sipush (2400), 3) := by decide +kernel
theorem d_AckBook_Flow_collapse_4 : decode c_AckBook_Flow_collapse 4 = .ok (.putfield 9, 3) := by decide +kernel
theorem d_AckBook_Flow_collapse_7 : decode c_AckBook_Flow_collapse 7 = .ok (.aload_n 0, 1) := by decide +kernel
theorem d_AckBook_Flow_collapse_8 : decode c_AckBook_Flow_collapse 8 = .ok (.iconst (-1), 1) := by decide +kernel
theorem d_AckBook_Flow_collapse_9 : decode c_AckBook_Flow_collapse 9 = .ok (.putfield 18, 3) := by decide +kernel
theorem d_AckBook_Flow_collapse_12 : decode c_AckBook_Flow_collapse 12 = .ok (.return_, 1) := by decide +kernel
theorem d_AckBook_Packet_init_0 : decode c_AckBook_Packet_init 0 = .ok (.aload_n 0, 1) := by decide +kernel
theorem d_AckBook_Packet_init_1 : decode c_AckBook_Packet_init 1 = .ok (.invokespecial 3, 3) := by decide +kernel
theorem d_AckBook_Packet_init_4 : decode c_AckBook_Packet_init 4 = .ok (.aload_n 0, 1) := by decide +kernel
theorem d_AckBook_Packet_init_5 : decode c_AckBook_Packet_init 5 = .ok (.iload_n 1, 1) := by decide +kernel
theorem d_AckBook_Packet_init_6 : decode c_AckBook_Packet_init 6 = .ok (.putfield 9, 3) := by decide +kernel
theorem d_AckBook_Packet_init_9 : decode c_AckBook_Packet_init 9 = .ok (.aload_n 0, 1) := by decide +kernel
theorem d_AckBook_Packet_init_10 : decode c_AckBook_Packet_init 10 = .ok (.iload_n 2, 1) := by decide +kernel
theorem d_AckBook_Packet_init_11 : decode c_AckBook_Packet_init 11 = .ok (.putfield 15, 3) := by decide +kernel
theorem d_AckBook_Packet_init_14 : decode c_AckBook_Packet_init 14 = .ok (.aload_n 0, 1) := by decide +kernel
theorem d_AckBook_Packet_init_15 : decode c_AckBook_Packet_init 15 = .ok (.iload_n 3, 1) := by decide +kernel
theorem d_AckBook_Packet_init_16 : decode c_AckBook_Packet_init 16 = .ok (.putfield 18, 3) := by decide +kernel
theorem d_AckBook_Packet_init_19 : decode c_AckBook_Packet_init 19 = .ok (.aload_n 0, 1) := by decide +kernel
theorem d_AckBook_Packet_init_20 : decode c_AckBook_Packet_init 20 = .ok (.iload 4, 2) := by decide +kernel
theorem d_AckBook_Packet_init_22 : decode c_AckBook_Packet_init 22 = .ok (.putfield 21, 3) := by decide +kernel
theorem d_AckBook_Packet_init_25 : decode c_AckBook_Packet_init 25 = .ok (.aload_n 0, 1) := by decide +kernel
theorem d_AckBook_Packet_init_26 : decode c_AckBook_Packet_init 26 = .ok (.iload 5, 2) := by decide +kernel
theorem d_AckBook_Packet_init_28 : decode c_AckBook_Packet_init 28 = .ok (.putfield 25, 3) := by decide +kernel
theorem d_AckBook_Packet_init_31 : decode c_AckBook_Packet_init 31 = .ok (.aload_n 0, 1) := by decide +kernel
theorem d_AckBook_Packet_init_32 : decode c_AckBook_Packet_init 32 = .ok (.iconst (0), 1) := by decide +kernel
theorem d_AckBook_Packet_init_33 : decode c_AckBook_Packet_init 33 = .ok (.putfield 28, 3) := by decide +kernel
theorem d_AckBook_Packet_init_36 : decode c_AckBook_Packet_init 36 = .ok (.return_, 1) := by decide +kernel
theorem d_AckBook_Flow_enter_0 : decode c_AckBook_Flow_enter 0 = .ok (.aload_n 1, 1) := by decide +kernel
theorem d_AckBook_Flow_enter_1 : decode c_AckBook_Flow_enter 1 = .ok (.getfield 21, 3) := by decide +kernel
theorem d_AckBook_Flow_enter_4 : decode c_AckBook_Flow_enter 4 = .ok (.ifCond .eq (16), 3) := by decide +kernel
theorem d_AckBook_Flow_enter_20 : decode c_AckBook_Flow_enter 20 = .ok (.aload_n 1, 1) := by decide +kernel
theorem d_AckBook_Flow_enter_21 : decode c_AckBook_Flow_enter 21 = .ok (.aload_n 0, 1) := by decide +kernel
theorem d_AckBook_Flow_enter_22 : decode c_AckBook_Flow_enter 22 = .ok (.getfield 27, 3) := by decide +kernel
theorem d_AckBook_Flow_enter_25 : decode c_AckBook_Flow_enter 25 = .ok (.aload_n 0, 1) := by decide +kernel
theorem d_AckBook_Flow_enter_26 : decode c_AckBook_Flow_enter 26 = .ok (.getfield 9, 3) := by decide +kernel
theorem d_AckBook_Flow_enter_29 : decode c_AckBook_Flow_enter 29 = .ok (.sipush (1200), 3) := by decide +kernel
theorem d_AckBook_Flow_enter_32 : decode c_AckBook_Flow_enter 32 = .ok (.isub, 1) := by decide +kernel
theorem d_AckBook_Flow_enter_33 : decode c_AckBook_Flow_enter 33 = .ok (.if_icmp .le (7), 3) := by decide +kernel
theorem d_AckBook_Flow_enter_40 : decode c_AckBook_Flow_enter 40 = .ok (.iconst (0), 1) := by decide +kernel
theorem d_AckBook_Flow_enter_41 : decode c_AckBook_Flow_enter 41 = .ok (.putfield 33, 3) := by decide +kernel
theorem d_AckBook_Flow_enter_44 : decode c_AckBook_Flow_enter 44 = .ok (.return_, 1) := by decide +kernel
theorem d_AckBook_Flow_enter_36 : decode c_AckBook_Flow_enter 36 = .ok (.iconst (1), 1) := by decide +kernel
theorem d_AckBook_Flow_enter_37 : decode c_AckBook_Flow_enter 37 = .ok (.goto (4), 3) := by decide +kernel
theorem d_AckBook_Flow_enter_7 : decode c_AckBook_Flow_enter 7 = .ok (.aload_n 0, 1) := by decide +kernel
theorem d_AckBook_Flow_enter_8 : decode c_AckBook_Flow_enter 8 = .ok (.dup, 1) := by decide +kernel
theorem d_AckBook_Flow_enter_9 : decode c_AckBook_Flow_enter 9 = .ok (.getfield 27, 3) := by decide +kernel
theorem d_AckBook_Flow_enter_12 : decode c_AckBook_Flow_enter 12 = .ok (.aload_n 1, 1) := by decide +kernel
theorem d_AckBook_Flow_enter_13 : decode c_AckBook_Flow_enter 13 = .ok (.getfield 30, 3) := by decide +kernel
theorem d_AckBook_Flow_enter_16 : decode c_AckBook_Flow_enter 16 = .ok (.iadd, 1) := by decide +kernel
theorem d_AckBook_Flow_enter_17 : decode c_AckBook_Flow_enter 17 = .ok (.putfield 27, 3) := by decide +kernel
theorem d_AckBook_Claim_isBelow_0 : decode c_AckBook_Claim_isBelow 0 = .ok (.aload_n 0, 1) := by decide +kernel
theorem d_AckBook_Claim_isBelow_1 : decode c_AckBook_Claim_isBelow 1 = .ok (.getfield 18, 3) := by decide +kernel
theorem d_AckBook_Claim_isBelow_4 : decode c_AckBook_Claim_isBelow 4 = .ok (.ifCond .le (12), 3) := by decide +kernel
theorem d_AckBook_Claim_isBelow_16 : decode c_AckBook_Claim_isBelow 16 = .ok (.iconst (1), 1) := by decide +kernel
theorem d_AckBook_Claim_isBelow_17 : decode c_AckBook_Claim_isBelow 17 = .ok (.ireturn, 1) := by decide +kernel
theorem d_AckBook_Claim_isBelow_7 : decode c_AckBook_Claim_isBelow 7 = .ok (.aload_n 0, 1) := by decide +kernel
theorem d_AckBook_Claim_isBelow_8 : decode c_AckBook_Claim_isBelow 8 = .ok (.getfield 18, 3) := by decide +kernel
theorem d_AckBook_Claim_isBelow_11 : decode c_AckBook_Claim_isBelow 11 = .ok (.bipush (64), 2) := by decide +kernel
theorem d_AckBook_Claim_isBelow_13 : decode c_AckBook_Claim_isBelow 13 = .ok (.if_icmp .le (5), 3) := by decide +kernel
theorem d_AckBook_Claim_isBelow_18 : decode c_AckBook_Claim_isBelow 18 = .ok (.lload_n 1, 1) := by decide +kernel
theorem d_AckBook_Claim_isBelow_19 : decode c_AckBook_Claim_isBelow 19 = .ok (.aload_n 0, 1) := by decide +kernel
theorem d_AckBook_Claim_isBelow_20 : decode c_AckBook_Claim_isBelow 20 = .ok (.getfield 9, 3) := by decide +kernel
theorem d_AckBook_Claim_isBelow_23 : decode c_AckBook_Claim_isBelow 23 = .ok (.aload_n 0, 1) := by decide +kernel
theorem d_AckBook_Claim_isBelow_24 : decode c_AckBook_Claim_isBelow 24 = .ok (.getfield 18, 3) := by decide +kernel
theorem d_AckBook_Claim_isBelow_27 : decode c_AckBook_Claim_isBelow 27 = .ok (.iconst (1), 1) := by decide +kernel
theorem d_AckBook_Claim_isBelow_28 : decode c_AckBook_Claim_isBelow 28 = .ok (.isub, 1) := by decide +kernel
theorem d_AckBook_Claim_isBelow_29 : decode c_AckBook_Claim_isBelow 29 = .ok (.laload, 1) := by decide +kernel
theorem d_AckBook_Claim_isBelow_30 : decode c_AckBook_Claim_isBelow 30 = .ok (.lconst 1, 1) := by decide +kernel
theorem d_AckBook_Claim_isBelow_31 : decode c_AckBook_Claim_isBelow 31 = .ok (.lsub, 1) := by decide +kernel
theorem d_AckBook_Claim_isBelow_32 : decode c_AckBook_Claim_isBelow 32 = .ok (.lcmp, 1) := by decide +kernel
theorem d_AckBook_Claim_isBelow_33 : decode c_AckBook_Claim_isBelow 33 = .ok (.ifCond .ge (7), 3) := by decide +kernel
theorem d_AckBook_Claim_isBelow_40 : decode c_AckBook_Claim_isBelow 40 = .ok (.iconst (0), 1) := by decide +kernel
theorem d_AckBook_Claim_isBelow_41 : decode c_AckBook_Claim_isBelow 41 = .ok (.ireturn, 1) := by decide +kernel
theorem d_AckBook_Claim_isBelow_36 : decode c_AckBook_Claim_isBelow 36 = .ok (.iconst (1), 1) := by decide +kernel
theorem d_AckBook_Claim_isBelow_37 : decode c_AckBook_Claim_isBelow 37 = .ok (.goto (4), 3) := by decide +kernel
theorem d_AckBook_Claim_isFull_0 : decode c_AckBook_Claim_isFull 0 = .ok (.aload_n 0, 1) := by decide +kernel
theorem d_AckBook_Claim_isFull_1 : decode c_AckBook_Claim_isFull 1 = .ok (.getfield 18, 3) := by decide +kernel
