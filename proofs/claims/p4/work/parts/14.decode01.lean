theorem d_AckBook_init_61 : decode c_AckBook_init 61 = .ok (.aload_n 0, 1) := by decide +kernel
theorem d_AckBook_init_62 : decode c_AckBook_init 62 = .ok (.new 32, 3) := by decide +kernel
theorem d_AckBook_init_65 : decode c_AckBook_init 65 = .ok (.dup, 1) := by decide +kernel
theorem d_AckBook_init_66 : decode c_AckBook_init 66 = .ok (.invokespecial 34, 3) := by decide +kernel
theorem d_AckBook_init_69 : decode c_AckBook_init 69 = .ok (.putfield 35, 3) := by decide +kernel
theorem d_AckBook_init_72 : decode c_AckBook_init 72 = .ok (.return_, 1) := by decide +kernel
theorem d_AckBook_init_19 : decode c_AckBook_init 19 = .ok (.aload_n 0, 1) := by decide +kernel
theorem d_AckBook_init_20 : decode c_AckBook_init 20 = .ok (.getfield 11, 3) := by decide +kernel
theorem d_AckBook_init_23 : decode c_AckBook_init 23 = .ok (.iload_n 1, 1) := by decide +kernel
theorem d_AckBook_init_24 : decode c_AckBook_init 24 = .ok (.new 9, 3) := by decide +kernel
theorem d_AckBook_init_27 : decode c_AckBook_init 27 = .ok (.dup, 1) := by decide +kernel
theorem d_AckBook_init_28 : decode c_AckBook_init 28 = .ok (.iload_n 1, 1) := by decide +kernel
theorem d_AckBook_init_29 : decode c_AckBook_init 29 = .ok (.invokespecial 15, 3) := by decide +kernel
theorem d_AckBook_init_32 : decode c_AckBook_init 32 = .ok (.aastore, 1) := by decide +kernel
theorem d_AckBook_init_33 : decode c_AckBook_init 33 = .ok (.iinc 1 (1), 3) := by decide +kernel
theorem d_AckBook_init_36 : decode c_AckBook_init 36 = .ok (.goto (-22), 3) := by decide +kernel
theorem d_AckBook_init_0 : decode c_AckBook_init 0 = .ok (.aload_n 0, 1) := by decide +kernel
theorem d_AckBook_init_1 : decode c_AckBook_init 1 = .ok (.invokespecial 1, 3) := by decide +kernel
theorem d_AckBook_init_4 : decode c_AckBook_init 4 = .ok (.aload_n 0, 1) := by decide +kernel
theorem d_AckBook_init_5 : decode c_AckBook_init 5 = .ok (.iconst (3), 1) := by decide +kernel
theorem d_AckBook_init_6 : decode c_AckBook_init 6 = .ok (.anewarray 9, 3) := by decide +kernel
theorem d_AckBook_init_9 : decode c_AckBook_init 9 = .ok (.putfield 11, 3) := by decide +kernel
theorem d_AckBook_init_12 : decode c_AckBook_init 12 = .ok (.iconst (0), 1) := by decide +kernel
theorem d_AckBook_init_13 : decode c_AckBook_init 13 = .ok (.istore_n 1, 1) := by decide +kernel
theorem d_AckBook_Way_patience_0 : decode c_AckBook_Way_patience 0 = .ok (.aload_n 0, 1) := by decide +kernel
theorem d_AckBook_Way_patience_1 : decode c_AckBook_Way_patience 1 = .ok (.getfield 9, 3) := by decide +kernel
theorem d_AckBook_Way_patience_4 : decode c_AckBook_Way_patience 4 = .ok (.bipush (8), 2) := by decide +kernel
theorem d_AckBook_Way_patience_6 : decode c_AckBook_Way_patience 6 = .ok (.idiv, 1) := by decide +kernel
theorem d_AckBook_Way_patience_7 : decode c_AckBook_Way_patience 7 = .ok (.aload_n 0, 1) := by decide +kernel
theorem d_AckBook_Way_patience_8 : decode c_AckBook_Way_patience 8 = .ok (.getfield 15, 3) := by decide +kernel
theorem d_AckBook_Way_patience_11 : decode c_AckBook_Way_patience 11 = .ok (.iconst (1), 1) := by decide +kernel
theorem d_AckBook_Way_patience_12 : decode c_AckBook_Way_patience 12 = .ok (.invokestatic 37, 3) := by decide +kernel
theorem d_AckBook_Way_patience_15 : decode c_AckBook_Way_patience 15 = .ok (.iadd, 1) := by decide +kernel
theorem d_AckBook_Way_patience_16 : decode c_AckBook_Way_patience 16 = .ok (.ireturn, 1) := by decide +kernel
theorem d_AckBook_patience_20 : decode c_AckBook_patience 20 = .ok (.istore_n 2, 1) := by decide +kernel
theorem d_AckBook_patience_21 : decode c_AckBook_patience 21 = .ok (.aload_n 0, 1) := by decide +kernel
theorem d_AckBook_patience_22 : decode c_AckBook_patience 22 = .ok (.getfield 28, 3) := by decide +kernel
theorem d_AckBook_patience_25 : decode c_AckBook_patience 25 = .ok (.invokevirtual 318, 3) := by decide +kernel
theorem d_AckBook_patience_28 : decode c_AckBook_patience 28 = .ok (.iload_n 2, 1) := by decide +kernel
theorem d_AckBook_patience_29 : decode c_AckBook_patience 29 = .ok (.ifCond .eq (8), 3) := by decide +kernel
theorem d_AckBook_patience_37 : decode c_AckBook_patience 37 = .ok (.iconst (0), 1) := by decide +kernel
theorem d_AckBook_patience_38 : decode c_AckBook_patience 38 = .ok (.iadd, 1) := by decide +kernel
theorem d_AckBook_patience_39 : decode c_AckBook_patience 39 = .ok (.ireturn, 1) := by decide +kernel
theorem d_AckBook_patience_32 : decode c_AckBook_patience 32 = .ok (.bipush (25), 2) := by decide +kernel
theorem d_AckBook_patience_34 : decode c_AckBook_patience 34 = .ok (.goto (4), 3) := by decide +kernel
theorem d_AckBook_patience_19 : decode c_AckBook_patience 19 = .ok (.iconst (0), 1) := by decide +kernel
theorem d_AckBook_patience_0 : decode c_AckBook_patience 0 = .ok (.aload_n 1, 1) := by decide +kernel
theorem d_AckBook_patience_1 : decode c_AckBook_patience 1 = .ok (.getfield 146, 3) := by decide +kernel
theorem d_AckBook_patience_4 : decode c_AckBook_patience 4 = .ok (.iconst (2), 1) := by decide +kernel
theorem d_AckBook_patience_5 : decode c_AckBook_patience 5 = .ok (.if_icmp .ne (14), 3) := by decide +kernel
theorem d_AckBook_patience_8 : decode c_AckBook_patience 8 = .ok (.aload_n 0, 1) := by decide +kernel
theorem d_AckBook_patience_9 : decode c_AckBook_patience 9 = .ok (.getfield 165, 3) := by decide +kernel
theorem d_AckBook_patience_12 : decode c_AckBook_patience 12 = .ok (.ifCond .eq (7), 3) := by decide +kernel
theorem d_AckBook_patience_15 : decode c_AckBook_patience 15 = .ok (.iconst (1), 1) := by decide +kernel
theorem d_AckBook_patience_16 : decode c_AckBook_patience 16 = .ok (.goto (4), 3) := by decide +kernel
theorem d_AckBook_probesWithoutCause_13 : decode c_AckBook_probesWithoutCause 13 = .ok (.iload_n 3, 1) := by decide +kernel
theorem d_AckBook_probesWithoutCause_14 : decode c_AckBook_probesWithoutCause 14 = .ok (.aload_n 0, 1) := by decide +kernel
theorem d_AckBook_probesWithoutCause_15 : decode c_AckBook_probesWithoutCause 15 = .ok (.getfield 11, 3) := by decide +kernel
theorem d_AckBook_probesWithoutCause_18 : decode c_AckBook_probesWithoutCause 18 = .ok (.arraylength, 1) := by decide +kernel
theorem d_AckBook_probesWithoutCause_19 : decode c_AckBook_probesWithoutCause 19 = .ok (.if_icmp .ge (48), 3) := by decide +kernel
theorem d_AckBook_probesWithoutCause_67 : decode c_AckBook_probesWithoutCause 67 = .ok (.iload_n 2, 1) := by decide +kernel
theorem d_AckBook_probesWithoutCause_68 : decode c_AckBook_probesWithoutCause 68 = .ok (.ireturn, 1) := by decide +kernel
theorem d_AckBook_probesWithoutCause_22 : decode c_AckBook_probesWithoutCause 22 = .ok (.aload_n 0, 1) := by decide +kernel
theorem d_AckBook_probesWithoutCause_23 : decode c_AckBook_probesWithoutCause 23 = .ok (.getfield 11, 3) := by decide +kernel
theorem d_AckBook_probesWithoutCause_26 : decode c_AckBook_probesWithoutCause 26 = .ok (.iload_n 3, 1) := by decide +kernel
theorem d_AckBook_probesWithoutCause_27 : decode c_AckBook_probesWithoutCause 27 = .ok (.aaload, 1) := by decide +kernel
theorem d_AckBook_probesWithoutCause_28 : decode c_AckBook_probesWithoutCause 28 = .ok (.getfield 56, 3) := by decide +kernel
theorem d_AckBook_probesWithoutCause_31 : decode c_AckBook_probesWithoutCause 31 = .ok (.getfield 264, 3) := by decide +kernel
theorem d_AckBook_probesWithoutCause_34 : decode c_AckBook_probesWithoutCause 34 = .ok (.ifCond .le (5), 3) := by decide +kernel
theorem d_AckBook_probesWithoutCause_39 : decode c_AckBook_probesWithoutCause 39 = .ok (.iload_n 3, 1) := by decide +kernel
theorem d_AckBook_probesWithoutCause_40 : decode c_AckBook_probesWithoutCause 40 = .ok (.aload_n 1, 1) := by decide +kernel
theorem d_AckBook_probesWithoutCause_41 : decode c_AckBook_probesWithoutCause 41 = .ok (.getfield 146, 3) := by decide +kernel
theorem d_AckBook_probesWithoutCause_44 : decode c_AckBook_probesWithoutCause 44 = .ok (.if_icmp .ge (17), 3) := by decide +kernel
theorem d_AckBook_probesWithoutCause_61 : decode c_AckBook_probesWithoutCause 61 = .ok (.iinc 3 (1), 3) := by decide +kernel
theorem d_AckBook_probesWithoutCause_64 : decode c_AckBook_probesWithoutCause 64 = .ok (.goto (-51), 3) := by decide +kernel
theorem d_AckBook_probesWithoutCause_47 : decode c_AckBook_probesWithoutCause 47 = .ok (.aload_n 0, 1) := by decide +kernel
theorem d_AckBook_probesWithoutCause_48 : decode c_AckBook_probesWithoutCause 48 = .ok (.getfield 11, 3) := by decide +kernel
theorem d_AckBook_probesWithoutCause_51 : decode c_AckBook_probesWithoutCause 51 = .ok (.iload_n 3, 1) := by decide +kernel
theorem d_AckBook_probesWithoutCause_52 : decode c_AckBook_probesWithoutCause 52 = .ok (.aaload, 1) := by decide +kernel
theorem d_AckBook_probesWithoutCause_53 : decode c_AckBook_probesWithoutCause 53 = .ok (.getfield 149, 3) := by decide +kernel
theorem d_AckBook_probesWithoutCause_56 : decode c_AckBook_probesWithoutCause 56 = .ok (.ifCond .ne (5), 3) := by decide +kernel
theorem d_AckBook_probesWithoutCause_59 : decode c_AckBook_probesWithoutCause 59 = .ok (.iconst (0), 1) := by decide +kernel
theorem d_AckBook_probesWithoutCause_60 : decode c_AckBook_probesWithoutCause 60 = .ok (.istore_n 2, 1) := by decide +kernel
theorem d_AckBook_probesWithoutCause_37 : decode c_AckBook_probesWithoutCause 37 = .ok (.iconst (0), 1) := by decide +kernel
theorem d_AckBook_probesWithoutCause_38 : decode c_AckBook_probesWithoutCause 38 = .ok (.ireturn, 1) := by decide +kernel
theorem d_AckBook_probesWithoutCause_0 : decode c_AckBook_probesWithoutCause 0 = .ok (.aload_n 0, 1) := by decide +kernel
theorem d_AckBook_probesWithoutCause_1 : decode c_AckBook_probesWithoutCause 1 = .ok (.getfield 168, 3) := by decide +kernel
theorem d_AckBook_probesWithoutCause_4 : decode c_AckBook_probesWithoutCause 4 = .ok (.ifCond .ne (5), 3) := by decide +kernel
theorem d_AckBook_probesWithoutCause_7 : decode c_AckBook_probesWithoutCause 7 = .ok (.iconst (0), 1) := by decide +kernel
theorem d_AckBook_probesWithoutCause_8 : decode c_AckBook_probesWithoutCause 8 = .ok (.ireturn, 1) := by decide +kernel
theorem d_AckBook_probesWithoutCause_9 : decode c_AckBook_probesWithoutCause 9 = .ok (.iconst (1), 1) := by decide +kernel
theorem d_AckBook_probesWithoutCause_10 : decode c_AckBook_probesWithoutCause 10 = .ok (.istore_n 2, 1) := by decide +kernel
theorem d_AckBook_probesWithoutCause_11 : decode c_AckBook_probesWithoutCause 11 = .ok (.iconst (0), 1) := by decide +kernel
theorem d_AckBook_probesWithoutCause_12 : decode c_AckBook_probesWithoutCause 12 = .ok (.istore_n 3, 1) := by decide +kernel
theorem d_AckBook_probeTime_24 : decode c_AckBook_probeTime 24 = .ok (.aload_n 0, 1) := by decide +kernel
theorem d_AckBook_probeTime_25 : decode c_AckBook_probeTime 25 = .ok (.aload_n 1, 1) := by decide +kernel
theorem d_AckBook_probeTime_26 : decode c_AckBook_probeTime 26 = .ok (.invokevirtual 267, 3) := by decide +kernel
theorem d_AckBook_probeTime_29 : decode c_AckBook_probeTime 29 = .ok (.aload_n 0, 1) := by decide +kernel
theorem d_AckBook_probeTime_30 : decode c_AckBook_probeTime 30 = .ok (.getfield 137, 3) := by decide +kernel
theorem d_AckBook_probeTime_33 : decode c_AckBook_probeTime 33 = .ok (.ishl, 1) := by decide +kernel
theorem d_AckBook_probeTime_34 : decode c_AckBook_probeTime 34 = .ok (.istore_n 2, 1) := by decide +kernel
theorem d_AckBook_probeTime_35 : decode c_AckBook_probeTime 35 = .ok (.aload_n 1, 1) := by decide +kernel
theorem d_AckBook_probeTime_36 : decode c_AckBook_probeTime 36 = .ok (.getfield 56, 3) := by decide +kernel
theorem d_AckBook_probeTime_39 : decode c_AckBook_probeTime 39 = .ok (.getfield 264, 3) := by decide +kernel
theorem d_AckBook_probeTime_42 : decode c_AckBook_probeTime 42 = .ok (.ifCond .le (13), 3) := by decide +kernel
theorem d_AckBook_probeTime_55 : decode c_AckBook_probeTime 55 = .ok (.aload_n 0, 1) := by decide +kernel
theorem d_AckBook_probeTime_56 : decode c_AckBook_probeTime 56 = .ok (.aload_n 1, 1) := by decide +kernel
theorem d_AckBook_probeTime_57 : decode c_AckBook_probeTime 57 = .ok (.invokevirtual 330, 3) := by decide +kernel
theorem d_AckBook_probeTime_60 : decode c_AckBook_probeTime 60 = .ok (.ifCond .eq (12), 3) := by decide +kernel
theorem d_AckBook_probeTime_72 : decode c_AckBook_probeTime 72 = .ok (.iconst (-1), 1) := by decide +kernel
theorem d_AckBook_probeTime_73 : decode c_AckBook_probeTime 73 = .ok (.ireturn, 1) := by decide +kernel
theorem d_AckBook_probeTime_63 : decode c_AckBook_probeTime 63 = .ok (.aload_n 0, 1) := by decide +kernel
theorem d_AckBook_probeTime_64 : decode c_AckBook_probeTime 64 = .ok (.getfield 85, 3) := by decide +kernel
theorem d_AckBook_probeTime_67 : decode c_AckBook_probeTime 67 = .ok (.iload_n 2, 1) := by decide +kernel
theorem d_AckBook_probeTime_68 : decode c_AckBook_probeTime 68 = .ok (.iadd, 1) := by decide +kernel
theorem d_AckBook_probeTime_69 : decode c_AckBook_probeTime 69 = .ok (.goto (4), 3) := by decide +kernel
theorem d_AckBook_probeTime_45 : decode c_AckBook_probeTime 45 = .ok (.aload_n 1, 1) := by decide +kernel
theorem d_AckBook_probeTime_46 : decode c_AckBook_probeTime 46 = .ok (.getfield 56, 3) := by decide +kernel
theorem d_AckBook_probeTime_49 : decode c_AckBook_probeTime 49 = .ok (.getfield 327, 3) := by decide +kernel
theorem d_AckBook_probeTime_52 : decode c_AckBook_probeTime 52 = .ok (.iload_n 2, 1) := by decide +kernel
