theorem d_AckBook_Flow_leaveAcknowledged_17 : decode c_AckBook_Flow_leaveAcknowledged 17 = .ok (.getfield 21, 3) := by decide +kernel
theorem d_AckBook_Flow_leaveAcknowledged_20 : decode c_AckBook_Flow_leaveAcknowledged 20 = .ok (.ifCond .eq (26), 3) := by decide +kernel
theorem d_AckBook_Flow_leaveAcknowledged_46 : decode c_AckBook_Flow_leaveAcknowledged 46 = .ok (.aload_n 3, 1) := by decide +kernel
theorem d_AckBook_Flow_leaveAcknowledged_47 : decode c_AckBook_Flow_leaveAcknowledged 47 = .ok (.getfield 48, 3) := by decide +kernel
theorem d_AckBook_Flow_leaveAcknowledged_50 : decode c_AckBook_Flow_leaveAcknowledged 50 = .ok (.astore_n 3, 1) := by decide +kernel
theorem d_AckBook_Flow_leaveAcknowledged_51 : decode c_AckBook_Flow_leaveAcknowledged 51 = .ok (.goto (-47), 3) := by decide +kernel
theorem d_AckBook_Flow_leaveAcknowledged_23 : decode c_AckBook_Flow_leaveAcknowledged 23 = .ok (.aload_n 3, 1) := by decide +kernel
theorem d_AckBook_Flow_leaveAcknowledged_24 : decode c_AckBook_Flow_leaveAcknowledged 24 = .ok (.getfield 33, 3) := by decide +kernel
theorem d_AckBook_Flow_leaveAcknowledged_27 : decode c_AckBook_Flow_leaveAcknowledged 27 = .ok (.ifCond .eq (19), 3) := by decide +kernel
theorem d_AckBook_Flow_leaveAcknowledged_30 : decode c_AckBook_Flow_leaveAcknowledged 30 = .ok (.aload_n 0, 1) := by decide +kernel
theorem d_AckBook_Flow_leaveAcknowledged_31 : decode c_AckBook_Flow_leaveAcknowledged 31 = .ok (.aload_n 3, 1) := by decide +kernel
theorem d_AckBook_Flow_leaveAcknowledged_32 : decode c_AckBook_Flow_leaveAcknowledged 32 = .ok (.invokevirtual 40, 3) := by decide +kernel
theorem d_AckBook_Flow_leaveAcknowledged_35 : decode c_AckBook_Flow_leaveAcknowledged 35 = .ok (.ifCond .eq (11), 3) := by decide +kernel
theorem d_AckBook_Flow_leaveAcknowledged_38 : decode c_AckBook_Flow_leaveAcknowledged 38 = .ok (.aload_n 0, 1) := by decide +kernel
theorem d_AckBook_Flow_leaveAcknowledged_39 : decode c_AckBook_Flow_leaveAcknowledged 39 = .ok (.aload_n 3, 1) := by decide +kernel
theorem d_AckBook_Flow_leaveAcknowledged_40 : decode c_AckBook_Flow_leaveAcknowledged 40 = .ok (.getfield 30, 3) := by decide +kernel
theorem d_AckBook_Flow_leaveAcknowledged_43 : decode c_AckBook_Flow_leaveAcknowledged 43 = .ok (.invokevirtual 44, 3) := by decide +kernel
theorem d_AckBook_Flow_leaveAcknowledged_0 : decode c_AckBook_Flow_leaveAcknowledged 0 = .ok (.iconst (0), 1) := by decide +kernel
theorem d_AckBook_Flow_leaveAcknowledged_1 : decode c_AckBook_Flow_leaveAcknowledged 1 = .ok (.istore_n 2, 1) := by decide +kernel
theorem d_AckBook_Flow_leaveAcknowledged_2 : decode c_AckBook_Flow_leaveAcknowledged 2 = .ok (.aload_n 1, 1) := by decide +kernel
theorem d_AckBook_Flow_leaveAcknowledged_3 : decode c_AckBook_Flow_leaveAcknowledged 3 = .ok (.astore_n 3, 1) := by decide +kernel
theorem d_AckBook_settle_0 : decode c_AckBook_settle 0 = .ok (.aload_n 2, 1) := by decide +kernel
theorem d_AckBook_settle_1 : decode c_AckBook_settle 1 = .ok (.getfield 183, 3) := by decide +kernel
theorem d_AckBook_settle_4 : decode c_AckBook_settle 4 = .ok (.ifCond .ne (7), 3) := by decide +kernel
theorem d_AckBook_settle_7 : decode c_AckBook_settle 7 = .ok (.iconst (1), 1) := by decide +kernel
theorem d_AckBook_settle_8 : decode c_AckBook_settle 8 = .ok (.goto (4), 3) := by decide +kernel
theorem d_AckBook_settle_12 : decode c_AckBook_settle 12 = .ok (.istore 4, 2) := by decide +kernel
theorem d_AckBook_settle_14 : decode c_AckBook_settle 14 = .ok (.aload_n 1, 1) := by decide +kernel
theorem d_AckBook_settle_15 : decode c_AckBook_settle 15 = .ok (.getfield 56, 3) := by decide +kernel
theorem d_AckBook_settle_18 : decode c_AckBook_settle 18 = .ok (.aload_n 2, 1) := by decide +kernel
theorem d_AckBook_settle_19 : decode c_AckBook_settle 19 = .ok (.getfield 88, 3) := by decide +kernel
theorem d_AckBook_settle_22 : decode c_AckBook_settle 22 = .ok (.invokevirtual 278, 3) := by decide +kernel
theorem d_AckBook_settle_25 : decode c_AckBook_settle 25 = .ok (.aload_n 1, 1) := by decide +kernel
theorem d_AckBook_settle_26 : decode c_AckBook_settle 26 = .ok (.getfield 56, 3) := by decide +kernel
theorem d_AckBook_settle_29 : decode c_AckBook_settle 29 = .ok (.aload_n 0, 1) := by decide +kernel
theorem d_AckBook_settle_30 : decode c_AckBook_settle 30 = .ok (.getfield 21, 3) := by decide +kernel
theorem d_AckBook_settle_33 : decode c_AckBook_settle 33 = .ok (.invokevirtual 281, 3) := by decide +kernel
theorem d_AckBook_settle_36 : decode c_AckBook_settle 36 = .ok (.astore 5, 2) := by decide +kernel
theorem d_AckBook_settle_38 : decode c_AckBook_settle 38 = .ok (.aload 5, 2) := by decide +kernel
theorem d_AckBook_settle_40 : decode c_AckBook_settle 40 = .ok (.ifnonnull (5), 3) := by decide +kernel
theorem d_AckBook_settle_43 : decode c_AckBook_settle 43 = .ok (.iconst (0), 1) := by decide +kernel
theorem d_AckBook_settle_44 : decode c_AckBook_settle 44 = .ok (.ireturn, 1) := by decide +kernel
theorem d_AckBook_settle_45 : decode c_AckBook_settle 45 = .ok (.iload 4, 2) := by decide +kernel
theorem d_AckBook_settle_47 : decode c_AckBook_settle 47 = .ok (.ifCond .eq (53), 3) := by decide +kernel
theorem d_AckBook_settle_50 : decode c_AckBook_settle 50 = .ok (.aload 5, 2) := by decide +kernel
theorem d_AckBook_settle_52 : decode c_AckBook_settle 52 = .ok (.invokestatic 285, 3) := by decide +kernel
theorem d_AckBook_settle_55 : decode c_AckBook_settle 55 = .ok (.ifCond .eq (45), 3) := by decide +kernel
theorem d_AckBook_settle_100 : decode c_AckBook_settle 100 = .ok (.aload_n 0, 1) := by decide +kernel
theorem d_AckBook_settle_101 : decode c_AckBook_settle 101 = .ok (.getfield 35, 3) := by decide +kernel
theorem d_AckBook_settle_104 : decode c_AckBook_settle 104 = .ok (.aload 5, 2) := by decide +kernel
theorem d_AckBook_settle_106 : decode c_AckBook_settle 106 = .ok (.invokevirtual 296, 3) := by decide +kernel
theorem d_AckBook_settle_109 : decode c_AckBook_settle 109 = .ok (.istore 6, 2) := by decide +kernel
theorem d_AckBook_settle_111 : decode c_AckBook_settle 111 = .ok (.aload_n 0, 1) := by decide +kernel
theorem d_AckBook_settle_112 : decode c_AckBook_settle 112 = .ok (.aload_n 1, 1) := by decide +kernel
theorem d_AckBook_settle_113 : decode c_AckBook_settle 113 = .ok (.getfield 56, 3) := by decide +kernel
theorem d_AckBook_settle_116 : decode c_AckBook_settle 116 = .ok (.invokevirtual 133, 3) := by decide +kernel
theorem d_AckBook_settle_119 : decode c_AckBook_settle 119 = .ok (.aload_n 0, 1) := by decide +kernel
theorem d_AckBook_settle_120 : decode c_AckBook_settle 120 = .ok (.iconst (0), 1) := by decide +kernel
theorem d_AckBook_settle_121 : decode c_AckBook_settle 121 = .ok (.putfield 137, 3) := by decide +kernel
theorem d_AckBook_settle_124 : decode c_AckBook_settle 124 = .ok (.iload 6, 2) := by decide +kernel
theorem d_AckBook_settle_126 : decode c_AckBook_settle 126 = .ok (.ireturn, 1) := by decide +kernel
theorem d_AckBook_settle_58 : decode c_AckBook_settle 58 = .ok (.aload_n 1, 1) := by decide +kernel
theorem d_AckBook_settle_59 : decode c_AckBook_settle 59 = .ok (.getfield 146, 3) := by decide +kernel
theorem d_AckBook_settle_62 : decode c_AckBook_settle 62 = .ok (.iconst (2), 1) := by decide +kernel
theorem d_AckBook_settle_63 : decode c_AckBook_settle 63 = .ok (.if_icmp .ne (12), 3) := by decide +kernel
theorem d_AckBook_settle_66 : decode c_AckBook_settle 66 = .ok (.iload_n 3, 1) := by decide +kernel
theorem d_AckBook_settle_67 : decode c_AckBook_settle 67 = .ok (.bipush (25), 2) := by decide +kernel
theorem d_AckBook_settle_69 : decode c_AckBook_settle 69 = .ok (.invokestatic 140, 3) := by decide +kernel
theorem d_AckBook_settle_72 : decode c_AckBook_settle 72 = .ok (.goto (4), 3) := by decide +kernel
theorem d_AckBook_settle_76 : decode c_AckBook_settle 76 = .ok (.istore 6, 2) := by decide +kernel
theorem d_AckBook_settle_78 : decode c_AckBook_settle 78 = .ok (.aload_n 0, 1) := by decide +kernel
theorem d_AckBook_settle_79 : decode c_AckBook_settle 79 = .ok (.getfield 28, 3) := by decide +kernel
theorem d_AckBook_settle_82 : decode c_AckBook_settle 82 = .ok (.aload_n 0, 1) := by decide +kernel
theorem d_AckBook_settle_83 : decode c_AckBook_settle 83 = .ok (.getfield 73, 3) := by decide +kernel
theorem d_AckBook_settle_86 : decode c_AckBook_settle 86 = .ok (.aload_n 2, 1) := by decide +kernel
theorem d_AckBook_settle_87 : decode c_AckBook_settle 87 = .ok (.getfield 289, 3) := by decide +kernel
theorem d_AckBook_settle_90 : decode c_AckBook_settle 90 = .ok (.isub, 1) := by decide +kernel
theorem d_AckBook_settle_91 : decode c_AckBook_settle 91 = .ok (.iload 6, 2) := by decide +kernel
theorem d_AckBook_settle_93 : decode c_AckBook_settle 93 = .ok (.aload_n 0, 1) := by decide +kernel
theorem d_AckBook_settle_94 : decode c_AckBook_settle 94 = .ok (.getfield 73, 3) := by decide +kernel
theorem d_AckBook_settle_97 : decode c_AckBook_settle 97 = .ok (.invokevirtual 292, 3) := by decide +kernel
theorem d_AckBook_settle_75 : decode c_AckBook_settle 75 = .ok (.iconst (0), 1) := by decide +kernel
theorem d_AckBook_settle_11 : decode c_AckBook_settle 11 = .ok (.iconst (0), 1) := by decide +kernel
theorem d_AckBook_acknowledge_0 : decode c_AckBook_acknowledge 0 = .ok (.aload_n 0, 1) := by decide +kernel
theorem d_AckBook_acknowledge_1 : decode c_AckBook_acknowledge 1 = .ok (.getfield 21, 3) := by decide +kernel
theorem d_AckBook_acknowledge_4 : decode c_AckBook_acknowledge 4 = .ok (.invokevirtual 109, 3) := by decide +kernel
theorem d_AckBook_acknowledge_7 : decode c_AckBook_acknowledge 7 = .ok (.aload_n 0, 1) := by decide +kernel
theorem d_AckBook_acknowledge_8 : decode c_AckBook_acknowledge 8 = .ok (.iload_n 1, 1) := by decide +kernel
theorem d_AckBook_acknowledge_9 : decode c_AckBook_acknowledge 9 = .ok (.invokevirtual 39, 3) := by decide +kernel
theorem d_AckBook_acknowledge_12 : decode c_AckBook_acknowledge 12 = .ok (.astore_n 3, 1) := by decide +kernel
theorem d_AckBook_acknowledge_13 : decode c_AckBook_acknowledge 13 = .ok (.aload_n 3, 1) := by decide +kernel
theorem d_AckBook_acknowledge_14 : decode c_AckBook_acknowledge 14 = .ok (.invokestatic 52, 3) := by decide +kernel
theorem d_AckBook_acknowledge_17 : decode c_AckBook_acknowledge 17 = .ok (.iload_n 2, 1) := by decide +kernel
theorem d_AckBook_acknowledge_18 : decode c_AckBook_acknowledge 18 = .ok (.ifCond .lt (9), 3) := by decide +kernel
theorem d_AckBook_acknowledge_27 : decode c_AckBook_acknowledge 27 = .ok (.new 43, 3) := by decide +kernel
theorem d_AckBook_acknowledge_30 : decode c_AckBook_acknowledge 30 = .ok (.dup, 1) := by decide +kernel
theorem d_AckBook_acknowledge_31 : decode c_AckBook_acknowledge 31 = .ok (.ldc 113, 2) := by decide +kernel
theorem d_AckBook_acknowledge_33 : decode c_AckBook_acknowledge 33 = .ok (.invokespecial 47, 3) := by decide +kernel
theorem d_AckBook_acknowledge_36 : decode c_AckBook_acknowledge 36 = .ok (.athrow, 1) := by decide +kernel
theorem d_AckBook_acknowledge_21 : decode c_AckBook_acknowledge 21 = .ok (.iload_n 2, 1) := by decide +kernel
theorem d_AckBook_acknowledge_22 : decode c_AckBook_acknowledge 22 = .ok (.ldc 112, 2) := by decide +kernel
theorem d_AckBook_acknowledge_24 : decode c_AckBook_acknowledge 24 = .ok (.if_icmp .le (13), 3) := by decide +kernel
theorem d_AckBook_acknowledge_37 : decode c_AckBook_acknowledge 37 = .ok (.aload_n 3, 1) := by decide +kernel
theorem d_AckBook_acknowledge_38 : decode c_AckBook_acknowledge 38 = .ok (.getfield 56, 3) := by decide +kernel
theorem d_AckBook_acknowledge_41 : decode c_AckBook_acknowledge 41 = .ok (.aload_n 0, 1) := by decide +kernel
theorem d_AckBook_acknowledge_42 : decode c_AckBook_acknowledge 42 = .ok (.getfield 21, 3) := by decide +kernel
theorem d_AckBook_acknowledge_45 : decode c_AckBook_acknowledge 45 = .ok (.invokevirtual 115, 3) := by decide +kernel
theorem d_AckBook_acknowledge_48 : decode c_AckBook_acknowledge 48 = .ok (.invokevirtual 119, 3) := by decide +kernel
theorem d_AckBook_acknowledge_51 : decode c_AckBook_acknowledge 51 = .ok (.astore 4, 2) := by decide +kernel
theorem d_AckBook_acknowledge_53 : decode c_AckBook_acknowledge 53 = .ok (.aload 4, 2) := by decide +kernel
theorem d_AckBook_acknowledge_55 : decode c_AckBook_acknowledge 55 = .ok (.ifnonnull (13), 3) := by decide +kernel
theorem d_AckBook_acknowledge_58 : decode c_AckBook_acknowledge 58 = .ok (.new 43, 3) := by decide +kernel
theorem d_AckBook_acknowledge_61 : decode c_AckBook_acknowledge 61 = .ok (.dup, 1) := by decide +kernel
theorem d_AckBook_acknowledge_62 : decode c_AckBook_acknowledge 62 = .ok (.ldc 123, 2) := by decide +kernel
theorem d_AckBook_acknowledge_64 : decode c_AckBook_acknowledge 64 = .ok (.invokespecial 47, 3) := by decide +kernel
theorem d_AckBook_acknowledge_67 : decode c_AckBook_acknowledge 67 = .ok (.athrow, 1) := by decide +kernel
theorem d_AckBook_acknowledge_68 : decode c_AckBook_acknowledge 68 = .ok (.aload_n 0, 1) := by decide +kernel
theorem d_AckBook_acknowledge_69 : decode c_AckBook_acknowledge 69 = .ok (.aload_n 3, 1) := by decide +kernel
theorem d_AckBook_acknowledge_70 : decode c_AckBook_acknowledge 70 = .ok (.aload 4, 2) := by decide +kernel
theorem d_AckBook_acknowledge_72 : decode c_AckBook_acknowledge 72 = .ok (.iload_n 2, 1) := by decide +kernel
