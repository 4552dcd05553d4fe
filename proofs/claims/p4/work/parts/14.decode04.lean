theorem d_AckBook_Flow_isAfterRecovery_13 : decode c_AckBook_Flow_isAfterRecovery 13 = .ok (.getfield 18, 3) := by decide +kernel
theorem d_AckBook_Flow_isAfterRecovery_16 : decode c_AckBook_Flow_isAfterRecovery 16 = .ok (.if_icmp .le (7), 3) := by decide +kernel
theorem d_AckBook_Flow_isAfterRecovery_23 : decode c_AckBook_Flow_isAfterRecovery 23 = .ok (.iconst (0), 1) := by decide +kernel
theorem d_AckBook_Flow_leaveLost_41 : decode c_AckBook_Flow_leaveLost 41 = .ok (.iconst (0), 1) := by decide +kernel
theorem d_AckBook_Flow_leaveLost_42 : decode c_AckBook_Flow_leaveLost 42 = .ok (.istore_n 3, 1) := by decide +kernel
theorem d_AckBook_Flow_leaveLost_43 : decode c_AckBook_Flow_leaveLost 43 = .ok (.aload 4, 2) := by decide +kernel
theorem d_AckBook_Flow_leaveLost_45 : decode c_AckBook_Flow_leaveLost 45 = .ok (.getfield 48, 3) := by decide +kernel
theorem d_AckBook_Flow_leaveLost_48 : decode c_AckBook_Flow_leaveLost 48 = .ok (.astore 4, 2) := by decide +kernel
theorem d_AckBook_Flow_leaveLost_50 : decode c_AckBook_Flow_leaveLost 50 = .ok (.goto (-45), 3) := by decide +kernel
theorem d_AckBook_Flow_leaveLost_37 : decode c_AckBook_Flow_leaveLost 37 = .ok (.iconst (1), 1) := by decide +kernel
theorem d_AckBook_Flow_leaveLost_38 : decode c_AckBook_Flow_leaveLost 38 = .ok (.goto (4), 3) := by decide +kernel
theorem d_AckBook_Flow_leaveLost_5 : decode c_AckBook_Flow_leaveLost 5 = .ok (.aload 4, 2) := by decide +kernel
theorem d_AckBook_Flow_leaveLost_7 : decode c_AckBook_Flow_leaveLost 7 = .ok (.ifnull (46), 3) := by decide +kernel
theorem d_AckBook_Flow_leaveLost_53 : decode c_AckBook_Flow_leaveLost 53 = .ok (.iload_n 3, 1) := by decide +kernel
theorem d_AckBook_Flow_leaveLost_54 : decode c_AckBook_Flow_leaveLost 54 = .ok (.ifCond .eq (32), 3) := by decide +kernel
theorem d_AckBook_Flow_leaveLost_86 : decode c_AckBook_Flow_leaveLost 86 = .ok (.return_, 1) := by decide +kernel
theorem d_AckBook_Flow_leaveLost_57 : decode c_AckBook_Flow_leaveLost 57 = .ok (.aload_n 0, 1) := by decide +kernel
theorem d_AckBook_Flow_leaveLost_58 : decode c_AckBook_Flow_leaveLost 58 = .ok (.iload_n 2, 1) := by decide +kernel
theorem d_AckBook_Flow_leaveLost_59 : decode c_AckBook_Flow_leaveLost 59 = .ok (.putfield 18, 3) := by decide +kernel
theorem d_AckBook_Flow_leaveLost_62 : decode c_AckBook_Flow_leaveLost 62 = .ok (.aload_n 0, 1) := by decide +kernel
theorem d_AckBook_Flow_leaveLost_63 : decode c_AckBook_Flow_leaveLost 63 = .ok (.aload_n 0, 1) := by decide +kernel
theorem d_AckBook_Flow_leaveLost_64 : decode c_AckBook_Flow_leaveLost 64 = .ok (.getfield 9, 3) := by decide +kernel
theorem d_AckBook_Flow_leaveLost_67 : decode c_AckBook_Flow_leaveLost 67 = .ok (.iconst (2), 1) := by decide +kernel
theorem d_AckBook_Flow_leaveLost_68 : decode c_AckBook_Flow_leaveLost 68 = .ok (.idiv, 1) := by decide +kernel
theorem d_AckBook_Flow_leaveLost_69 : decode c_AckBook_Flow_leaveLost 69 = .ok (.putfield 15, 3) := by decide +kernel
theorem d_AckBook_Flow_leaveLost_72 : decode c_AckBook_Flow_leaveLost 72 = .ok (.aload_n 0, 1) := by decide +kernel
theorem d_AckBook_Flow_leaveLost_73 : decode c_AckBook_Flow_leaveLost 73 = .ok (.aload_n 0, 1) := by decide +kernel
theorem d_AckBook_Flow_leaveLost_74 : decode c_AckBook_Flow_leaveLost 74 = .ok (.getfield 15, 3) := by decide +kernel
theorem d_AckBook_Flow_leaveLost_77 : decode c_AckBook_Flow_leaveLost 77 = .ok (.sipush (2400), 3) := by decide +kernel
theorem d_AckBook_Flow_leaveLost_80 : decode c_AckBook_Flow_leaveLost 80 = .ok (.invokestatic 52, 3) := by decide +kernel
theorem d_AckBook_Flow_leaveLost_83 : decode c_AckBook_Flow_leaveLost 83 = .ok (.putfield 9, 3) := by decide +kernel
theorem d_AckBook_Flow_leaveLost_10 : decode c_AckBook_Flow_leaveLost 10 = .ok (.aload_n 0, 1) := by decide +kernel
theorem d_AckBook_Flow_leaveLost_11 : decode c_AckBook_Flow_leaveLost 11 = .ok (.aload 4, 2) := by decide +kernel
theorem d_AckBook_Flow_leaveLost_13 : decode c_AckBook_Flow_leaveLost 13 = .ok (.invokevirtual 36, 3) := by decide +kernel
theorem d_AckBook_Flow_leaveLost_16 : decode c_AckBook_Flow_leaveLost 16 = .ok (.iload_n 3, 1) := by decide +kernel
theorem d_AckBook_Flow_leaveLost_17 : decode c_AckBook_Flow_leaveLost 17 = .ok (.ifCond .ne (20), 3) := by decide +kernel
theorem d_AckBook_Flow_leaveLost_20 : decode c_AckBook_Flow_leaveLost 20 = .ok (.aload 4, 2) := by decide +kernel
theorem d_AckBook_Flow_leaveLost_22 : decode c_AckBook_Flow_leaveLost 22 = .ok (.getfield 21, 3) := by decide +kernel
theorem d_AckBook_Flow_leaveLost_25 : decode c_AckBook_Flow_leaveLost 25 = .ok (.ifCond .eq (16), 3) := by decide +kernel
theorem d_AckBook_Flow_leaveLost_28 : decode c_AckBook_Flow_leaveLost 28 = .ok (.aload_n 0, 1) := by decide +kernel
theorem d_AckBook_Flow_leaveLost_29 : decode c_AckBook_Flow_leaveLost 29 = .ok (.aload 4, 2) := by decide +kernel
theorem d_AckBook_Flow_leaveLost_31 : decode c_AckBook_Flow_leaveLost 31 = .ok (.invokevirtual 40, 3) := by decide +kernel
theorem d_AckBook_Flow_leaveLost_34 : decode c_AckBook_Flow_leaveLost 34 = .ok (.ifCond .eq (7), 3) := by decide +kernel
theorem d_AckBook_Flow_leaveLost_0 : decode c_AckBook_Flow_leaveLost 0 = .ok (.iconst (0), 1) := by decide +kernel
theorem d_AckBook_Flow_leaveLost_1 : decode c_AckBook_Flow_leaveLost 1 = .ok (.istore_n 3, 1) := by decide +kernel
theorem d_AckBook_Flow_leaveLost_2 : decode c_AckBook_Flow_leaveLost 2 = .ok (.aload_n 1, 1) := by decide +kernel
theorem d_AckBook_Flow_leaveLost_3 : decode c_AckBook_Flow_leaveLost 3 = .ok (.astore 4, 2) := by decide +kernel
theorem d_AckBook_Sent_hasAcknowledged_4 : decode c_AckBook_Sent_hasAcknowledged 4 = .ok (.iload_n 3, 1) := by decide +kernel
theorem d_AckBook_Sent_hasAcknowledged_5 : decode c_AckBook_Sent_hasAcknowledged 5 = .ok (.iload_n 2, 1) := by decide +kernel
theorem d_AckBook_Sent_hasAcknowledged_6 : decode c_AckBook_Sent_hasAcknowledged 6 = .ok (.if_icmp .ge (40), 3) := by decide +kernel
theorem d_AckBook_Sent_hasAcknowledged_46 : decode c_AckBook_Sent_hasAcknowledged 46 = .ok (.iconst (0), 1) := by decide +kernel
theorem d_AckBook_Sent_hasAcknowledged_47 : decode c_AckBook_Sent_hasAcknowledged 47 = .ok (.ireturn, 1) := by decide +kernel
theorem d_AckBook_Sent_hasAcknowledged_9 : decode c_AckBook_Sent_hasAcknowledged 9 = .ok (.iload_n 3, 1) := by decide +kernel
theorem d_AckBook_Sent_hasAcknowledged_10 : decode c_AckBook_Sent_hasAcknowledged 10 = .ok (.aload_n 0, 1) := by decide +kernel
theorem d_AckBook_Sent_hasAcknowledged_11 : decode c_AckBook_Sent_hasAcknowledged 11 = .ok (.getfield 24, 3) := by decide +kernel
theorem d_AckBook_Sent_hasAcknowledged_14 : decode c_AckBook_Sent_hasAcknowledged 14 = .ok (.invokevirtual 35, 3) := by decide +kernel
theorem d_AckBook_Sent_hasAcknowledged_17 : decode c_AckBook_Sent_hasAcknowledged 17 = .ok (.if_icmp .ge (29), 3) := by decide +kernel
theorem d_AckBook_Sent_hasAcknowledged_20 : decode c_AckBook_Sent_hasAcknowledged 20 = .ok (.aload_n 0, 1) := by decide +kernel
theorem d_AckBook_Sent_hasAcknowledged_21 : decode c_AckBook_Sent_hasAcknowledged 21 = .ok (.getfield 24, 3) := by decide +kernel
theorem d_AckBook_Sent_hasAcknowledged_24 : decode c_AckBook_Sent_hasAcknowledged 24 = .ok (.iload_n 3, 1) := by decide +kernel
theorem d_AckBook_Sent_hasAcknowledged_25 : decode c_AckBook_Sent_hasAcknowledged 25 = .ok (.invokevirtual 39, 3) := by decide +kernel
theorem d_AckBook_Sent_hasAcknowledged_28 : decode c_AckBook_Sent_hasAcknowledged 28 = .ok (.checkcast 43, 3) := by decide +kernel
theorem d_AckBook_Sent_hasAcknowledged_31 : decode c_AckBook_Sent_hasAcknowledged 31 = .ok (.getfield 91, 3) := by decide +kernel
theorem d_AckBook_Sent_hasAcknowledged_34 : decode c_AckBook_Sent_hasAcknowledged 34 = .ok (.iconst (1), 1) := by decide +kernel
theorem d_AckBook_Sent_hasAcknowledged_35 : decode c_AckBook_Sent_hasAcknowledged 35 = .ok (.if_icmp .ne (5), 3) := by decide +kernel
theorem d_AckBook_Sent_hasAcknowledged_38 : decode c_AckBook_Sent_hasAcknowledged 38 = .ok (.iconst (1), 1) := by decide +kernel
theorem d_AckBook_Sent_hasAcknowledged_39 : decode c_AckBook_Sent_hasAcknowledged 39 = .ok (.ireturn, 1) := by decide +kernel
theorem d_AckBook_Sent_hasAcknowledged_40 : decode c_AckBook_Sent_hasAcknowledged 40 = .ok (.iinc 3 (1), 3) := by decide +kernel
theorem d_AckBook_Sent_hasAcknowledged_43 : decode c_AckBook_Sent_hasAcknowledged 43 = .ok (.goto (-39), 3) := by decide +kernel
theorem d_AckBook_Sent_hasAcknowledged_0 : decode c_AckBook_Sent_hasAcknowledged 0 = .ok (.iload_n 1, 1) := by decide +kernel
theorem d_AckBook_Sent_hasAcknowledged_1 : decode c_AckBook_Sent_hasAcknowledged 1 = .ok (.iconst (1), 1) := by decide +kernel
theorem d_AckBook_Sent_hasAcknowledged_2 : decode c_AckBook_Sent_hasAcknowledged 2 = .ok (.iadd, 1) := by decide +kernel
theorem d_AckBook_Sent_hasAcknowledged_3 : decode c_AckBook_Sent_hasAcknowledged 3 = .ok (.istore_n 3, 1) := by decide +kernel
theorem d_AckBook_Sent_wasCutOff_43 : decode c_AckBook_Sent_wasCutOff 43 = .ok (.astore 4, 2) := by decide +kernel
theorem d_AckBook_Sent_wasCutOff_45 : decode c_AckBook_Sent_wasCutOff 45 = .ok (.aload 6, 2) := by decide +kernel
theorem d_AckBook_Sent_wasCutOff_47 : decode c_AckBook_Sent_wasCutOff 47 = .ok (.astore 5, 2) := by decide +kernel
theorem d_AckBook_Sent_wasCutOff_49 : decode c_AckBook_Sent_wasCutOff 49 = .ok (.aload 6, 2) := by decide +kernel
theorem d_AckBook_Sent_wasCutOff_51 : decode c_AckBook_Sent_wasCutOff 51 = .ok (.getfield 102, 3) := by decide +kernel
theorem d_AckBook_Sent_wasCutOff_54 : decode c_AckBook_Sent_wasCutOff 54 = .ok (.astore 6, 2) := by decide +kernel
theorem d_AckBook_Sent_wasCutOff_56 : decode c_AckBook_Sent_wasCutOff 56 = .ok (.goto (-47), 3) := by decide +kernel
theorem d_AckBook_Sent_wasCutOff_9 : decode c_AckBook_Sent_wasCutOff 9 = .ok (.aload 6, 2) := by decide +kernel
theorem d_AckBook_Sent_wasCutOff_11 : decode c_AckBook_Sent_wasCutOff 11 = .ok (.ifnull (48), 3) := by decide +kernel
theorem d_AckBook_Sent_wasCutOff_59 : decode c_AckBook_Sent_wasCutOff 59 = .ok (.aload 4, 2) := by decide +kernel
theorem d_AckBook_Sent_wasCutOff_61 : decode c_AckBook_Sent_wasCutOff 61 = .ok (.ifnull (8), 3) := by decide +kernel
theorem d_AckBook_Sent_wasCutOff_69 : decode c_AckBook_Sent_wasCutOff 69 = .ok (.iconst (0), 1) := by decide +kernel
theorem d_AckBook_Sent_wasCutOff_70 : decode c_AckBook_Sent_wasCutOff 70 = .ok (.ireturn, 1) := by decide +kernel
theorem d_AckBook_Sent_wasCutOff_64 : decode c_AckBook_Sent_wasCutOff 64 = .ok (.aload 5, 2) := by decide +kernel
theorem d_AckBook_Sent_wasCutOff_66 : decode c_AckBook_Sent_wasCutOff 66 = .ok (.ifnonnull (5), 3) := by decide +kernel
theorem d_AckBook_Sent_wasCutOff_71 : decode c_AckBook_Sent_wasCutOff 71 = .ok (.aload 5, 2) := by decide +kernel
theorem d_AckBook_Sent_wasCutOff_73 : decode c_AckBook_Sent_wasCutOff 73 = .ok (.getfield 59, 3) := by decide +kernel
theorem d_AckBook_Sent_wasCutOff_76 : decode c_AckBook_Sent_wasCutOff 76 = .ok (.aload 4, 2) := by decide +kernel
theorem d_AckBook_Sent_wasCutOff_78 : decode c_AckBook_Sent_wasCutOff 78 = .ok (.getfield 59, 3) := by decide +kernel
theorem d_AckBook_Sent_wasCutOff_81 : decode c_AckBook_Sent_wasCutOff 81 = .ok (.isub, 1) := by decide +kernel
theorem d_AckBook_Sent_wasCutOff_82 : decode c_AckBook_Sent_wasCutOff 82 = .ok (.iload_n 3, 1) := by decide +kernel
theorem d_AckBook_Sent_wasCutOff_83 : decode c_AckBook_Sent_wasCutOff 83 = .ok (.if_icmp .le (24), 3) := by decide +kernel
theorem d_AckBook_Sent_wasCutOff_107 : decode c_AckBook_Sent_wasCutOff 107 = .ok (.iconst (0), 1) := by decide +kernel
theorem d_AckBook_Sent_wasCutOff_108 : decode c_AckBook_Sent_wasCutOff 108 = .ok (.ireturn, 1) := by decide +kernel
theorem d_AckBook_Sent_wasCutOff_86 : decode c_AckBook_Sent_wasCutOff 86 = .ok (.aload_n 0, 1) := by decide +kernel
theorem d_AckBook_Sent_wasCutOff_87 : decode c_AckBook_Sent_wasCutOff 87 = .ok (.aload 4, 2) := by decide +kernel
theorem d_AckBook_Sent_wasCutOff_89 : decode c_AckBook_Sent_wasCutOff 89 = .ok (.getfield 106, 3) := by decide +kernel
theorem d_AckBook_Sent_wasCutOff_92 : decode c_AckBook_Sent_wasCutOff 92 = .ok (.aload 5, 2) := by decide +kernel
theorem d_AckBook_Sent_wasCutOff_94 : decode c_AckBook_Sent_wasCutOff 94 = .ok (.getfield 106, 3) := by decide +kernel
theorem d_AckBook_Sent_wasCutOff_97 : decode c_AckBook_Sent_wasCutOff 97 = .ok (.invokevirtual 109, 3) := by decide +kernel
theorem d_AckBook_Sent_wasCutOff_100 : decode c_AckBook_Sent_wasCutOff 100 = .ok (.ifCond .ne (7), 3) := by decide +kernel
theorem d_AckBook_Sent_wasCutOff_103 : decode c_AckBook_Sent_wasCutOff 103 = .ok (.iconst (1), 1) := by decide +kernel
theorem d_AckBook_Sent_wasCutOff_104 : decode c_AckBook_Sent_wasCutOff 104 = .ok (.goto (4), 3) := by decide +kernel
theorem d_AckBook_Sent_wasCutOff_14 : decode c_AckBook_Sent_wasCutOff 14 = .ok (.aload 6, 2) := by decide +kernel
theorem d_AckBook_Sent_wasCutOff_16 : decode c_AckBook_Sent_wasCutOff 16 = .ok (.getfield 52, 3) := by decide +kernel
theorem d_AckBook_Sent_wasCutOff_19 : decode c_AckBook_Sent_wasCutOff 19 = .ok (.ifCond .eq (30), 3) := by decide +kernel
theorem d_AckBook_Sent_wasCutOff_22 : decode c_AckBook_Sent_wasCutOff 22 = .ok (.aload 6, 2) := by decide +kernel
theorem d_AckBook_Sent_wasCutOff_24 : decode c_AckBook_Sent_wasCutOff 24 = .ok (.getfield 59, 3) := by decide +kernel
theorem d_AckBook_Sent_wasCutOff_27 : decode c_AckBook_Sent_wasCutOff 27 = .ok (.iload_n 2, 1) := by decide +kernel
theorem d_AckBook_Sent_wasCutOff_28 : decode c_AckBook_Sent_wasCutOff 28 = .ok (.if_icmp .le (21), 3) := by decide +kernel
theorem d_AckBook_Sent_wasCutOff_31 : decode c_AckBook_Sent_wasCutOff 31 = .ok (.aload 4, 2) := by decide +kernel
theorem d_AckBook_Sent_wasCutOff_33 : decode c_AckBook_Sent_wasCutOff 33 = .ok (.ifnonnull (8), 3) := by decide +kernel
theorem d_AckBook_Sent_wasCutOff_36 : decode c_AckBook_Sent_wasCutOff 36 = .ok (.aload 6, 2) := by decide +kernel
theorem d_AckBook_Sent_wasCutOff_38 : decode c_AckBook_Sent_wasCutOff 38 = .ok (.goto (5), 3) := by decide +kernel
theorem d_AckBook_Sent_wasCutOff_41 : decode c_AckBook_Sent_wasCutOff 41 = .ok (.aload 4, 2) := by decide +kernel
theorem d_AckBook_Sent_wasCutOff_0 : decode c_AckBook_Sent_wasCutOff 0 = .ok (.aconst_null, 1) := by decide +kernel
theorem d_AckBook_Sent_wasCutOff_1 : decode c_AckBook_Sent_wasCutOff 1 = .ok (.astore 4, 2) := by decide +kernel
