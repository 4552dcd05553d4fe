theorem d_AckBook_Chain_append_32 : decode c_AckBook_Chain_append 32 = .ok (.putfield 15, 3) := by decide +kernel
theorem d_AckBook_Chain_append_35 : decode c_AckBook_Chain_append 35 = .ok (.return_, 1) := by decide +kernel
theorem d_AckBook_Chain_append_0 : decode c_AckBook_Chain_append 0 = .ok (.aload_n 0, 1) := by decide +kernel
theorem d_AckBook_Chain_append_1 : decode c_AckBook_Chain_append 1 = .ok (.getfield 9, 3) := by decide +kernel
theorem d_AckBook_Chain_append_4 : decode c_AckBook_Chain_append 4 = .ok (.ifnull (10), 3) := by decide +kernel
theorem d_AckBook_Chain_append_7 : decode c_AckBook_Chain_append 7 = .ok (.aload_n 0, 1) := by decide +kernel
theorem d_AckBook_Chain_append_8 : decode c_AckBook_Chain_append 8 = .ok (.getfield 15, 3) := by decide +kernel
theorem d_AckBook_Chain_append_11 : decode c_AckBook_Chain_append 11 = .ok (.ifnonnull (11), 3) := by decide +kernel
theorem d_AckBook_Chain_append_22 : decode c_AckBook_Chain_append 22 = .ok (.aload_n 0, 1) := by decide +kernel
theorem d_AckBook_Chain_append_23 : decode c_AckBook_Chain_append 23 = .ok (.getfield 15, 3) := by decide +kernel
theorem d_AckBook_Chain_append_26 : decode c_AckBook_Chain_append 26 = .ok (.aload_n 1, 1) := by decide +kernel
theorem d_AckBook_Chain_append_27 : decode c_AckBook_Chain_append 27 = .ok (.putfield 18, 3) := by decide +kernel
theorem d_AckBook_Sent_end_0 : decode c_AckBook_Sent_end 0 = .ok (.aload_n 1, 1) := by decide +kernel
theorem d_AckBook_Sent_end_1 : decode c_AckBook_Sent_end 1 = .ok (.iload_n 2, 1) := by decide +kernel
theorem d_AckBook_Sent_end_2 : decode c_AckBook_Sent_end 2 = .ok (.putfield 91, 3) := by decide +kernel
theorem d_AckBook_Sent_end_5 : decode c_AckBook_Sent_end 5 = .ok (.aload_n 3, 1) := by decide +kernel
theorem d_AckBook_Sent_end_6 : decode c_AckBook_Sent_end 6 = .ok (.aload_n 1, 1) := by decide +kernel
theorem d_AckBook_Sent_end_7 : decode c_AckBook_Sent_end 7 = .ok (.invokevirtual 98, 3) := by decide +kernel
theorem d_AckBook_Sent_end_10 : decode c_AckBook_Sent_end 10 = .ok (.aload_n 0, 1) := by decide +kernel
theorem d_AckBook_Sent_end_11 : decode c_AckBook_Sent_end 11 = .ok (.dup, 1) := by decide +kernel
theorem d_AckBook_Sent_end_12 : decode c_AckBook_Sent_end 12 = .ok (.getfield 49, 3) := by decide +kernel
theorem d_AckBook_Sent_end_15 : decode c_AckBook_Sent_end 15 = .ok (.iconst (1), 1) := by decide +kernel
theorem d_AckBook_Sent_end_16 : decode c_AckBook_Sent_end 16 = .ok (.isub, 1) := by decide +kernel
theorem d_AckBook_Sent_end_17 : decode c_AckBook_Sent_end 17 = .ok (.putfield 49, 3) := by decide +kernel
theorem d_AckBook_Sent_end_20 : decode c_AckBook_Sent_end 20 = .ok (.aload_n 1, 1) := by decide +kernel
theorem d_AckBook_Sent_end_21 : decode c_AckBook_Sent_end 21 = .ok (.getfield 52, 3) := by decide +kernel
theorem d_AckBook_Sent_end_24 : decode c_AckBook_Sent_end 24 = .ok (.ifCond .eq (13), 3) := by decide +kernel
theorem d_AckBook_Sent_end_37 : decode c_AckBook_Sent_end 37 = .ok (.return_, 1) := by decide +kernel
theorem d_AckBook_Sent_end_27 : decode c_AckBook_Sent_end 27 = .ok (.aload_n 0, 1) := by decide +kernel
theorem d_AckBook_Sent_end_28 : decode c_AckBook_Sent_end 28 = .ok (.dup, 1) := by decide +kernel
theorem d_AckBook_Sent_end_29 : decode c_AckBook_Sent_end 29 = .ok (.getfield 56, 3) := by decide +kernel
theorem d_AckBook_Sent_end_32 : decode c_AckBook_Sent_end 32 = .ok (.iconst (1), 1) := by decide +kernel
theorem d_AckBook_Sent_end_33 : decode c_AckBook_Sent_end 33 = .ok (.isub, 1) := by decide +kernel
theorem d_AckBook_Sent_end_34 : decode c_AckBook_Sent_end 34 = .ok (.putfield 56, 3) := by decide +kernel
theorem d_AckBook_Sent_markLost_78 : decode c_AckBook_Sent_markLost 78 = .ok (.aload_n 0, 1) := by decide +kernel
theorem d_AckBook_Sent_markLost_79 : decode c_AckBook_Sent_markLost 79 = .ok (.aload 5, 2) := by decide +kernel
theorem d_AckBook_Sent_markLost_81 : decode c_AckBook_Sent_markLost 81 = .ok (.iconst (2), 1) := by decide +kernel
theorem d_AckBook_Sent_markLost_82 : decode c_AckBook_Sent_markLost 82 = .ok (.aload_n 0, 1) := by decide +kernel
theorem d_AckBook_Sent_markLost_83 : decode c_AckBook_Sent_markLost 83 = .ok (.getfield 18, 3) := by decide +kernel
theorem d_AckBook_Sent_markLost_86 : decode c_AckBook_Sent_markLost 86 = .ok (.invokevirtual 94, 3) := by decide +kernel
theorem d_AckBook_Sent_markLost_89 : decode c_AckBook_Sent_markLost 89 = .ok (.aload_n 3, 1) := by decide +kernel
theorem d_AckBook_Sent_markLost_90 : decode c_AckBook_Sent_markLost 90 = .ok (.ifnonnull (8), 3) := by decide +kernel
theorem d_AckBook_Sent_markLost_93 : decode c_AckBook_Sent_markLost 93 = .ok (.aload 5, 2) := by decide +kernel
theorem d_AckBook_Sent_markLost_95 : decode c_AckBook_Sent_markLost 95 = .ok (.goto (4), 3) := by decide +kernel
theorem d_AckBook_Sent_markLost_99 : decode c_AckBook_Sent_markLost 99 = .ok (.astore_n 3, 1) := by decide +kernel
theorem d_AckBook_Sent_markLost_100 : decode c_AckBook_Sent_markLost 100 = .ok (.goto (22), 3) := by decide +kernel
theorem d_AckBook_Sent_markLost_122 : decode c_AckBook_Sent_markLost 122 = .ok (.iinc 4 (1), 3) := by decide +kernel
theorem d_AckBook_Sent_markLost_125 : decode c_AckBook_Sent_markLost 125 = .ok (.goto (-115), 3) := by decide +kernel
theorem d_AckBook_Sent_markLost_98 : decode c_AckBook_Sent_markLost 98 = .ok (.aload_n 3, 1) := by decide +kernel
theorem d_AckBook_Sent_markLost_10 : decode c_AckBook_Sent_markLost 10 = .ok (.iload 4, 2) := by decide +kernel
theorem d_AckBook_Sent_markLost_12 : decode c_AckBook_Sent_markLost 12 = .ok (.aload_n 0, 1) := by decide +kernel
theorem d_AckBook_Sent_markLost_13 : decode c_AckBook_Sent_markLost 13 = .ok (.getfield 24, 3) := by decide +kernel
theorem d_AckBook_Sent_markLost_16 : decode c_AckBook_Sent_markLost 16 = .ok (.invokevirtual 35, 3) := by decide +kernel
theorem d_AckBook_Sent_markLost_19 : decode c_AckBook_Sent_markLost 19 = .ok (.if_icmp .ge (109), 3) := by decide +kernel
theorem d_AckBook_Sent_markLost_128 : decode c_AckBook_Sent_markLost 128 = .ok (.aload_n 3, 1) := by decide +kernel
theorem d_AckBook_Sent_markLost_129 : decode c_AckBook_Sent_markLost 129 = .ok (.areturn, 1) := by decide +kernel
theorem d_AckBook_Sent_markLost_22 : decode c_AckBook_Sent_markLost 22 = .ok (.iload 4, 2) := by decide +kernel
theorem d_AckBook_Sent_markLost_24 : decode c_AckBook_Sent_markLost 24 = .ok (.aload_n 0, 1) := by decide +kernel
theorem d_AckBook_Sent_markLost_25 : decode c_AckBook_Sent_markLost 25 = .ok (.getfield 28, 3) := by decide +kernel
theorem d_AckBook_Sent_markLost_28 : decode c_AckBook_Sent_markLost 28 = .ok (.if_icmp .ge (100), 3) := by decide +kernel
theorem d_AckBook_Sent_markLost_31 : decode c_AckBook_Sent_markLost 31 = .ok (.aload_n 0, 1) := by decide +kernel
theorem d_AckBook_Sent_markLost_32 : decode c_AckBook_Sent_markLost 32 = .ok (.getfield 24, 3) := by decide +kernel
theorem d_AckBook_Sent_markLost_35 : decode c_AckBook_Sent_markLost 35 = .ok (.iload 4, 2) := by decide +kernel
theorem d_AckBook_Sent_markLost_37 : decode c_AckBook_Sent_markLost 37 = .ok (.invokevirtual 39, 3) := by decide +kernel
theorem d_AckBook_Sent_markLost_40 : decode c_AckBook_Sent_markLost 40 = .ok (.checkcast 43, 3) := by decide +kernel
theorem d_AckBook_Sent_markLost_43 : decode c_AckBook_Sent_markLost 43 = .ok (.astore 5, 2) := by decide +kernel
theorem d_AckBook_Sent_markLost_45 : decode c_AckBook_Sent_markLost 45 = .ok (.aload 5, 2) := by decide +kernel
theorem d_AckBook_Sent_markLost_47 : decode c_AckBook_Sent_markLost 47 = .ok (.getfield 91, 3) := by decide +kernel
theorem d_AckBook_Sent_markLost_50 : decode c_AckBook_Sent_markLost 50 = .ok (.ifCond .eq (6), 3) := by decide +kernel
theorem d_AckBook_Sent_markLost_56 : decode c_AckBook_Sent_markLost 56 = .ok (.iload 4, 2) := by decide +kernel
theorem d_AckBook_Sent_markLost_58 : decode c_AckBook_Sent_markLost 58 = .ok (.aload_n 0, 1) := by decide +kernel
theorem d_AckBook_Sent_markLost_59 : decode c_AckBook_Sent_markLost 59 = .ok (.getfield 28, 3) := by decide +kernel
theorem d_AckBook_Sent_markLost_62 : decode c_AckBook_Sent_markLost 62 = .ok (.iconst (3), 1) := by decide +kernel
theorem d_AckBook_Sent_markLost_63 : decode c_AckBook_Sent_markLost 63 = .ok (.isub, 1) := by decide +kernel
theorem d_AckBook_Sent_markLost_64 : decode c_AckBook_Sent_markLost 64 = .ok (.if_icmp .le (14), 3) := by decide +kernel
theorem d_AckBook_Sent_markLost_67 : decode c_AckBook_Sent_markLost 67 = .ok (.aload 5, 2) := by decide +kernel
theorem d_AckBook_Sent_markLost_69 : decode c_AckBook_Sent_markLost 69 = .ok (.getfield 59, 3) := by decide +kernel
theorem d_AckBook_Sent_markLost_72 : decode c_AckBook_Sent_markLost 72 = .ok (.iload_n 1, 1) := by decide +kernel
theorem d_AckBook_Sent_markLost_73 : decode c_AckBook_Sent_markLost 73 = .ok (.iload_n 2, 1) := by decide +kernel
theorem d_AckBook_Sent_markLost_74 : decode c_AckBook_Sent_markLost 74 = .ok (.isub, 1) := by decide +kernel
theorem d_AckBook_Sent_markLost_75 : decode c_AckBook_Sent_markLost 75 = .ok (.if_icmp .gt (28), 3) := by decide +kernel
theorem d_AckBook_Sent_markLost_103 : decode c_AckBook_Sent_markLost 103 = .ok (.aload_n 0, 1) := by decide +kernel
theorem d_AckBook_Sent_markLost_104 : decode c_AckBook_Sent_markLost 104 = .ok (.getfield 32, 3) := by decide +kernel
theorem d_AckBook_Sent_markLost_107 : decode c_AckBook_Sent_markLost 107 = .ok (.iconst (-1), 1) := by decide +kernel
theorem d_AckBook_Sent_markLost_108 : decode c_AckBook_Sent_markLost 108 = .ok (.if_icmp .ne (14), 3) := by decide +kernel
theorem d_AckBook_Sent_markLost_111 : decode c_AckBook_Sent_markLost 111 = .ok (.aload_n 0, 1) := by decide +kernel
theorem d_AckBook_Sent_markLost_112 : decode c_AckBook_Sent_markLost 112 = .ok (.aload 5, 2) := by decide +kernel
theorem d_AckBook_Sent_markLost_114 : decode c_AckBook_Sent_markLost 114 = .ok (.getfield 59, 3) := by decide +kernel
theorem d_AckBook_Sent_markLost_117 : decode c_AckBook_Sent_markLost 117 = .ok (.iload_n 2, 1) := by decide +kernel
theorem d_AckBook_Sent_markLost_118 : decode c_AckBook_Sent_markLost 118 = .ok (.iadd, 1) := by decide +kernel
theorem d_AckBook_Sent_markLost_119 : decode c_AckBook_Sent_markLost 119 = .ok (.putfield 32, 3) := by decide +kernel
theorem d_AckBook_Sent_markLost_53 : decode c_AckBook_Sent_markLost 53 = .ok (.goto (69), 3) := by decide +kernel
theorem d_AckBook_Sent_markLost_0 : decode c_AckBook_Sent_markLost 0 = .ok (.aconst_null, 1) := by decide +kernel
theorem d_AckBook_Sent_markLost_1 : decode c_AckBook_Sent_markLost 1 = .ok (.astore_n 3, 1) := by decide +kernel
theorem d_AckBook_Sent_markLost_2 : decode c_AckBook_Sent_markLost 2 = .ok (.aload_n 0, 1) := by decide +kernel
theorem d_AckBook_Sent_markLost_3 : decode c_AckBook_Sent_markLost 3 = .ok (.iconst (-1), 1) := by decide +kernel
theorem d_AckBook_Sent_markLost_4 : decode c_AckBook_Sent_markLost 4 = .ok (.putfield 32, 3) := by decide +kernel
theorem d_AckBook_Sent_markLost_7 : decode c_AckBook_Sent_markLost 7 = .ok (.iconst (0), 1) := by decide +kernel
theorem d_AckBook_Sent_markLost_8 : decode c_AckBook_Sent_markLost 8 = .ok (.istore 4, 2) := by decide +kernel
theorem d_AckBook_Flow_leave_0 : decode c_AckBook_Flow_leave 0 = .ok (.aload_n 1, 1) := by decide +kernel
theorem d_AckBook_Flow_leave_1 : decode c_AckBook_Flow_leave 1 = .ok (.getfield 21, 3) := by decide +kernel
theorem d_AckBook_Flow_leave_4 : decode c_AckBook_Flow_leave 4 = .ok (.ifCond .eq (16), 3) := by decide +kernel
theorem d_AckBook_Flow_leave_20 : decode c_AckBook_Flow_leave 20 = .ok (.return_, 1) := by decide +kernel
theorem d_AckBook_Flow_leave_7 : decode c_AckBook_Flow_leave 7 = .ok (.aload_n 0, 1) := by decide +kernel
theorem d_AckBook_Flow_leave_8 : decode c_AckBook_Flow_leave 8 = .ok (.dup, 1) := by decide +kernel
theorem d_AckBook_Flow_leave_9 : decode c_AckBook_Flow_leave 9 = .ok (.getfield 27, 3) := by decide +kernel
theorem d_AckBook_Flow_leave_12 : decode c_AckBook_Flow_leave 12 = .ok (.aload_n 1, 1) := by decide +kernel
theorem d_AckBook_Flow_leave_13 : decode c_AckBook_Flow_leave 13 = .ok (.getfield 30, 3) := by decide +kernel
theorem d_AckBook_Flow_leave_16 : decode c_AckBook_Flow_leave 16 = .ok (.isub, 1) := by decide +kernel
theorem d_AckBook_Flow_leave_17 : decode c_AckBook_Flow_leave 17 = .ok (.putfield 27, 3) := by decide +kernel
theorem d_AckBook_Flow_isAfterRecovery_0 : decode c_AckBook_Flow_isAfterRecovery 0 = .ok (.aload_n 0, 1) := by decide +kernel
theorem d_AckBook_Flow_isAfterRecovery_1 : decode c_AckBook_Flow_isAfterRecovery 1 = .ok (.getfield 18, 3) := by decide +kernel
theorem d_AckBook_Flow_isAfterRecovery_4 : decode c_AckBook_Flow_isAfterRecovery 4 = .ok (.iconst (-1), 1) := by decide +kernel
theorem d_AckBook_Flow_isAfterRecovery_5 : decode c_AckBook_Flow_isAfterRecovery 5 = .ok (.if_icmp .eq (14), 3) := by decide +kernel
theorem d_AckBook_Flow_isAfterRecovery_19 : decode c_AckBook_Flow_isAfterRecovery 19 = .ok (.iconst (1), 1) := by decide +kernel
theorem d_AckBook_Flow_isAfterRecovery_20 : decode c_AckBook_Flow_isAfterRecovery 20 = .ok (.goto (4), 3) := by decide +kernel
theorem d_AckBook_Flow_isAfterRecovery_24 : decode c_AckBook_Flow_isAfterRecovery 24 = .ok (.ireturn, 1) := by decide +kernel
theorem d_AckBook_Flow_isAfterRecovery_8 : decode c_AckBook_Flow_isAfterRecovery 8 = .ok (.aload_n 1, 1) := by decide +kernel
theorem d_AckBook_Flow_isAfterRecovery_9 : decode c_AckBook_Flow_isAfterRecovery 9 = .ok (.getfield 58, 3) := by decide +kernel
theorem d_AckBook_Flow_isAfterRecovery_12 : decode c_AckBook_Flow_isAfterRecovery 12 = .ok (.aload_n 0, 1) := by decide +kernel
