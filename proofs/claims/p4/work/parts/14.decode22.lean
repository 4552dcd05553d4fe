theorem d_AckBookModel_send_30 : decode c_AckBookModel_send 30 = .ok (.goto (4), 3) := by decide +kernel
theorem d_AckBookModel_send_0 : decode c_AckBookModel_send 0 = .ok (.aload_n 0, 1) := by decide +kernel
theorem d_AckBookModel_send_1 : decode c_AckBookModel_send 1 = .ok (.iload_n 1, 1) := by decide +kernel
theorem d_AckBookModel_send_2 : decode c_AckBookModel_send 2 = .ok (.invokestatic 142, 3) := by decide +kernel
theorem d_AckBookModel_send_5 : decode c_AckBookModel_send 5 = .ok (.ifCond .ne (24), 3) := by decide +kernel
theorem d_AckBookModel_send_8 : decode c_AckBookModel_send 8 = .ok (.iload_n 2, 1) := by decide +kernel
theorem d_AckBookModel_send_9 : decode c_AckBookModel_send 9 = .ok (.iconst (1), 1) := by decide +kernel
theorem d_AckBookModel_send_10 : decode c_AckBookModel_send 10 = .ok (.if_icmp .lt (19), 3) := by decide +kernel
theorem d_AckBookModel_send_13 : decode c_AckBookModel_send 13 = .ok (.iload_n 2, 1) := by decide +kernel
theorem d_AckBookModel_send_14 : decode c_AckBookModel_send 14 = .ok (.sipush (1200), 3) := by decide +kernel
theorem d_AckBookModel_send_17 : decode c_AckBookModel_send 17 = .ok (.if_icmp .gt (12), 3) := by decide +kernel
theorem d_AckBookModel_send_20 : decode c_AckBookModel_send 20 = .ok (.iload_n 3, 1) := by decide +kernel
theorem d_AckBookModel_send_21 : decode c_AckBookModel_send 21 = .ok (.ifCond .eq (12), 3) := by decide +kernel
theorem d_AckBookModel_send_24 : decode c_AckBookModel_send 24 = .ok (.iload 4, 2) := by decide +kernel
theorem d_AckBookModel_send_26 : decode c_AckBookModel_send 26 = .ok (.ifCond .ne (7), 3) := by decide +kernel
theorem d_AckBookModel_span_67 : decode c_AckBookModel_span 67 = .ok (.iconst (2), 1) := by decide +kernel
theorem d_AckBookModel_span_68 : decode c_AckBookModel_span 68 = .ok (.invokevirtual 146, 3) := by decide +kernel
theorem d_AckBookModel_span_71 : decode c_AckBookModel_span 71 = .ok (.ifCond .eq (5), 3) := by decide +kernel
theorem d_AckBookModel_span_76 : decode c_AckBookModel_span 76 = .ok (.aload_n 0, 1) := by decide +kernel
theorem d_AckBookModel_span_77 : decode c_AckBookModel_span 77 = .ok (.getfield 72, 3) := by decide +kernel
theorem d_AckBookModel_span_80 : decode c_AckBookModel_span 80 = .ok (.aload_n 0, 1) := by decide +kernel
theorem d_AckBookModel_span_81 : decode c_AckBookModel_span 81 = .ok (.getfield 156, 3) := by decide +kernel
theorem d_AckBookModel_span_84 : decode c_AckBookModel_span 84 = .ok (.lload_n 1, 1) := by decide +kernel
theorem d_AckBookModel_span_85 : decode c_AckBookModel_span 85 = .ok (.lastore, 1) := by decide +kernel
theorem d_AckBookModel_span_86 : decode c_AckBookModel_span 86 = .ok (.aload_n 0, 1) := by decide +kernel
theorem d_AckBookModel_span_87 : decode c_AckBookModel_span 87 = .ok (.getfield 76, 3) := by decide +kernel
theorem d_AckBookModel_span_90 : decode c_AckBookModel_span 90 = .ok (.aload_n 0, 1) := by decide +kernel
theorem d_AckBookModel_span_91 : decode c_AckBookModel_span 91 = .ok (.getfield 156, 3) := by decide +kernel
theorem d_AckBookModel_span_94 : decode c_AckBookModel_span 94 = .ok (.lload_n 3, 1) := by decide +kernel
theorem d_AckBookModel_span_95 : decode c_AckBookModel_span 95 = .ok (.lastore, 1) := by decide +kernel
theorem d_AckBookModel_span_96 : decode c_AckBookModel_span 96 = .ok (.aload_n 0, 1) := by decide +kernel
theorem d_AckBookModel_span_97 : decode c_AckBookModel_span 97 = .ok (.dup, 1) := by decide +kernel
theorem d_AckBookModel_span_98 : decode c_AckBookModel_span 98 = .ok (.getfield 156, 3) := by decide +kernel
theorem d_AckBookModel_span_101 : decode c_AckBookModel_span 101 = .ok (.iconst (1), 1) := by decide +kernel
theorem d_AckBookModel_span_102 : decode c_AckBookModel_span 102 = .ok (.iadd, 1) := by decide +kernel
theorem d_AckBookModel_span_103 : decode c_AckBookModel_span 103 = .ok (.putfield 156, 3) := by decide +kernel
theorem d_AckBookModel_span_106 : decode c_AckBookModel_span 106 = .ok (.aload_n 0, 1) := by decide +kernel
theorem d_AckBookModel_span_107 : decode c_AckBookModel_span 107 = .ok (.getfield 156, 3) := by decide +kernel
theorem d_AckBookModel_span_110 : decode c_AckBookModel_span 110 = .ok (.ireturn, 1) := by decide +kernel
theorem d_AckBookModel_span_74 : decode c_AckBookModel_span 74 = .ok (.iconst (0), 1) := by decide +kernel
theorem d_AckBookModel_span_75 : decode c_AckBookModel_span 75 = .ok (.ireturn, 1) := by decide +kernel
theorem d_AckBookModel_span_45 : decode c_AckBookModel_span 45 = .ok (.iconst (1), 1) := by decide +kernel
theorem d_AckBookModel_span_46 : decode c_AckBookModel_span 46 = .ok (.invokevirtual 146, 3) := by decide +kernel
theorem d_AckBookModel_span_49 : decode c_AckBookModel_span 49 = .ok (.ifCond .ne (25), 3) := by decide +kernel
theorem d_AckBookModel_span_52 : decode c_AckBookModel_span 52 = .ok (.aload_n 0, 1) := by decide +kernel
theorem d_AckBookModel_span_53 : decode c_AckBookModel_span 53 = .ok (.aload_n 0, 1) := by decide +kernel
theorem d_AckBookModel_span_54 : decode c_AckBookModel_span 54 = .ok (.getfield 156, 3) := by decide +kernel
theorem d_AckBookModel_span_57 : decode c_AckBookModel_span 57 = .ok (.bipush (64), 2) := by decide +kernel
theorem d_AckBookModel_span_59 : decode c_AckBookModel_span 59 = .ok (.if_icmp .ne (7), 3) := by decide +kernel
theorem d_AckBookModel_span_62 : decode c_AckBookModel_span 62 = .ok (.iconst (1), 1) := by decide +kernel
theorem d_AckBookModel_span_63 : decode c_AckBookModel_span 63 = .ok (.goto (4), 3) := by decide +kernel
theorem d_AckBookModel_span_66 : decode c_AckBookModel_span 66 = .ok (.iconst (0), 1) := by decide +kernel
theorem d_AckBookModel_span_44 : decode c_AckBookModel_span 44 = .ok (.iconst (0), 1) := by decide +kernel
theorem d_AckBookModel_span_40 : decode c_AckBookModel_span 40 = .ok (.iconst (1), 1) := by decide +kernel
theorem d_AckBookModel_span_41 : decode c_AckBookModel_span 41 = .ok (.goto (4), 3) := by decide +kernel
theorem d_AckBookModel_span_0 : decode c_AckBookModel_span 0 = .ok (.aload_n 0, 1) := by decide +kernel
theorem d_AckBookModel_span_1 : decode c_AckBookModel_span 1 = .ok (.lload_n 1, 1) := by decide +kernel
theorem d_AckBookModel_span_2 : decode c_AckBookModel_span 2 = .ok (.lconst 0, 1) := by decide +kernel
theorem d_AckBookModel_span_3 : decode c_AckBookModel_span 3 = .ok (.lcmp, 1) := by decide +kernel
theorem d_AckBookModel_span_4 : decode c_AckBookModel_span 4 = .ok (.ifCond .lt (36), 3) := by decide +kernel
theorem d_AckBookModel_span_7 : decode c_AckBookModel_span 7 = .ok (.lload_n 3, 1) := by decide +kernel
theorem d_AckBookModel_span_8 : decode c_AckBookModel_span 8 = .ok (.lload_n 1, 1) := by decide +kernel
theorem d_AckBookModel_span_9 : decode c_AckBookModel_span 9 = .ok (.lcmp, 1) := by decide +kernel
theorem d_AckBookModel_span_10 : decode c_AckBookModel_span 10 = .ok (.ifCond .lt (30), 3) := by decide +kernel
theorem d_AckBookModel_span_13 : decode c_AckBookModel_span 13 = .ok (.aload_n 0, 1) := by decide +kernel
theorem d_AckBookModel_span_14 : decode c_AckBookModel_span 14 = .ok (.getfield 156, 3) := by decide +kernel
theorem d_AckBookModel_span_17 : decode c_AckBookModel_span 17 = .ok (.ifCond .le (27), 3) := by decide +kernel
theorem d_AckBookModel_span_20 : decode c_AckBookModel_span 20 = .ok (.lload_n 3, 1) := by decide +kernel
theorem d_AckBookModel_span_21 : decode c_AckBookModel_span 21 = .ok (.aload_n 0, 1) := by decide +kernel
theorem d_AckBookModel_span_22 : decode c_AckBookModel_span 22 = .ok (.getfield 72, 3) := by decide +kernel
theorem d_AckBookModel_span_25 : decode c_AckBookModel_span 25 = .ok (.aload_n 0, 1) := by decide +kernel
theorem d_AckBookModel_span_26 : decode c_AckBookModel_span 26 = .ok (.getfield 156, 3) := by decide +kernel
theorem d_AckBookModel_span_29 : decode c_AckBookModel_span 29 = .ok (.iconst (1), 1) := by decide +kernel
theorem d_AckBookModel_span_30 : decode c_AckBookModel_span 30 = .ok (.isub, 1) := by decide +kernel
theorem d_AckBookModel_span_31 : decode c_AckBookModel_span 31 = .ok (.laload, 1) := by decide +kernel
theorem d_AckBookModel_span_32 : decode c_AckBookModel_span 32 = .ok (.ldc2_w 159, 3) := by decide +kernel
theorem d_AckBookModel_span_35 : decode c_AckBookModel_span 35 = .ok (.lsub, 1) := by decide +kernel
theorem d_AckBookModel_span_36 : decode c_AckBookModel_span 36 = .ok (.lcmp, 1) := by decide +kernel
theorem d_AckBookModel_span_37 : decode c_AckBookModel_span 37 = .ok (.ifCond .le (7), 3) := by decide +kernel
theorem d_AckBookModel_greater_0 : decode c_AckBookModel_greater 0 = .ok (.iload_n 0, 1) := by decide +kernel
theorem d_AckBookModel_greater_1 : decode c_AckBookModel_greater 1 = .ok (.iload_n 1, 1) := by decide +kernel
theorem d_AckBookModel_greater_2 : decode c_AckBookModel_greater 2 = .ok (.if_icmp .le (7), 3) := by decide +kernel
theorem d_AckBookModel_greater_9 : decode c_AckBookModel_greater 9 = .ok (.iload_n 1, 1) := by decide +kernel
theorem d_AckBookModel_greater_10 : decode c_AckBookModel_greater 10 = .ok (.ireturn, 1) := by decide +kernel
theorem d_AckBookModel_greater_5 : decode c_AckBookModel_greater 5 = .ok (.iload_n 0, 1) := by decide +kernel
theorem d_AckBookModel_greater_6 : decode c_AckBookModel_greater 6 = .ok (.goto (4), 3) := by decide +kernel
theorem d_AckBookModel_isNew_5 : decode c_AckBookModel_isNew 5 = .ok (.iload 4, 2) := by decide +kernel
theorem d_AckBookModel_isNew_7 : decode c_AckBookModel_isNew 7 = .ok (.aload_n 0, 1) := by decide +kernel
theorem d_AckBookModel_isNew_8 : decode c_AckBookModel_isNew 8 = .ok (.getfield 156, 3) := by decide +kernel
theorem d_AckBookModel_isNew_11 : decode c_AckBookModel_isNew 11 = .ok (.if_icmp .ge (45), 3) := by decide +kernel
theorem d_AckBookModel_isNew_56 : decode c_AckBookModel_isNew 56 = .ok (.iload_n 3, 1) := by decide +kernel
theorem d_AckBookModel_isNew_57 : decode c_AckBookModel_isNew 57 = .ok (.ifCond .eq (16), 3) := by decide +kernel
theorem d_AckBookModel_isNew_73 : decode c_AckBookModel_isNew 73 = .ok (.iconst (0), 1) := by decide +kernel
theorem d_AckBookModel_isNew_74 : decode c_AckBookModel_isNew 74 = .ok (.ireturn, 1) := by decide +kernel
theorem d_AckBookModel_isNew_60 : decode c_AckBookModel_isNew 60 = .ok (.aload_n 0, 1) := by decide +kernel
theorem d_AckBookModel_isNew_61 : decode c_AckBookModel_isNew 61 = .ok (.iload_n 1, 1) := by decide +kernel
theorem d_AckBookModel_isNew_62 : decode c_AckBookModel_isNew 62 = .ok (.iload_n 2, 1) := by decide +kernel
theorem d_AckBookModel_isNew_63 : decode c_AckBookModel_isNew 63 = .ok (.invokevirtual 106, 3) := by decide +kernel
theorem d_AckBookModel_isNew_66 : decode c_AckBookModel_isNew 66 = .ok (.ifCond .eq (7), 3) := by decide +kernel
theorem d_AckBookModel_isNew_69 : decode c_AckBookModel_isNew 69 = .ok (.iconst (1), 1) := by decide +kernel
theorem d_AckBookModel_isNew_70 : decode c_AckBookModel_isNew 70 = .ok (.goto (4), 3) := by decide +kernel
theorem d_AckBookModel_isNew_14 : decode c_AckBookModel_isNew 14 = .ok (.iload_n 3, 1) := by decide +kernel
theorem d_AckBookModel_isNew_15 : decode c_AckBookModel_isNew 15 = .ok (.ifCond .ne (29), 3) := by decide +kernel
theorem d_AckBookModel_isNew_18 : decode c_AckBookModel_isNew 18 = .ok (.iload_n 2, 1) := by decide +kernel
theorem d_AckBookModel_isNew_19 : decode c_AckBookModel_isNew 19 = .ok (.i2l, 1) := by decide +kernel
theorem d_AckBookModel_isNew_20 : decode c_AckBookModel_isNew 20 = .ok (.aload_n 0, 1) := by decide +kernel
theorem d_AckBookModel_isNew_21 : decode c_AckBookModel_isNew 21 = .ok (.getfield 72, 3) := by decide +kernel
theorem d_AckBookModel_isNew_24 : decode c_AckBookModel_isNew 24 = .ok (.iload 4, 2) := by decide +kernel
theorem d_AckBookModel_isNew_26 : decode c_AckBookModel_isNew 26 = .ok (.laload, 1) := by decide +kernel
theorem d_AckBookModel_isNew_27 : decode c_AckBookModel_isNew 27 = .ok (.lcmp, 1) := by decide +kernel
theorem d_AckBookModel_isNew_28 : decode c_AckBookModel_isNew 28 = .ok (.ifCond .lt (20), 3) := by decide +kernel
theorem d_AckBookModel_isNew_48 : decode c_AckBookModel_isNew 48 = .ok (.iconst (0), 1) := by decide +kernel
theorem d_AckBookModel_isNew_49 : decode c_AckBookModel_isNew 49 = .ok (.istore_n 3, 1) := by decide +kernel
theorem d_AckBookModel_isNew_50 : decode c_AckBookModel_isNew 50 = .ok (.iinc 4 (1), 3) := by decide +kernel
theorem d_AckBookModel_isNew_53 : decode c_AckBookModel_isNew 53 = .ok (.goto (-48), 3) := by decide +kernel
theorem d_AckBookModel_isNew_31 : decode c_AckBookModel_isNew 31 = .ok (.iload_n 2, 1) := by decide +kernel
theorem d_AckBookModel_isNew_32 : decode c_AckBookModel_isNew 32 = .ok (.i2l, 1) := by decide +kernel
theorem d_AckBookModel_isNew_33 : decode c_AckBookModel_isNew 33 = .ok (.aload_n 0, 1) := by decide +kernel
theorem d_AckBookModel_isNew_34 : decode c_AckBookModel_isNew 34 = .ok (.getfield 76, 3) := by decide +kernel
theorem d_AckBookModel_isNew_37 : decode c_AckBookModel_isNew 37 = .ok (.iload 4, 2) := by decide +kernel
