theorem d_AckBook_span_7 : decode c_AckBook_span 7 = .ok (.lload_n 1, 1) := by decide +kernel
theorem d_AckBook_span_8 : decode c_AckBook_span 8 = .ok (.lcmp, 1) := by decide +kernel
theorem d_AckBook_span_9 : decode c_AckBook_span 9 = .ok (.ifCond .ge (13), 3) := by decide +kernel
theorem d_AckBook_span_22 : decode c_AckBook_span 22 = .ok (.aload_n 0, 1) := by decide +kernel
theorem d_AckBook_span_23 : decode c_AckBook_span 23 = .ok (.getfield 21, 3) := by decide +kernel
theorem d_AckBook_span_26 : decode c_AckBook_span 26 = .ok (.lload_n 3, 1) := by decide +kernel
theorem d_AckBook_span_27 : decode c_AckBook_span 27 = .ok (.invokevirtual 93, 3) := by decide +kernel
theorem d_AckBook_span_30 : decode c_AckBook_span 30 = .ok (.ifCond .ne (13), 3) := by decide +kernel
theorem d_AckBook_span_33 : decode c_AckBook_span 33 = .ok (.new 43, 3) := by decide +kernel
theorem d_AckBook_span_36 : decode c_AckBook_span 36 = .ok (.dup, 1) := by decide +kernel
theorem d_AckBook_span_37 : decode c_AckBook_span 37 = .ok (.ldc 97, 2) := by decide +kernel
theorem d_AckBook_span_39 : decode c_AckBook_span 39 = .ok (.invokespecial 47, 3) := by decide +kernel
theorem d_AckBook_span_42 : decode c_AckBook_span 42 = .ok (.athrow, 1) := by decide +kernel
theorem d_AckBook_span_43 : decode c_AckBook_span 43 = .ok (.aload_n 0, 1) := by decide +kernel
theorem d_AckBook_span_44 : decode c_AckBook_span 44 = .ok (.getfield 21, 3) := by decide +kernel
theorem d_AckBook_span_47 : decode c_AckBook_span 47 = .ok (.invokevirtual 99, 3) := by decide +kernel
theorem d_AckBook_span_50 : decode c_AckBook_span 50 = .ok (.ifCond .eq (13), 3) := by decide +kernel
theorem d_AckBook_span_63 : decode c_AckBook_span 63 = .ok (.aload_n 0, 1) := by decide +kernel
theorem d_AckBook_span_64 : decode c_AckBook_span 64 = .ok (.getfield 21, 3) := by decide +kernel
theorem d_AckBook_span_67 : decode c_AckBook_span 67 = .ok (.lload_n 1, 1) := by decide +kernel
theorem d_AckBook_span_68 : decode c_AckBook_span 68 = .ok (.lload_n 3, 1) := by decide +kernel
theorem d_AckBook_span_69 : decode c_AckBook_span 69 = .ok (.invokevirtual 105, 3) := by decide +kernel
theorem d_AckBook_span_72 : decode c_AckBook_span 72 = .ok (.ireturn, 1) := by decide +kernel
theorem d_AckBook_span_53 : decode c_AckBook_span 53 = .ok (.new 66, 3) := by decide +kernel
theorem d_AckBook_span_56 : decode c_AckBook_span 56 = .ok (.dup, 1) := by decide +kernel
theorem d_AckBook_span_57 : decode c_AckBook_span 57 = .ok (.ldc 103, 2) := by decide +kernel
theorem d_AckBook_span_59 : decode c_AckBook_span 59 = .ok (.invokespecial 70, 3) := by decide +kernel
theorem d_AckBook_span_62 : decode c_AckBook_span 62 = .ok (.athrow, 1) := by decide +kernel
theorem d_AckBookLaw_span_0 : decode c_AckBookLaw_span 0 = .ok (.aload 5, 2) := by decide +kernel
theorem d_AckBookLaw_span_2 : decode c_AckBookLaw_span 2 = .ok (.iconst (0), 1) := by decide +kernel
theorem d_AckBookLaw_span_3 : decode c_AckBookLaw_span 3 = .ok (.aload_n 0, 1) := by decide +kernel
theorem d_AckBookLaw_span_4 : decode c_AckBookLaw_span 4 = .ok (.lload_n 1, 1) := by decide +kernel
theorem d_AckBookLaw_span_5 : decode c_AckBookLaw_span 5 = .ok (.lload_n 3, 1) := by decide +kernel
theorem d_AckBookLaw_span_6 : decode c_AckBookLaw_span 6 = .ok (.invokevirtual 17, 3) := by decide +kernel
theorem d_AckBookLaw_span_9 : decode c_AckBookLaw_span 9 = .ok (.i2l, 1) := by decide +kernel
theorem d_AckBookLaw_span_10 : decode c_AckBookLaw_span 10 = .ok (.lastore, 1) := by decide +kernel
theorem d_AckBookLaw_span_11 : decode c_AckBookLaw_span 11 = .ok (.goto (11), 3) := by decide +kernel
theorem d_AckBookLaw_span_22 : decode c_AckBookLaw_span 22 = .ok (.iconst (0), 1) := by decide +kernel
theorem d_AckBookLaw_span_23 : decode c_AckBookLaw_span 23 = .ok (.ireturn, 1) := by decide +kernel
theorem d_AckBookLaw_span_14 : decode c_AckBookLaw_span 14 = .ok (.astore 6, 2) := by decide +kernel
theorem d_AckBookLaw_span_16 : decode c_AckBookLaw_span 16 = .ok (.iconst (1), 1) := by decide +kernel
theorem d_AckBookLaw_span_17 : decode c_AckBookLaw_span 17 = .ok (.ireturn, 1) := by decide +kernel
theorem d_AckBookLaw_span_18 : decode c_AckBookLaw_span 18 = .ok (.astore 6, 2) := by decide +kernel
theorem d_AckBookLaw_span_20 : decode c_AckBookLaw_span 20 = .ok (.iconst (2), 1) := by decide +kernel
theorem d_AckBookLaw_span_21 : decode c_AckBookLaw_span 21 = .ok (.ireturn, 1) := by decide +kernel
theorem d_AckBook_Claim_close_0 : decode c_AckBook_Claim_close 0 = .ok (.aload_n 0, 1) := by decide +kernel
theorem d_AckBook_Claim_close_1 : decode c_AckBook_Claim_close 1 = .ok (.aload_n 0, 1) := by decide +kernel
theorem d_AckBook_Claim_close_2 : decode c_AckBook_Claim_close 2 = .ok (.getfield 18, 3) := by decide +kernel
theorem d_AckBook_Claim_close_5 : decode c_AckBook_Claim_close 5 = .ok (.putfield 22, 3) := by decide +kernel
theorem d_AckBook_Claim_close_8 : decode c_AckBook_Claim_close 8 = .ok (.aload_n 0, 1) := by decide +kernel
theorem d_AckBook_Claim_close_9 : decode c_AckBook_Claim_close 9 = .ok (.iconst (0), 1) := by decide +kernel
theorem d_AckBook_Claim_close_10 : decode c_AckBook_Claim_close 10 = .ok (.putfield 18, 3) := by decide +kernel
theorem d_AckBook_Claim_close_13 : decode c_AckBook_Claim_close 13 = .ok (.return_, 1) := by decide +kernel
theorem d_AckBook_Claim_greatest_0 : decode c_AckBook_Claim_greatest 0 = .ok (.aload_n 0, 1) := by decide +kernel
theorem d_AckBook_Claim_greatest_1 : decode c_AckBook_Claim_greatest 1 = .ok (.getfield 22, 3) := by decide +kernel
theorem d_AckBook_Claim_greatest_4 : decode c_AckBook_Claim_greatest 4 = .ok (.ifCond .ne (9), 3) := by decide +kernel
theorem d_AckBook_Claim_greatest_7 : decode c_AckBook_Claim_greatest 7 = .ok (.ldc2_w 25, 3) := by decide +kernel
theorem d_AckBook_Claim_greatest_10 : decode c_AckBook_Claim_greatest 10 = .ok (.goto (9), 3) := by decide +kernel
theorem d_AckBook_Claim_greatest_19 : decode c_AckBook_Claim_greatest 19 = .ok (.lreturn, 1) := by decide +kernel
theorem d_AckBook_Claim_greatest_13 : decode c_AckBook_Claim_greatest 13 = .ok (.aload_n 0, 1) := by decide +kernel
theorem d_AckBook_Claim_greatest_14 : decode c_AckBook_Claim_greatest 14 = .ok (.getfield 15, 3) := by decide +kernel
theorem d_AckBook_Claim_greatest_17 : decode c_AckBook_Claim_greatest 17 = .ok (.iconst (0), 1) := by decide +kernel
theorem d_AckBook_Claim_greatest_18 : decode c_AckBook_Claim_greatest 18 = .ok (.laload, 1) := by decide +kernel
theorem d_AckBook_Sent_packet_0 : decode c_AckBook_Sent_packet 0 = .ok (.lload_n 1, 1) := by decide +kernel
theorem d_AckBook_Sent_packet_1 : decode c_AckBook_Sent_packet 1 = .ok (.lconst 0, 1) := by decide +kernel
theorem d_AckBook_Sent_packet_2 : decode c_AckBook_Sent_packet 2 = .ok (.lcmp, 1) := by decide +kernel
theorem d_AckBook_Sent_packet_3 : decode c_AckBook_Sent_packet 3 = .ok (.ifCond .lt (16), 3) := by decide +kernel
theorem d_AckBook_Sent_packet_19 : decode c_AckBook_Sent_packet 19 = .ok (.aconst_null, 1) := by decide +kernel
theorem d_AckBook_Sent_packet_20 : decode c_AckBook_Sent_packet 20 = .ok (.areturn, 1) := by decide +kernel
theorem d_AckBook_Sent_packet_6 : decode c_AckBook_Sent_packet 6 = .ok (.lload_n 1, 1) := by decide +kernel
theorem d_AckBook_Sent_packet_7 : decode c_AckBook_Sent_packet 7 = .ok (.aload_n 0, 1) := by decide +kernel
theorem d_AckBook_Sent_packet_8 : decode c_AckBook_Sent_packet 8 = .ok (.getfield 24, 3) := by decide +kernel
theorem d_AckBook_Sent_packet_11 : decode c_AckBook_Sent_packet 11 = .ok (.invokevirtual 35, 3) := by decide +kernel
theorem d_AckBook_Sent_packet_14 : decode c_AckBook_Sent_packet 14 = .ok (.i2l, 1) := by decide +kernel
theorem d_AckBook_Sent_packet_15 : decode c_AckBook_Sent_packet 15 = .ok (.lcmp, 1) := by decide +kernel
theorem d_AckBook_Sent_packet_16 : decode c_AckBook_Sent_packet 16 = .ok (.ifCond .lt (5), 3) := by decide +kernel
theorem d_AckBook_Sent_packet_21 : decode c_AckBook_Sent_packet 21 = .ok (.aload_n 0, 1) := by decide +kernel
theorem d_AckBook_Sent_packet_22 : decode c_AckBook_Sent_packet 22 = .ok (.getfield 24, 3) := by decide +kernel
theorem d_AckBook_Sent_packet_25 : decode c_AckBook_Sent_packet 25 = .ok (.lload_n 1, 1) := by decide +kernel
theorem d_AckBook_Sent_packet_26 : decode c_AckBook_Sent_packet 26 = .ok (.l2i, 1) := by decide +kernel
theorem d_AckBook_Sent_packet_27 : decode c_AckBook_Sent_packet 27 = .ok (.invokevirtual 39, 3) := by decide +kernel
theorem d_AckBook_Sent_packet_30 : decode c_AckBook_Sent_packet 30 = .ok (.checkcast 43, 3) := by decide +kernel
theorem d_AckBook_Sent_packet_33 : decode c_AckBook_Sent_packet 33 = .ok (.areturn, 1) := by decide +kernel
theorem d_AckBook_Sent_raiseGreatest_0 : decode c_AckBook_Sent_raiseGreatest 0 = .ok (.aload_n 0, 1) := by decide +kernel
theorem d_AckBook_Sent_raiseGreatest_1 : decode c_AckBook_Sent_raiseGreatest 1 = .ok (.aload_n 0, 1) := by decide +kernel
theorem d_AckBook_Sent_raiseGreatest_2 : decode c_AckBook_Sent_raiseGreatest 2 = .ok (.getfield 28, 3) := by decide +kernel
theorem d_AckBook_Sent_raiseGreatest_5 : decode c_AckBook_Sent_raiseGreatest 5 = .ok (.iload_n 1, 1) := by decide +kernel
theorem d_AckBook_Sent_raiseGreatest_6 : decode c_AckBook_Sent_raiseGreatest 6 = .ok (.invokestatic 65, 3) := by decide +kernel
theorem d_AckBook_Sent_raiseGreatest_9 : decode c_AckBook_Sent_raiseGreatest 9 = .ok (.putfield 28, 3) := by decide +kernel
theorem d_AckBook_Sent_raiseGreatest_12 : decode c_AckBook_Sent_raiseGreatest 12 = .ok (.return_, 1) := by decide +kernel
theorem d_AckBook_Claim_high_0 : decode c_AckBook_Claim_high 0 = .ok (.iload_n 1, 1) := by decide +kernel
theorem d_AckBook_Claim_high_1 : decode c_AckBook_Claim_high 1 = .ok (.ifCond .lt (18), 3) := by decide +kernel
theorem d_AckBook_Claim_high_19 : decode c_AckBook_Claim_high 19 = .ok (.ldc2_w 25, 3) := by decide +kernel
theorem d_AckBook_Claim_high_22 : decode c_AckBook_Claim_high 22 = .ok (.lreturn, 1) := by decide +kernel
theorem d_AckBook_Claim_high_4 : decode c_AckBook_Claim_high 4 = .ok (.iload_n 1, 1) := by decide +kernel
theorem d_AckBook_Claim_high_5 : decode c_AckBook_Claim_high 5 = .ok (.bipush (64), 2) := by decide +kernel
theorem d_AckBook_Claim_high_7 : decode c_AckBook_Claim_high 7 = .ok (.if_icmp .ge (12), 3) := by decide +kernel
theorem d_AckBook_Claim_high_10 : decode c_AckBook_Claim_high 10 = .ok (.aload_n 0, 1) := by decide +kernel
theorem d_AckBook_Claim_high_11 : decode c_AckBook_Claim_high 11 = .ok (.getfield 15, 3) := by decide +kernel
theorem d_AckBook_Claim_high_14 : decode c_AckBook_Claim_high 14 = .ok (.iload_n 1, 1) := by decide +kernel
theorem d_AckBook_Claim_high_15 : decode c_AckBook_Claim_high 15 = .ok (.laload, 1) := by decide +kernel
theorem d_AckBook_Claim_high_16 : decode c_AckBook_Claim_high 16 = .ok (.goto (6), 3) := by decide +kernel
theorem d_AckBook_Claim_low_0 : decode c_AckBook_Claim_low 0 = .ok (.iload_n 1, 1) := by decide +kernel
theorem d_AckBook_Claim_low_1 : decode c_AckBook_Claim_low 1 = .ok (.ifCond .lt (18), 3) := by decide +kernel
theorem d_AckBook_Claim_low_19 : decode c_AckBook_Claim_low 19 = .ok (.ldc2_w 25, 3) := by decide +kernel
theorem d_AckBook_Claim_low_22 : decode c_AckBook_Claim_low 22 = .ok (.lreturn, 1) := by decide +kernel
theorem d_AckBook_Claim_low_4 : decode c_AckBook_Claim_low 4 = .ok (.iload_n 1, 1) := by decide +kernel
theorem d_AckBook_Claim_low_5 : decode c_AckBook_Claim_low 5 = .ok (.bipush (64), 2) := by decide +kernel
theorem d_AckBook_Claim_low_7 : decode c_AckBook_Claim_low 7 = .ok (.if_icmp .ge (12), 3) := by decide +kernel
theorem d_AckBook_Claim_low_10 : decode c_AckBook_Claim_low 10 = .ok (.aload_n 0, 1) := by decide +kernel
theorem d_AckBook_Claim_low_11 : decode c_AckBook_Claim_low 11 = .ok (.getfield 9, 3) := by decide +kernel
theorem d_AckBook_Claim_low_14 : decode c_AckBook_Claim_low 14 = .ok (.iload_n 1, 1) := by decide +kernel
theorem d_AckBook_Claim_low_15 : decode c_AckBook_Claim_low 15 = .ok (.laload, 1) := by decide +kernel
theorem d_AckBook_Claim_low_16 : decode c_AckBook_Claim_low 16 = .ok (.goto (6), 3) := by decide +kernel
theorem d_AckBook_Sent_markAcknowledged_90 : decode c_AckBook_Sent_markAcknowledged 90 = .ok (.astore_n 2, 1) := by decide +kernel
theorem d_AckBook_Sent_markAcknowledged_91 : decode c_AckBook_Sent_markAcknowledged 91 = .ok (.lload 6, 2) := by decide +kernel
theorem d_AckBook_Sent_markAcknowledged_93 : decode c_AckBook_Sent_markAcknowledged 93 = .ok (.lconst 1, 1) := by decide +kernel
theorem d_AckBook_Sent_markAcknowledged_94 : decode c_AckBook_Sent_markAcknowledged 94 = .ok (.ladd, 1) := by decide +kernel
theorem d_AckBook_Sent_markAcknowledged_95 : decode c_AckBook_Sent_markAcknowledged 95 = .ok (.lstore 6, 2) := by decide +kernel
theorem d_AckBook_Sent_markAcknowledged_97 : decode c_AckBook_Sent_markAcknowledged 97 = .ok (.goto (-57), 3) := by decide +kernel
