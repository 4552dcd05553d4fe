theorem d_AckBook_Sent_packet_0 : decode c_AckBook_Sent_packet 0 = .ok (.lload_n 1, 1) := by decide +kernel
theorem d_AckBook_Sent_packet_1 : decode c_AckBook_Sent_packet 1 = .ok (.lconst 0, 1) := by decide +kernel
theorem d_AckBook_Sent_packet_2 : decode c_AckBook_Sent_packet 2 = .ok (.lcmp, 1) := by decide +kernel
theorem d_AckBook_Sent_packet_3 : decode c_AckBook_Sent_packet 3 = .ok (.ifCond .lt (16), 3) := by decide +kernel
theorem d_AckBook_Sent_packet_19 : decode c_AckBook_Sent_packet 19 = .ok (.aconst_null, 1) := by decide +kernel
theorem d_AckBook_Sent_packet_20 : decode c_AckBook_Sent_packet 20 = .ok (.areturn, 1) := by decide +kernel
theorem d_AckBook_Sent_packet_6 : decode c_AckBook_Sent_packet 6 = .ok (.lload_n 1, 1) := by decide +kernel
theorem d_AckBook_Sent_packet_7 : decode c_AckBook_Sent_packet 7 = .ok (.aload_n 0, 1) := by decide +kernel
theorem d_AckBook_Sent_packet_8 : decode c_AckBook_Sent_packet 8 = .ok (.getfield 24, 3) := by decide +kernel
theorem d_AckBook_Sent_packet_11 : decode c_AckBook_Sent_packet 11 = .ok (.invokevirtual 35, 3) := by decide +kernel
theorem d_AckBook_Sent_packet_14 : decode c_AckBook_Sent_packet 14 = .ok (.i2l, 1) := by decide +kernel
theorem d_AckBook_Sent_packet_15 : decode c_AckBook_Sent_packet 15 = .ok (.lcmp, 1) := by decide +kernel
theorem d_AckBook_Sent_packet_16 : decode c_AckBook_Sent_packet 16 = .ok (.ifCond .lt (5), 3) := by decide +kernel
theorem d_AckBook_Sent_packet_21 : decode c_AckBook_Sent_packet 21 = .ok (.aload_n 0, 1) := by decide +kernel
theorem d_AckBook_Sent_packet_22 : decode c_AckBook_Sent_packet 22 = .ok (.getfield 24, 3) := by decide +kernel
theorem d_AckBook_Sent_packet_25 : decode c_AckBook_Sent_packet 25 = .ok (.lload_n 1, 1) := by decide +kernel
theorem d_AckBook_Sent_packet_26 : decode c_AckBook_Sent_packet 26 = .ok (.l2i, 1) := by decide +kernel
theorem d_AckBook_Sent_packet_27 : decode c_AckBook_Sent_packet 27 = .ok (.invokevirtual 39, 3) := by decide +kernel
theorem d_AckBook_Sent_packet_30 : decode c_AckBook_Sent_packet 30 = .ok (.checkcast 43, 3) := by decide +kernel
theorem d_AckBook_Sent_packet_33 : decode c_AckBook_Sent_packet 33 = .ok (.areturn, 1) := by decide +kernel
theorem d_AckBook_Sent_raiseGreatest_0 : decode c_AckBook_Sent_raiseGreatest 0 = .ok (.aload_n 0, 1) := by decide +kernel
theorem d_AckBook_Sent_raiseGreatest_1 : decode c_AckBook_Sent_raiseGreatest 1 = .ok (.aload_n 0, 1) := by decide +kernel
theorem d_AckBook_Sent_raiseGreatest_2 : decode c_AckBook_Sent_raiseGreatest 2 = .ok (.getfield 28, 3) := by decide +kernel
theorem d_AckBook_Sent_raiseGreatest_5 : decode c_AckBook_Sent_raiseGreatest 5 = .ok (.iload_n 1, 1) := by decide +kernel
theorem d_AckBook_Sent_raiseGreatest_6 : decode c_AckBook_Sent_raiseGreatest 6 = .ok (.invokestatic 65, 3) := by decide +kernel
theorem d_AckBook_Sent_raiseGreatest_9 : decode c_AckBook_Sent_raiseGreatest 9 = .ok (.putfield 28, 3) := by decide +kernel
theorem d_AckBook_Sent_raiseGreatest_12 : decode c_AckBook_Sent_raiseGreatest 12 = .ok (.return_, 1) := by decide +kernel
theorem d_AckBook_Claim_high_0 : decode c_AckBook_Claim_high 0 = .ok (.iload_n 1, 1) := by decide +kernel
theorem d_AckBook_Claim_high_1 : decode c_AckBook_Claim_high 1 = .ok (.ifCond .lt (18), 3) := by decide +kernel
theorem d_AckBook_Claim_high_19 : decode c_AckBook_Claim_high 19 = .ok (.ldc2_w 25, 3) := by decide +kernel
theorem d_AckBook_Claim_high_22 : decode c_AckBook_Claim_high 22 = .ok (.lreturn, 1) := by decide +kernel
theorem d_AckBook_Claim_high_4 : decode c_AckBook_Claim_high 4 = .ok (.iload_n 1, 1) := by decide +kernel
theorem d_AckBook_Claim_high_5 : decode c_AckBook_Claim_high 5 = .ok (.bipush (64), 2) := by decide +kernel
theorem d_AckBook_Claim_high_7 : decode c_AckBook_Claim_high 7 = .ok (.if_icmp .ge (12), 3) := by decide +kernel
theorem d_AckBook_Claim_high_10 : decode c_AckBook_Claim_high 10 = .ok (.aload_n 0, 1) := by decide +kernel
theorem d_AckBook_Claim_high_11 : decode c_AckBook_Claim_high 11 = .ok (.getfield 15, 3) := by decide +kernel
theorem d_AckBook_Claim_high_14 : decode c_AckBook_Claim_high 14 = .ok (.iload_n 1, 1) := by decide +kernel
theorem d_AckBook_Claim_high_15 : decode c_AckBook_Claim_high 15 = .ok (.laload, 1) := by decide +kernel
theorem d_AckBook_Claim_high_16 : decode c_AckBook_Claim_high 16 = .ok (.goto (6), 3) := by decide +kernel
theorem d_AckBook_Claim_low_0 : decode c_AckBook_Claim_low 0 = .ok (.iload_n 1, 1) := by decide +kernel
theorem d_AckBook_Claim_low_1 : decode c_AckBook_Claim_low 1 = .ok (.ifCond .lt (18), 3) := by decide +kernel
theorem d_AckBook_Claim_low_19 : decode c_AckBook_Claim_low 19 = .ok (.ldc2_w 25, 3) := by decide +kernel
theorem d_AckBook_Claim_low_22 : decode c_AckBook_Claim_low 22 = .ok (.lreturn, 1) := by decide +kernel
theorem d_AckBook_Claim_low_4 : decode c_AckBook_Claim_low 4 = .ok (.iload_n 1, 1) := by decide +kernel
theorem d_AckBook_Claim_low_5 : decode c_AckBook_Claim_low 5 = .ok (.bipush (64), 2) := by decide +kernel
theorem d_AckBook_Claim_low_7 : decode c_AckBook_Claim_low 7 = .ok (.if_icmp .ge (12), 3) := by decide +kernel
theorem d_AckBook_Claim_low_10 : decode c_AckBook_Claim_low 10 = .ok (.aload_n 0, 1) := by decide +kernel
theorem d_AckBook_Claim_low_11 : decode c_AckBook_Claim_low 11 = .ok (.getfield 9, 3) := by decide +kernel
theorem d_AckBook_Claim_low_14 : decode c_AckBook_Claim_low 14 = .ok (.iload_n 1, 1) := by decide +kernel
theorem d_AckBook_Claim_low_15 : decode c_AckBook_Claim_low 15 = .ok (.laload, 1) := by decide +kernel
theorem d_AckBook_Claim_low_16 : decode c_AckBook_Claim_low 16 = .ok (.goto (6), 3) := by decide +kernel
theorem d_AckBook_Sent_markAcknowledged_9 : decode c_AckBook_Sent_markAcknowledged 9 = .ok (.iload_n 3, 1) := by decide +kernel
theorem d_AckBook_Sent_markAcknowledged_10 : decode c_AckBook_Sent_markAcknowledged 10 = .ok (.ifCond .lt (96), 3) := by decide +kernel
theorem d_AckBook_Sent_markAcknowledged_106 : decode c_AckBook_Sent_markAcknowledged 106 = .ok (.aload_n 2, 1) := by decide +kernel
theorem d_AckBook_Sent_markAcknowledged_107 : decode c_AckBook_Sent_markAcknowledged 107 = .ok (.areturn, 1) := by decide +kernel
theorem d_AckBook_Sent_markAcknowledged_13 : decode c_AckBook_Sent_markAcknowledged 13 = .ok (.aload_n 1, 1) := by decide +kernel
theorem d_AckBook_Sent_markAcknowledged_14 : decode c_AckBook_Sent_markAcknowledged 14 = .ok (.iload_n 3, 1) := by decide +kernel
theorem d_AckBook_Sent_markAcknowledged_15 : decode c_AckBook_Sent_markAcknowledged 15 = .ok (.invokevirtual 76, 3) := by decide +kernel
theorem d_AckBook_Sent_markAcknowledged_18 : decode c_AckBook_Sent_markAcknowledged 18 = .ok (.aload_n 0, 1) := by decide +kernel
theorem d_AckBook_Sent_markAcknowledged_19 : decode c_AckBook_Sent_markAcknowledged 19 = .ok (.getfield 24, 3) := by decide +kernel
theorem d_AckBook_Sent_markAcknowledged_22 : decode c_AckBook_Sent_markAcknowledged 22 = .ok (.invokevirtual 35, 3) := by decide +kernel
theorem d_AckBook_Sent_markAcknowledged_25 : decode c_AckBook_Sent_markAcknowledged 25 = .ok (.iconst (1), 1) := by decide +kernel
theorem d_AckBook_Sent_markAcknowledged_26 : decode c_AckBook_Sent_markAcknowledged 26 = .ok (.isub, 1) := by decide +kernel
theorem d_AckBook_Sent_markAcknowledged_27 : decode c_AckBook_Sent_markAcknowledged 27 = .ok (.i2l, 1) := by decide +kernel
theorem d_AckBook_Sent_markAcknowledged_28 : decode c_AckBook_Sent_markAcknowledged 28 = .ok (.invokestatic 80, 3) := by decide +kernel
theorem d_AckBook_Sent_markAcknowledged_31 : decode c_AckBook_Sent_markAcknowledged 31 = .ok (.lstore 4, 2) := by decide +kernel
theorem d_AckBook_Sent_markAcknowledged_33 : decode c_AckBook_Sent_markAcknowledged 33 = .ok (.aload_n 1, 1) := by decide +kernel
theorem d_AckBook_Sent_markAcknowledged_34 : decode c_AckBook_Sent_markAcknowledged 34 = .ok (.iload_n 3, 1) := by decide +kernel
theorem d_AckBook_Sent_markAcknowledged_35 : decode c_AckBook_Sent_markAcknowledged 35 = .ok (.invokevirtual 84, 3) := by decide +kernel
theorem d_AckBook_Sent_markAcknowledged_38 : decode c_AckBook_Sent_markAcknowledged 38 = .ok (.lstore 6, 2) := by decide +kernel
theorem d_AckBook_Sent_markAcknowledged_40 : decode c_AckBook_Sent_markAcknowledged 40 = .ok (.lload 6, 2) := by decide +kernel
theorem d_AckBook_Sent_markAcknowledged_42 : decode c_AckBook_Sent_markAcknowledged 42 = .ok (.lload 4, 2) := by decide +kernel
theorem d_AckBook_Sent_markAcknowledged_44 : decode c_AckBook_Sent_markAcknowledged 44 = .ok (.lcmp, 1) := by decide +kernel
theorem d_AckBook_Sent_markAcknowledged_45 : decode c_AckBook_Sent_markAcknowledged 45 = .ok (.ifCond .gt (55), 3) := by decide +kernel
theorem d_AckBook_Sent_markAcknowledged_100 : decode c_AckBook_Sent_markAcknowledged 100 = .ok (.iinc 3 (-1), 3) := by decide +kernel
theorem d_AckBook_Sent_markAcknowledged_103 : decode c_AckBook_Sent_markAcknowledged 103 = .ok (.goto (-94), 3) := by decide +kernel
theorem d_AckBook_Sent_markAcknowledged_48 : decode c_AckBook_Sent_markAcknowledged 48 = .ok (.aload_n 0, 1) := by decide +kernel
theorem d_AckBook_Sent_markAcknowledged_49 : decode c_AckBook_Sent_markAcknowledged 49 = .ok (.lload 6, 2) := by decide +kernel
theorem d_AckBook_Sent_markAcknowledged_51 : decode c_AckBook_Sent_markAcknowledged 51 = .ok (.invokevirtual 87, 3) := by decide +kernel
theorem d_AckBook_Sent_markAcknowledged_54 : decode c_AckBook_Sent_markAcknowledged 54 = .ok (.astore 8, 2) := by decide +kernel
theorem d_AckBook_Sent_markAcknowledged_56 : decode c_AckBook_Sent_markAcknowledged 56 = .ok (.aload 8, 2) := by decide +kernel
theorem d_AckBook_Sent_markAcknowledged_58 : decode c_AckBook_Sent_markAcknowledged 58 = .ok (.ifnull (33), 3) := by decide +kernel
theorem d_AckBook_Sent_markAcknowledged_91 : decode c_AckBook_Sent_markAcknowledged 91 = .ok (.lload 6, 2) := by decide +kernel
theorem d_AckBook_Sent_markAcknowledged_93 : decode c_AckBook_Sent_markAcknowledged 93 = .ok (.lconst 1, 1) := by decide +kernel
theorem d_AckBook_Sent_markAcknowledged_94 : decode c_AckBook_Sent_markAcknowledged 94 = .ok (.ladd, 1) := by decide +kernel
theorem d_AckBook_Sent_markAcknowledged_95 : decode c_AckBook_Sent_markAcknowledged 95 = .ok (.lstore 6, 2) := by decide +kernel
theorem d_AckBook_Sent_markAcknowledged_97 : decode c_AckBook_Sent_markAcknowledged 97 = .ok (.goto (-57), 3) := by decide +kernel
theorem d_AckBook_Sent_markAcknowledged_61 : decode c_AckBook_Sent_markAcknowledged 61 = .ok (.aload 8, 2) := by decide +kernel
theorem d_AckBook_Sent_markAcknowledged_63 : decode c_AckBook_Sent_markAcknowledged 63 = .ok (.getfield 91, 3) := by decide +kernel
theorem d_AckBook_Sent_markAcknowledged_66 : decode c_AckBook_Sent_markAcknowledged 66 = .ok (.ifCond .ne (25), 3) := by decide +kernel
theorem d_AckBook_Sent_markAcknowledged_69 : decode c_AckBook_Sent_markAcknowledged 69 = .ok (.aload_n 0, 1) := by decide +kernel
theorem d_AckBook_Sent_markAcknowledged_70 : decode c_AckBook_Sent_markAcknowledged 70 = .ok (.aload 8, 2) := by decide +kernel
theorem d_AckBook_Sent_markAcknowledged_72 : decode c_AckBook_Sent_markAcknowledged 72 = .ok (.iconst (1), 1) := by decide +kernel
theorem d_AckBook_Sent_markAcknowledged_73 : decode c_AckBook_Sent_markAcknowledged 73 = .ok (.aload_n 0, 1) := by decide +kernel
theorem d_AckBook_Sent_markAcknowledged_74 : decode c_AckBook_Sent_markAcknowledged 74 = .ok (.getfield 12, 3) := by decide +kernel
theorem d_AckBook_Sent_markAcknowledged_77 : decode c_AckBook_Sent_markAcknowledged 77 = .ok (.invokevirtual 94, 3) := by decide +kernel
theorem d_AckBook_Sent_markAcknowledged_80 : decode c_AckBook_Sent_markAcknowledged 80 = .ok (.aload_n 2, 1) := by decide +kernel
theorem d_AckBook_Sent_markAcknowledged_81 : decode c_AckBook_Sent_markAcknowledged 81 = .ok (.ifnonnull (8), 3) := by decide +kernel
theorem d_AckBook_Sent_markAcknowledged_84 : decode c_AckBook_Sent_markAcknowledged 84 = .ok (.aload 8, 2) := by decide +kernel
theorem d_AckBook_Sent_markAcknowledged_86 : decode c_AckBook_Sent_markAcknowledged 86 = .ok (.goto (4), 3) := by decide +kernel
theorem d_AckBook_Sent_markAcknowledged_90 : decode c_AckBook_Sent_markAcknowledged 90 = .ok (.astore_n 2, 1) := by decide +kernel
theorem d_AckBook_Sent_markAcknowledged_89 : decode c_AckBook_Sent_markAcknowledged 89 = .ok (.aload_n 2, 1) := by decide +kernel
theorem d_AckBook_Sent_markAcknowledged_0 : decode c_AckBook_Sent_markAcknowledged 0 = .ok (.aconst_null, 1) := by decide +kernel
theorem d_AckBook_Sent_markAcknowledged_1 : decode c_AckBook_Sent_markAcknowledged 1 = .ok (.astore_n 2, 1) := by decide +kernel
theorem d_AckBook_Sent_markAcknowledged_2 : decode c_AckBook_Sent_markAcknowledged 2 = .ok (.aload_n 1, 1) := by decide +kernel
theorem d_AckBook_Sent_markAcknowledged_3 : decode c_AckBook_Sent_markAcknowledged 3 = .ok (.getfield 71, 3) := by decide +kernel
theorem d_AckBook_Sent_markAcknowledged_6 : decode c_AckBook_Sent_markAcknowledged 6 = .ok (.iconst (1), 1) := by decide +kernel
theorem d_AckBook_Sent_markAcknowledged_7 : decode c_AckBook_Sent_markAcknowledged 7 = .ok (.isub, 1) := by decide +kernel
theorem d_AckBook_Sent_markAcknowledged_8 : decode c_AckBook_Sent_markAcknowledged 8 = .ok (.istore_n 3, 1) := by decide +kernel
theorem d_AckBook_hasEliciting_2 : decode c_AckBook_hasEliciting 2 = .ok (.aload_n 1, 1) := by decide +kernel
theorem d_AckBook_hasEliciting_3 : decode c_AckBook_hasEliciting 3 = .ok (.ifnull (20), 3) := by decide +kernel
theorem d_AckBook_hasEliciting_23 : decode c_AckBook_hasEliciting 23 = .ok (.iconst (0), 1) := by decide +kernel
theorem d_AckBook_hasEliciting_24 : decode c_AckBook_hasEliciting 24 = .ok (.ireturn, 1) := by decide +kernel
theorem d_AckBook_hasEliciting_6 : decode c_AckBook_hasEliciting 6 = .ok (.aload_n 1, 1) := by decide +kernel
theorem d_AckBook_hasEliciting_7 : decode c_AckBook_hasEliciting 7 = .ok (.getfield 300, 3) := by decide +kernel
theorem d_AckBook_hasEliciting_10 : decode c_AckBook_hasEliciting 10 = .ok (.ifCond .eq (5), 3) := by decide +kernel
theorem d_AckBook_hasEliciting_15 : decode c_AckBook_hasEliciting 15 = .ok (.aload_n 1, 1) := by decide +kernel
theorem d_AckBook_hasEliciting_16 : decode c_AckBook_hasEliciting 16 = .ok (.getfield 303, 3) := by decide +kernel
theorem d_AckBook_hasEliciting_19 : decode c_AckBook_hasEliciting 19 = .ok (.astore_n 1, 1) := by decide +kernel
theorem d_AckBook_hasEliciting_20 : decode c_AckBook_hasEliciting 20 = .ok (.goto (-18), 3) := by decide +kernel
