theorem d_AckBook_Sent_markAcknowledged_9 : decode c_AckBook_Sent_markAcknowledged 9 = .ok (.iload_n 3, 1) := by decide +kernel
theorem d_AckBook_Sent_markAcknowledged_10 : decode c_AckBook_Sent_markAcknowledged 10 = .ok (.ifCond .lt (96), 3) := by decide +kernel
theorem d_AckBook_Sent_markAcknowledged_106 : decode c_AckBook_Sent_markAcknowledged 106 = .ok (.aload_n 2, 1) := by decide +kernel
theorem d_AckBook_Sent_markAcknowledged_107 : decode c_AckBook_Sent_markAcknowledged 107 = .ok (.areturn, 1) := by decide +kernel
theorem d_AckBook_Sent_markAcknowledged_13 : decode c_AckBook_Sent_markAcknowledged 13 = .ok (.aload_n 1, 1) := by decide +kernel
theorem d_AckBook_Sent_markAcknowledged_14 : decode c_AckBook_Sent_markAcknowledged 14 = .ok (.iload_n 3, 1) := by decide +kernel
theorem d_AckBook_Sent_markAcknowledged_15 : decode c_AckBook_Sent_markAcknowledged 15 = .ok (.invokevirtual 76, 3) := by decide +kernel
theorem d_AckBook_Sent_markAcknowledged_18 : decode c_AckBook_Sent_markAcknowledged 18 = .ok (.aload_n 0, 1) := by decide +kernel
theorem d_AckBook_Sent_markAcknowledged_19 : decode c_AckBook_Sent_markAcknowledged 19 = .ok (.getfield 24, 3) := by decide +kernel
theorem d_AckBook_Sent_markAcknowledged_22 : decode c_AckBook_Sent_markAcknowledged 22 = .ok (.invokevirtual 35, 3) := by decide +kernel
theorem d_AckBook_Sent_markAcknowledged_25 : decode c_AckBook_Sent_markAcknowledged 25 = .ok (.iconst (1), 1) := by decide +kernel
theorem d_AckBook_Sent_markAcknowledged_26 : decode c_AckBook_Sent_markAcknowledged 26 = .ok (.isub, 1) := by decide +kernel
theorem d_AckBook_Sent_markAcknowledged_27 : decode c_AckBook_Sent_markAcknowledged 27 = .ok (.i2l, 1) := by decide +kernel
theorem d_AckBook_Sent_markAcknowledged_28 : decode c_AckBook_Sent_markAcknowledged 28 = .ok (.invokestatic 80, 3) := by decide +kernel
theorem d_AckBook_Sent_markAcknowledged_31 : decode c_AckBook_Sent_markAcknowledged 31 = .ok (.lstore 4, 2) := by decide +kernel
theorem d_AckBook_Sent_markAcknowledged_33 : decode c_AckBook_Sent_markAcknowledged 33 = .ok (.aload_n 1, 1) := by decide +kernel
theorem d_AckBook_Sent_markAcknowledged_34 : decode c_AckBook_Sent_markAcknowledged 34 = .ok (.iload_n 3, 1) := by decide +kernel
theorem d_AckBook_Sent_markAcknowledged_35 : decode c_AckBook_Sent_markAcknowledged 35 = .ok (.invokevirtual 84, 3) := by decide +kernel
theorem d_AckBook_Sent_markAcknowledged_38 : decode c_AckBook_Sent_markAcknowledged 38 = .ok (.lstore 6, 2) := by decide +kernel
theorem d_AckBook_Sent_markAcknowledged_40 : decode c_AckBook_Sent_markAcknowledged 40 = .ok (.lload 6, 2) := by decide +kernel
theorem d_AckBook_Sent_markAcknowledged_42 : decode c_AckBook_Sent_markAcknowledged 42 = .ok (.lload 4, 2) := by decide +kernel
theorem d_AckBook_Sent_markAcknowledged_44 : decode c_AckBook_Sent_markAcknowledged 44 = .ok (.lcmp, 1) := by decide +kernel
theorem d_AckBook_Sent_markAcknowledged_45 : decode c_AckBook_Sent_markAcknowledged 45 = .ok (.ifCond .gt (55), 3) := by decide +kernel
theorem d_AckBook_Sent_markAcknowledged_100 : decode c_AckBook_Sent_markAcknowledged 100 = .ok (.iinc 3 (-1), 3) := by decide +kernel
theorem d_AckBook_Sent_markAcknowledged_103 : decode c_AckBook_Sent_markAcknowledged 103 = .ok (.goto (-94), 3) := by decide +kernel
theorem d_AckBook_Sent_markAcknowledged_48 : decode c_AckBook_Sent_markAcknowledged 48 = .ok (.aload_n 0, 1) := by decide +kernel
theorem d_AckBook_Sent_markAcknowledged_49 : decode c_AckBook_Sent_markAcknowledged 49 = .ok (.lload 6, 2) := by decide +kernel
theorem d_AckBook_Sent_markAcknowledged_51 : decode c_AckBook_Sent_markAcknowledged 51 = .ok (.invokevirtual 87, 3) := by decide +kernel
theorem d_AckBook_Sent_markAcknowledged_54 : decode c_AckBook_Sent_markAcknowledged 54 = .ok (.astore 8, 2) := by decide +kernel
theorem d_AckBook_Sent_markAcknowledged_56 : decode c_AckBook_Sent_markAcknowledged 56 = .ok (.aload 8, 2) := by decide +kernel
theorem d_AckBook_Sent_markAcknowledged_58 : decode c_AckBook_Sent_markAcknowledged 58 = .ok (.ifnull (33), 3) := by decide +kernel
theorem d_AckBook_Sent_markAcknowledged_61 : decode c_AckBook_Sent_markAcknowledged 61 = .ok (.aload 8, 2) := by decide +kernel
theorem d_AckBook_Sent_markAcknowledged_63 : decode c_AckBook_Sent_markAcknowledged 63 = .ok (.getfield 91, 3) := by decide +kernel
theorem d_AckBook_Sent_markAcknowledged_66 : decode c_AckBook_Sent_markAcknowledged 66 = .ok (.ifCond .ne (25), 3) := by decide +kernel
theorem d_AckBook_Sent_markAcknowledged_69 : decode c_AckBook_Sent_markAcknowledged 69 = .ok (.aload_n 0, 1) := by decide +kernel
theorem d_AckBook_Sent_markAcknowledged_70 : decode c_AckBook_Sent_markAcknowledged 70 = .ok (.aload 8, 2) := by decide +kernel
theorem d_AckBook_Sent_markAcknowledged_72 : decode c_AckBook_Sent_markAcknowledged 72 = .ok (.iconst (1), 1) := by decide +kernel
theorem d_AckBook_Sent_markAcknowledged_73 : decode c_AckBook_Sent_markAcknowledged 73 = .ok (.aload_n 0, 1) := by decide +kernel
theorem d_AckBook_Sent_markAcknowledged_74 : decode c_AckBook_Sent_markAcknowledged 74 = .ok (.getfield 12, 3) := by decide +kernel
theorem d_AckBook_Sent_markAcknowledged_77 : decode c_AckBook_Sent_markAcknowledged 77 = .ok (.invokevirtual 94, 3) := by decide +kernel
theorem d_AckBook_Sent_markAcknowledged_80 : decode c_AckBook_Sent_markAcknowledged 80 = .ok (.aload_n 2, 1) := by decide +kernel
theorem d_AckBook_Sent_markAcknowledged_81 : decode c_AckBook_Sent_markAcknowledged 81 = .ok (.ifnonnull (8), 3) := by decide +kernel
theorem d_AckBook_Sent_markAcknowledged_84 : decode c_AckBook_Sent_markAcknowledged 84 = .ok (.aload 8, 2) := by decide +kernel
theorem d_AckBook_Sent_markAcknowledged_86 : decode c_AckBook_Sent_markAcknowledged 86 = .ok (.goto (4), 3) := by decide +kernel
theorem d_AckBook_Sent_markAcknowledged_89 : decode c_AckBook_Sent_markAcknowledged 89 = .ok (.aload_n 2, 1) := by decide +kernel
theorem d_AckBook_Sent_markAcknowledged_0 : decode c_AckBook_Sent_markAcknowledged 0 = .ok (.aconst_null, 1) := by decide +kernel
theorem d_AckBook_Sent_markAcknowledged_1 : decode c_AckBook_Sent_markAcknowledged 1 = .ok (.astore_n 2, 1) := by decide +kernel
theorem d_AckBook_Sent_markAcknowledged_2 : decode c_AckBook_Sent_markAcknowledged 2 = .ok (.aload_n 1, 1) := by decide +kernel
theorem d_AckBook_Sent_markAcknowledged_3 : decode c_AckBook_Sent_markAcknowledged 3 = .ok (.getfield 71, 3) := by decide +kernel
theorem d_AckBook_Sent_markAcknowledged_6 : decode c_AckBook_Sent_markAcknowledged 6 = .ok (.iconst (1), 1) := by decide +kernel
theorem d_AckBook_Sent_markAcknowledged_7 : decode c_AckBook_Sent_markAcknowledged 7 = .ok (.isub, 1) := by decide +kernel
theorem d_AckBook_Sent_markAcknowledged_8 : decode c_AckBook_Sent_markAcknowledged 8 = .ok (.istore_n 3, 1) := by decide +kernel
theorem d_AckBook_hasEliciting_2 : decode c_AckBook_hasEliciting 2 = .ok (.aload_n 1, 1) := by decide +kernel
theorem d_AckBook_hasEliciting_3 : decode c_AckBook_hasEliciting 3 = .ok (.ifnull (20), 3) := by decide +kernel
theorem d_AckBook_hasEliciting_23 : decode c_AckBook_hasEliciting 23 = .ok (.iconst (0), 1) := by decide +kernel
theorem d_AckBook_hasEliciting_24 : decode c_AckBook_hasEliciting 24 = .ok (.ireturn, 1) := by decide +kernel
theorem d_AckBook_hasEliciting_6 : decode c_AckBook_hasEliciting 6 = .ok (.aload_n 1, 1) := by decide +kernel
theorem d_AckBook_hasEliciting_7 : decode c_AckBook_hasEliciting 7 = .ok (.getfield 300, 3) := by decide +kernel
theorem d_AckBook_hasEliciting_10 : decode c_AckBook_hasEliciting 10 = .ok (.ifCond .eq (5), 3) := by decide +kernel
theorem d_AckBook_hasEliciting_15 : decode c_AckBook_hasEliciting 15 = .ok (.aload_n 1, 1) := by decide +kernel
theorem d_AckBook_hasEliciting_16 : decode c_AckBook_hasEliciting 16 = .ok (.getfield 303, 3) := by decide +kernel
theorem d_AckBook_hasEliciting_19 : decode c_AckBook_hasEliciting 19 = .ok (.astore_n 1, 1) := by decide +kernel
theorem d_AckBook_hasEliciting_20 : decode c_AckBook_hasEliciting 20 = .ok (.goto (-18), 3) := by decide +kernel
theorem d_AckBook_hasEliciting_13 : decode c_AckBook_hasEliciting 13 = .ok (.iconst (1), 1) := by decide +kernel
theorem d_AckBook_hasEliciting_14 : decode c_AckBook_hasEliciting 14 = .ok (.ireturn, 1) := by decide +kernel
theorem d_AckBook_hasEliciting_0 : decode c_AckBook_hasEliciting 0 = .ok (.aload_n 0, 1) := by decide +kernel
theorem d_AckBook_hasEliciting_1 : decode c_AckBook_hasEliciting 1 = .ok (.astore_n 1, 1) := by decide +kernel
theorem d_AckBook_Way_take_75 : decode c_AckBook_Way_take 75 = .ok (.istore 4, 2) := by decide +kernel
theorem d_AckBook_Way_take_77 : decode c_AckBook_Way_take 77 = .ok (.aload_n 0, 1) := by decide +kernel
theorem d_AckBook_Way_take_78 : decode c_AckBook_Way_take 78 = .ok (.getfield 9, 3) := by decide +kernel
theorem d_AckBook_Way_take_81 : decode c_AckBook_Way_take 81 = .ok (.bipush (8), 2) := by decide +kernel
theorem d_AckBook_Way_take_83 : decode c_AckBook_Way_take 83 = .ok (.idiv, 1) := by decide +kernel
theorem d_AckBook_Way_take_84 : decode c_AckBook_Way_take 84 = .ok (.iload 4, 2) := by decide +kernel
theorem d_AckBook_Way_take_86 : decode c_AckBook_Way_take 86 = .ok (.isub, 1) := by decide +kernel
theorem d_AckBook_Way_take_87 : decode c_AckBook_Way_take 87 = .ok (.invokestatic 33, 3) := by decide +kernel
theorem d_AckBook_Way_take_90 : decode c_AckBook_Way_take 90 = .ok (.istore 5, 2) := by decide +kernel
theorem d_AckBook_Way_take_92 : decode c_AckBook_Way_take 92 = .ok (.aload_n 0, 1) := by decide +kernel
theorem d_AckBook_Way_take_93 : decode c_AckBook_Way_take 93 = .ok (.dup, 1) := by decide +kernel
theorem d_AckBook_Way_take_94 : decode c_AckBook_Way_take 94 = .ok (.getfield 15, 3) := by decide +kernel
theorem d_AckBook_Way_take_97 : decode c_AckBook_Way_take 97 = .ok (.iload 5, 2) := by decide +kernel
theorem d_AckBook_Way_take_99 : decode c_AckBook_Way_take 99 = .ok (.aload_n 0, 1) := by decide +kernel
theorem d_AckBook_Way_take_100 : decode c_AckBook_Way_take 100 = .ok (.getfield 15, 3) := by decide +kernel
theorem d_AckBook_Way_take_103 : decode c_AckBook_Way_take 103 = .ok (.iconst (4), 1) := by decide +kernel
theorem d_AckBook_Way_take_104 : decode c_AckBook_Way_take 104 = .ok (.idiv, 1) := by decide +kernel
theorem d_AckBook_Way_take_105 : decode c_AckBook_Way_take 105 = .ok (.isub, 1) := by decide +kernel
theorem d_AckBook_Way_take_106 : decode c_AckBook_Way_take 106 = .ok (.iadd, 1) := by decide +kernel
theorem d_AckBook_Way_take_107 : decode c_AckBook_Way_take 107 = .ok (.putfield 15, 3) := by decide +kernel
theorem d_AckBook_Way_take_110 : decode c_AckBook_Way_take 110 = .ok (.aload_n 0, 1) := by decide +kernel
theorem d_AckBook_Way_take_111 : decode c_AckBook_Way_take 111 = .ok (.dup, 1) := by decide +kernel
theorem d_AckBook_Way_take_112 : decode c_AckBook_Way_take 112 = .ok (.getfield 9, 3) := by decide +kernel
theorem d_AckBook_Way_take_115 : decode c_AckBook_Way_take 115 = .ok (.iload 4, 2) := by decide +kernel
theorem d_AckBook_Way_take_117 : decode c_AckBook_Way_take 117 = .ok (.aload_n 0, 1) := by decide +kernel
theorem d_AckBook_Way_take_118 : decode c_AckBook_Way_take 118 = .ok (.getfield 9, 3) := by decide +kernel
theorem d_AckBook_Way_take_121 : decode c_AckBook_Way_take 121 = .ok (.bipush (8), 2) := by decide +kernel
theorem d_AckBook_Way_take_123 : decode c_AckBook_Way_take 123 = .ok (.idiv, 1) := by decide +kernel
theorem d_AckBook_Way_take_124 : decode c_AckBook_Way_take 124 = .ok (.isub, 1) := by decide +kernel
theorem d_AckBook_Way_take_125 : decode c_AckBook_Way_take 125 = .ok (.iadd, 1) := by decide +kernel
theorem d_AckBook_Way_take_126 : decode c_AckBook_Way_take 126 = .ok (.putfield 9, 3) := by decide +kernel
theorem d_AckBook_Way_take_129 : decode c_AckBook_Way_take 129 = .ok (.return_, 1) := by decide +kernel
theorem d_AckBook_Way_take_26 : decode c_AckBook_Way_take 26 = .ok (.putfield 18, 3) := by decide +kernel
theorem d_AckBook_Way_take_29 : decode c_AckBook_Way_take 29 = .ok (.aload_n 0, 1) := by decide +kernel
theorem d_AckBook_Way_take_30 : decode c_AckBook_Way_take 30 = .ok (.getfield 21, 3) := by decide +kernel
theorem d_AckBook_Way_take_33 : decode c_AckBook_Way_take 33 = .ok (.iconst (-1), 1) := by decide +kernel
theorem d_AckBook_Way_take_34 : decode c_AckBook_Way_take 34 = .ok (.if_icmp .ne (24), 3) := by decide +kernel
theorem d_AckBook_Way_take_37 : decode c_AckBook_Way_take 37 = .ok (.aload_n 0, 1) := by decide +kernel
theorem d_AckBook_Way_take_38 : decode c_AckBook_Way_take 38 = .ok (.iload_n 3, 1) := by decide +kernel
theorem d_AckBook_Way_take_39 : decode c_AckBook_Way_take 39 = .ok (.putfield 21, 3) := by decide +kernel
theorem d_AckBook_Way_take_42 : decode c_AckBook_Way_take 42 = .ok (.aload_n 0, 1) := by decide +kernel
theorem d_AckBook_Way_take_43 : decode c_AckBook_Way_take 43 = .ok (.bipush (8), 2) := by decide +kernel
theorem d_AckBook_Way_take_45 : decode c_AckBook_Way_take 45 = .ok (.iload_n 1, 1) := by decide +kernel
theorem d_AckBook_Way_take_46 : decode c_AckBook_Way_take 46 = .ok (.imul, 1) := by decide +kernel
theorem d_AckBook_Way_take_47 : decode c_AckBook_Way_take 47 = .ok (.putfield 9, 3) := by decide +kernel
theorem d_AckBook_Way_take_50 : decode c_AckBook_Way_take 50 = .ok (.aload_n 0, 1) := by decide +kernel
theorem d_AckBook_Way_take_51 : decode c_AckBook_Way_take 51 = .ok (.iconst (2), 1) := by decide +kernel
theorem d_AckBook_Way_take_52 : decode c_AckBook_Way_take 52 = .ok (.iload_n 1, 1) := by decide +kernel
theorem d_AckBook_Way_take_53 : decode c_AckBook_Way_take 53 = .ok (.imul, 1) := by decide +kernel
theorem d_AckBook_Way_take_54 : decode c_AckBook_Way_take 54 = .ok (.putfield 15, 3) := by decide +kernel
theorem d_AckBook_Way_take_57 : decode c_AckBook_Way_take 57 = .ok (.return_, 1) := by decide +kernel
theorem d_AckBook_Way_take_58 : decode c_AckBook_Way_take 58 = .ok (.iload_n 1, 1) := by decide +kernel
theorem d_AckBook_Way_take_59 : decode c_AckBook_Way_take 59 = .ok (.aload_n 0, 1) := by decide +kernel
