theorem d_AckBook_Sent_wasCutOff_3 : decode c_AckBook_Sent_wasCutOff 3 = .ok (.aconst_null, 1) := by decide +kernel
theorem d_AckBook_Sent_wasCutOff_4 : decode c_AckBook_Sent_wasCutOff 4 = .ok (.astore 5, 2) := by decide +kernel
theorem d_AckBook_Sent_wasCutOff_6 : decode c_AckBook_Sent_wasCutOff 6 = .ok (.aload_n 1, 1) := by decide +kernel
theorem d_AckBook_Sent_wasCutOff_7 : decode c_AckBook_Sent_wasCutOff 7 = .ok (.astore 6, 2) := by decide +kernel
theorem d_AckBook_Flow_collapse_0 : decode c_AckBook_Flow_collapse 0 = .ok (.aload_n 0, 1) := by decide +kernel
theorem d_AckBook_Flow_collapse_1 : decode c_AckBook_Flow_collapse 1 = .ok (.sipush (2400), 3) := by decide +kernel
theorem d_AckBook_Flow_collapse_4 : decode c_AckBook_Flow_collapse 4 = .ok (.putfield 9, 3) := by decide +kernel
theorem d_AckBook_Flow_collapse_7 : decode c_AckBook_Flow_collapse 7 = .ok (.aload_n 0, 1) := by decide +kernel
theorem d_AckBook_Flow_collapse_8 : decode c_AckBook_Flow_collapse 8 = .ok (.iconst (-1), 1) := by decide +kernel
theorem d_AckBook_Flow_collapse_9 : decode c_AckBook_Flow_collapse 9 = .ok (.putfield 18, 3) := by decide +kernel
theorem d_AckBook_Flow_collapse_12 : decode c_AckBook_Flow_collapse 12 = .ok (.return_, 1) := by decide +kernel
theorem d_AckBook_lookForLosses_0 : decode c_AckBook_lookForLosses 0 = .ok (.aload_n 1, 1) := by decide +kernel
theorem d_AckBook_lookForLosses_1 : decode c_AckBook_lookForLosses 1 = .ok (.aload_n 0, 1) := by decide +kernel
theorem d_AckBook_lookForLosses_2 : decode c_AckBook_lookForLosses 2 = .ok (.getfield 73, 3) := by decide +kernel
theorem d_AckBook_lookForLosses_5 : decode c_AckBook_lookForLosses 5 = .ok (.aload_n 0, 1) := by decide +kernel
theorem d_AckBook_lookForLosses_6 : decode c_AckBook_lookForLosses 6 = .ok (.getfield 28, 3) := by decide +kernel
theorem d_AckBook_lookForLosses_9 : decode c_AckBook_lookForLosses 9 = .ok (.invokevirtual 243, 3) := by decide +kernel
theorem d_AckBook_lookForLosses_12 : decode c_AckBook_lookForLosses 12 = .ok (.invokevirtual 307, 3) := by decide +kernel
theorem d_AckBook_lookForLosses_15 : decode c_AckBook_lookForLosses 15 = .ok (.astore_n 2, 1) := by decide +kernel
theorem d_AckBook_lookForLosses_16 : decode c_AckBook_lookForLosses 16 = .ok (.aload_n 2, 1) := by decide +kernel
theorem d_AckBook_lookForLosses_17 : decode c_AckBook_lookForLosses 17 = .ok (.ifnonnull (4), 3) := by decide +kernel
theorem d_AckBook_lookForLosses_20 : decode c_AckBook_lookForLosses 20 = .ok (.return_, 1) := by decide +kernel
theorem d_AckBook_lookForLosses_21 : decode c_AckBook_lookForLosses 21 = .ok (.aload_n 0, 1) := by decide +kernel
theorem d_AckBook_lookForLosses_22 : decode c_AckBook_lookForLosses 22 = .ok (.getfield 35, 3) := by decide +kernel
theorem d_AckBook_lookForLosses_25 : decode c_AckBook_lookForLosses 25 = .ok (.aload_n 2, 1) := by decide +kernel
theorem d_AckBook_lookForLosses_26 : decode c_AckBook_lookForLosses 26 = .ok (.aload_n 0, 1) := by decide +kernel
theorem d_AckBook_lookForLosses_27 : decode c_AckBook_lookForLosses 27 = .ok (.getfield 73, 3) := by decide +kernel
theorem d_AckBook_lookForLosses_30 : decode c_AckBook_lookForLosses 30 = .ok (.invokevirtual 311, 3) := by decide +kernel
theorem d_AckBook_lookForLosses_33 : decode c_AckBook_lookForLosses 33 = .ok (.aload_n 0, 1) := by decide +kernel
theorem d_AckBook_lookForLosses_34 : decode c_AckBook_lookForLosses 34 = .ok (.getfield 28, 3) := by decide +kernel
theorem d_AckBook_lookForLosses_37 : decode c_AckBook_lookForLosses 37 = .ok (.getfield 315, 3) := by decide +kernel
theorem d_AckBook_lookForLosses_40 : decode c_AckBook_lookForLosses 40 = .ok (.iconst (-1), 1) := by decide +kernel
theorem d_AckBook_lookForLosses_41 : decode c_AckBook_lookForLosses 41 = .ok (.if_icmp .eq (37), 3) := by decide +kernel
theorem d_AckBook_lookForLosses_78 : decode c_AckBook_lookForLosses 78 = .ok (.return_, 1) := by decide +kernel
theorem d_AckBook_lookForLosses_44 : decode c_AckBook_lookForLosses 44 = .ok (.aload_n 1, 1) := by decide +kernel
theorem d_AckBook_lookForLosses_45 : decode c_AckBook_lookForLosses 45 = .ok (.aload_n 2, 1) := by decide +kernel
theorem d_AckBook_lookForLosses_46 : decode c_AckBook_lookForLosses 46 = .ok (.aload_n 0, 1) := by decide +kernel
theorem d_AckBook_lookForLosses_47 : decode c_AckBook_lookForLosses 47 = .ok (.getfield 28, 3) := by decide +kernel
theorem d_AckBook_lookForLosses_50 : decode c_AckBook_lookForLosses 50 = .ok (.getfield 315, 3) := by decide +kernel
theorem d_AckBook_lookForLosses_53 : decode c_AckBook_lookForLosses 53 = .ok (.iconst (3), 1) := by decide +kernel
theorem d_AckBook_lookForLosses_54 : decode c_AckBook_lookForLosses 54 = .ok (.aload_n 0, 1) := by decide +kernel
theorem d_AckBook_lookForLosses_55 : decode c_AckBook_lookForLosses 55 = .ok (.getfield 28, 3) := by decide +kernel
theorem d_AckBook_lookForLosses_58 : decode c_AckBook_lookForLosses 58 = .ok (.invokevirtual 318, 3) := by decide +kernel
theorem d_AckBook_lookForLosses_61 : decode c_AckBook_lookForLosses 61 = .ok (.bipush (25), 2) := by decide +kernel
theorem d_AckBook_lookForLosses_63 : decode c_AckBook_lookForLosses 63 = .ok (.iadd, 1) := by decide +kernel
theorem d_AckBook_lookForLosses_64 : decode c_AckBook_lookForLosses 64 = .ok (.imul, 1) := by decide +kernel
theorem d_AckBook_lookForLosses_65 : decode c_AckBook_lookForLosses 65 = .ok (.invokevirtual 320, 3) := by decide +kernel
theorem d_AckBook_lookForLosses_68 : decode c_AckBook_lookForLosses 68 = .ok (.ifCond .eq (10), 3) := by decide +kernel
theorem d_AckBook_lookForLosses_71 : decode c_AckBook_lookForLosses 71 = .ok (.aload_n 0, 1) := by decide +kernel
theorem d_AckBook_lookForLosses_72 : decode c_AckBook_lookForLosses 72 = .ok (.getfield 35, 3) := by decide +kernel
theorem d_AckBook_lookForLosses_75 : decode c_AckBook_lookForLosses 75 = .ok (.invokevirtual 324, 3) := by decide +kernel
theorem d_AckBook_tick_0 : decode c_AckBook_tick 0 = .ok (.aload_n 0, 1) := by decide +kernel
theorem d_AckBook_tick_1 : decode c_AckBook_tick 1 = .ok (.dup, 1) := by decide +kernel
theorem d_AckBook_tick_2 : decode c_AckBook_tick 2 = .ok (.getfield 73, 3) := by decide +kernel
theorem d_AckBook_tick_5 : decode c_AckBook_tick 5 = .ok (.iconst (1), 1) := by decide +kernel
theorem d_AckBook_tick_6 : decode c_AckBook_tick 6 = .ok (.iadd, 1) := by decide +kernel
theorem d_AckBook_tick_7 : decode c_AckBook_tick 7 = .ok (.putfield 73, 3) := by decide +kernel
theorem d_AckBook_tick_10 : decode c_AckBook_tick 10 = .ok (.aload_n 0, 1) := by decide +kernel
theorem d_AckBook_tick_11 : decode c_AckBook_tick 11 = .ok (.iconst (0), 1) := by decide +kernel
theorem d_AckBook_tick_12 : decode c_AckBook_tick 12 = .ok (.invokevirtual 129, 3) := by decide +kernel
theorem d_AckBook_tick_15 : decode c_AckBook_tick 15 = .ok (.astore_n 1, 1) := by decide +kernel
theorem d_AckBook_tick_16 : decode c_AckBook_tick 16 = .ok (.aload_n 1, 1) := by decide +kernel
theorem d_AckBook_tick_17 : decode c_AckBook_tick 17 = .ok (.ifnull (13), 3) := by decide +kernel
theorem d_AckBook_tick_30 : decode c_AckBook_tick 30 = .ok (.aload_n 0, 1) := by decide +kernel
theorem d_AckBook_tick_31 : decode c_AckBook_tick 31 = .ok (.iconst (1), 1) := by decide +kernel
theorem d_AckBook_tick_32 : decode c_AckBook_tick 32 = .ok (.invokevirtual 129, 3) := by decide +kernel
theorem d_AckBook_tick_35 : decode c_AckBook_tick 35 = .ok (.astore_n 2, 1) := by decide +kernel
theorem d_AckBook_tick_36 : decode c_AckBook_tick 36 = .ok (.aload_n 2, 1) := by decide +kernel
theorem d_AckBook_tick_37 : decode c_AckBook_tick 37 = .ok (.ifnull (25), 3) := by decide +kernel
theorem d_AckBook_tick_62 : decode c_AckBook_tick 62 = .ok (.iconst (0), 1) := by decide +kernel
theorem d_AckBook_tick_63 : decode c_AckBook_tick 63 = .ok (.ireturn, 1) := by decide +kernel
theorem d_AckBook_tick_40 : decode c_AckBook_tick 40 = .ok (.aload_n 0, 1) := by decide +kernel
theorem d_AckBook_tick_41 : decode c_AckBook_tick 41 = .ok (.aload_n 0, 1) := by decide +kernel
theorem d_AckBook_tick_42 : decode c_AckBook_tick 42 = .ok (.getfield 137, 3) := by decide +kernel
theorem d_AckBook_tick_45 : decode c_AckBook_tick 45 = .ok (.iconst (1), 1) := by decide +kernel
theorem d_AckBook_tick_46 : decode c_AckBook_tick 46 = .ok (.iadd, 1) := by decide +kernel
theorem d_AckBook_tick_47 : decode c_AckBook_tick 47 = .ok (.bipush (10), 2) := by decide +kernel
theorem d_AckBook_tick_49 : decode c_AckBook_tick 49 = .ok (.invokestatic 140, 3) := by decide +kernel
theorem d_AckBook_tick_52 : decode c_AckBook_tick 52 = .ok (.putfield 137, 3) := by decide +kernel
theorem d_AckBook_tick_55 : decode c_AckBook_tick 55 = .ok (.iconst (2), 1) := by decide +kernel
theorem d_AckBook_tick_56 : decode c_AckBook_tick 56 = .ok (.aload_n 2, 1) := by decide +kernel
theorem d_AckBook_tick_57 : decode c_AckBook_tick 57 = .ok (.getfield 146, 3) := by decide +kernel
theorem d_AckBook_tick_60 : decode c_AckBook_tick 60 = .ok (.iadd, 1) := by decide +kernel
theorem d_AckBook_tick_61 : decode c_AckBook_tick 61 = .ok (.ireturn, 1) := by decide +kernel
theorem d_AckBook_tick_20 : decode c_AckBook_tick 20 = .ok (.aload_n 0, 1) := by decide +kernel
theorem d_AckBook_tick_21 : decode c_AckBook_tick 21 = .ok (.aload_n 1, 1) := by decide +kernel
theorem d_AckBook_tick_22 : decode c_AckBook_tick 22 = .ok (.getfield 56, 3) := by decide +kernel
theorem d_AckBook_tick_25 : decode c_AckBook_tick 25 = .ok (.invokevirtual 133, 3) := by decide +kernel
theorem d_AckBook_tick_28 : decode c_AckBook_tick 28 = .ok (.iconst (1), 1) := by decide +kernel
theorem d_AckBook_tick_29 : decode c_AckBook_tick 29 = .ok (.ireturn, 1) := by decide +kernel
theorem d_AckBook_confirm_0 : decode c_AckBook_confirm 0 = .ok (.aload_n 0, 1) := by decide +kernel
theorem d_AckBook_confirm_1 : decode c_AckBook_confirm 1 = .ok (.iconst (1), 1) := by decide +kernel
theorem d_AckBook_confirm_2 : decode c_AckBook_confirm 2 = .ok (.putfield 165, 3) := by decide +kernel
theorem d_AckBook_confirm_5 : decode c_AckBook_confirm 5 = .ok (.return_, 1) := by decide +kernel
theorem d_AckBook_anxious_0 : decode c_AckBook_anxious 0 = .ok (.aload_n 0, 1) := by decide +kernel
theorem d_AckBook_anxious_1 : decode c_AckBook_anxious 1 = .ok (.iload_n 1, 1) := by decide +kernel
theorem d_AckBook_anxious_2 : decode c_AckBook_anxious 2 = .ok (.putfield 168, 3) := by decide +kernel
theorem d_AckBook_anxious_5 : decode c_AckBook_anxious 5 = .ok (.return_, 1) := by decide +kernel
theorem d_AckBook_known_0 : decode c_AckBook_known 0 = .ok (.iload_n 1, 1) := by decide +kernel
theorem d_AckBook_known_1 : decode c_AckBook_known 1 = .ok (.ifCond .lt (12), 3) := by decide +kernel
theorem d_AckBook_known_13 : decode c_AckBook_known 13 = .ok (.new 43, 3) := by decide +kernel
theorem d_AckBook_known_16 : decode c_AckBook_known 16 = .ok (.dup, 1) := by decide +kernel
theorem d_AckBook_known_17 : decode c_AckBook_known 17 = .ok (.ldc_w 274, 3) := by decide +kernel
theorem d_AckBook_known_20 : decode c_AckBook_known 20 = .ok (.invokespecial 47, 3) := by decide +kernel
theorem d_AckBook_known_23 : decode c_AckBook_known 23 = .ok (.athrow, 1) := by decide +kernel
theorem d_AckBook_known_4 : decode c_AckBook_known 4 = .ok (.iload_n 1, 1) := by decide +kernel
theorem d_AckBook_known_5 : decode c_AckBook_known 5 = .ok (.aload_n 0, 1) := by decide +kernel
theorem d_AckBook_known_6 : decode c_AckBook_known 6 = .ok (.getfield 11, 3) := by decide +kernel
theorem d_AckBook_known_9 : decode c_AckBook_known 9 = .ok (.arraylength, 1) := by decide +kernel
theorem d_AckBook_known_10 : decode c_AckBook_known 10 = .ok (.if_icmp .lt (14), 3) := by decide +kernel
theorem d_AckBook_known_24 : decode c_AckBook_known 24 = .ok (.aload_n 0, 1) := by decide +kernel
theorem d_AckBook_known_25 : decode c_AckBook_known 25 = .ok (.getfield 11, 3) := by decide +kernel
theorem d_AckBook_known_28 : decode c_AckBook_known 28 = .ok (.iload_n 1, 1) := by decide +kernel
theorem d_AckBook_known_29 : decode c_AckBook_known 29 = .ok (.aaload, 1) := by decide +kernel
theorem d_AckBook_known_30 : decode c_AckBook_known 30 = .ok (.areturn, 1) := by decide +kernel
theorem d_AckBook_refuseDiscarded_0 : decode c_AckBook_refuseDiscarded 0 = .ok (.aload_n 0, 1) := by decide +kernel
theorem d_AckBook_refuseDiscarded_1 : decode c_AckBook_refuseDiscarded 1 = .ok (.getfield 149, 3) := by decide +kernel
theorem d_AckBook_refuseDiscarded_4 : decode c_AckBook_refuseDiscarded 4 = .ok (.ifCond .eq (14), 3) := by decide +kernel
theorem d_AckBook_refuseDiscarded_18 : decode c_AckBook_refuseDiscarded 18 = .ok (.return_, 1) := by decide +kernel
theorem d_AckBook_refuseDiscarded_7 : decode c_AckBook_refuseDiscarded 7 = .ok (.new 66, 3) := by decide +kernel
