theorem d_AckBook_settle_33 : decode c_AckBook_settle 33 = .ok (.invokevirtual 281, 3) := by decide +kernel
theorem d_AckBook_settle_36 : decode c_AckBook_settle 36 = .ok (.astore 5, 2) := by decide +kernel
theorem d_AckBook_settle_38 : decode c_AckBook_settle 38 = .ok (.aload 5, 2) := by decide +kernel
theorem d_AckBook_settle_40 : decode c_AckBook_settle 40 = .ok (.ifnonnull (5), 3) := by decide +kernel
theorem d_AckBook_settle_43 : decode c_AckBook_settle 43 = .ok (.iconst (0), 1) := by decide +kernel
theorem d_AckBook_settle_44 : decode c_AckBook_settle 44 = .ok (.ireturn, 1) := by decide +kernel
theorem d_AckBook_settle_45 : decode c_AckBook_settle 45 = .ok (.iload 4, 2) := by decide +kernel
theorem d_AckBook_settle_47 : decode c_AckBook_settle 47 = .ok (.ifCond .eq (53), 3) := by decide +kernel
theorem d_AckBook_settle_50 : decode c_AckBook_settle 50 = .ok (.aload 5, 2) := by decide +kernel
theorem d_AckBook_settle_52 : decode c_AckBook_settle 52 = .ok (.invokestatic 285, 3) := by decide +kernel
theorem d_AckBook_settle_55 : decode c_AckBook_settle 55 = .ok (.ifCond .eq (45), 3) := by decide +kernel
theorem d_AckBook_settle_58 : decode c_AckBook_settle 58 = .ok (.aload_n 1, 1) := by decide +kernel
theorem d_AckBook_settle_59 : decode c_AckBook_settle 59 = .ok (.getfield 146, 3) := by decide +kernel
theorem d_AckBook_settle_62 : decode c_AckBook_settle 62 = .ok (.iconst (2), 1) := by decide +kernel
theorem d_AckBook_settle_63 : decode c_AckBook_settle 63 = .ok (.if_icmp .ne (12), 3) := by decide +kernel
theorem d_AckBook_settle_66 : decode c_AckBook_settle 66 = .ok (.iload_n 3, 1) := by decide +kernel
theorem d_AckBook_settle_67 : decode c_AckBook_settle 67 = .ok (.bipush (25), 2) := by decide +kernel
theorem d_AckBook_settle_69 : decode c_AckBook_settle 69 = .ok (.invokestatic 140, 3) := by decide +kernel
theorem d_AckBook_settle_72 : decode c_AckBook_settle 72 = .ok (.goto (4), 3) := by decide +kernel
theorem d_AckBook_settle_75 : decode c_AckBook_settle 75 = .ok (.iconst (0), 1) := by decide +kernel
theorem d_AckBook_settle_0 : decode c_AckBook_settle 0 = .ok (.aload_n 2, 1) := by decide +kernel
theorem d_AckBook_settle_1 : decode c_AckBook_settle 1 = .ok (.getfield 183, 3) := by decide +kernel
theorem d_AckBook_settle_4 : decode c_AckBook_settle 4 = .ok (.ifCond .ne (7), 3) := by decide +kernel
theorem d_AckBook_settle_7 : decode c_AckBook_settle 7 = .ok (.iconst (1), 1) := by decide +kernel
theorem d_AckBook_settle_8 : decode c_AckBook_settle 8 = .ok (.goto (4), 3) := by decide +kernel
theorem d_AckBook_settle_11 : decode c_AckBook_settle 11 = .ok (.iconst (0), 1) := by decide +kernel
theorem d_AckBook_acknowledge_0 : decode c_AckBook_acknowledge 0 = .ok (.aload_n 0, 1) := by decide +kernel
theorem d_AckBook_acknowledge_1 : decode c_AckBook_acknowledge 1 = .ok (.getfield 21, 3) := by decide +kernel
theorem d_AckBook_acknowledge_4 : decode c_AckBook_acknowledge 4 = .ok (.invokevirtual 109, 3) := by decide +kernel
theorem d_AckBook_acknowledge_7 : decode c_AckBook_acknowledge 7 = .ok (.aload_n 0, 1) := by decide +kernel
theorem d_AckBook_acknowledge_8 : decode c_AckBook_acknowledge 8 = .ok (.iload_n 1, 1) := by decide +kernel
theorem d_AckBook_acknowledge_9 : decode c_AckBook_acknowledge 9 = .ok (.invokevirtual 39, 3) := by decide +kernel
theorem d_AckBook_acknowledge_12 : decode c_AckBook_acknowledge 12 = .ok (.astore_n 3, 1) := by decide +kernel
theorem d_AckBook_acknowledge_13 : decode c_AckBook_acknowledge 13 = .ok (.aload_n 3, 1) := by decide +kernel
theorem d_AckBook_acknowledge_14 : decode c_AckBook_acknowledge 14 = .ok (.invokestatic 52, 3) := by decide +kernel
theorem d_AckBook_acknowledge_17 : decode c_AckBook_acknowledge 17 = .ok (.iload_n 2, 1) := by decide +kernel
theorem d_AckBook_acknowledge_18 : decode c_AckBook_acknowledge 18 = .ok (.ifCond .lt (9), 3) := by decide +kernel
theorem d_AckBook_acknowledge_27 : decode c_AckBook_acknowledge 27 = .ok (.new 43, 3) := by decide +kernel
theorem d_AckBook_acknowledge_30 : decode c_AckBook_acknowledge 30 = .ok (.dup, 1) := by decide +kernel
theorem d_AckBook_acknowledge_31 : decode c_AckBook_acknowledge 31 = .ok (.ldc 113, 2) := by decide +kernel
theorem d_AckBook_acknowledge_33 : decode c_AckBook_acknowledge 33 = .ok (.invokespecial 47, 3) := by decide +kernel
theorem d_AckBook_acknowledge_36 : decode c_AckBook_acknowledge 36 = .ok (.athrow, 1) := by decide +kernel
theorem d_AckBook_acknowledge_21 : decode c_AckBook_acknowledge 21 = .ok (.iload_n 2, 1) := by decide +kernel
theorem d_AckBook_acknowledge_22 : decode c_AckBook_acknowledge 22 = .ok (.ldc 112, 2) := by decide +kernel
theorem d_AckBook_acknowledge_24 : decode c_AckBook_acknowledge 24 = .ok (.if_icmp .le (13), 3) := by decide +kernel
theorem d_AckBook_acknowledge_37 : decode c_AckBook_acknowledge 37 = .ok (.aload_n 3, 1) := by decide +kernel
theorem d_AckBook_acknowledge_38 : decode c_AckBook_acknowledge 38 = .ok (.getfield 56, 3) := by decide +kernel
theorem d_AckBook_acknowledge_41 : decode c_AckBook_acknowledge 41 = .ok (.aload_n 0, 1) := by decide +kernel
theorem d_AckBook_acknowledge_42 : decode c_AckBook_acknowledge 42 = .ok (.getfield 21, 3) := by decide +kernel
theorem d_AckBook_acknowledge_45 : decode c_AckBook_acknowledge 45 = .ok (.invokevirtual 115, 3) := by decide +kernel
theorem d_AckBook_acknowledge_48 : decode c_AckBook_acknowledge 48 = .ok (.invokevirtual 119, 3) := by decide +kernel
theorem d_AckBook_acknowledge_51 : decode c_AckBook_acknowledge 51 = .ok (.astore 4, 2) := by decide +kernel
theorem d_AckBook_acknowledge_53 : decode c_AckBook_acknowledge 53 = .ok (.aload 4, 2) := by decide +kernel
theorem d_AckBook_acknowledge_55 : decode c_AckBook_acknowledge 55 = .ok (.ifnonnull (13), 3) := by decide +kernel
theorem d_AckBook_acknowledge_58 : decode c_AckBook_acknowledge 58 = .ok (.new 43, 3) := by decide +kernel
theorem d_AckBook_acknowledge_61 : decode c_AckBook_acknowledge 61 = .ok (.dup, 1) := by decide +kernel
theorem d_AckBook_acknowledge_62 : decode c_AckBook_acknowledge 62 = .ok (.ldc 123, 2) := by decide +kernel
theorem d_AckBook_acknowledge_64 : decode c_AckBook_acknowledge 64 = .ok (.invokespecial 47, 3) := by decide +kernel
theorem d_AckBook_acknowledge_67 : decode c_AckBook_acknowledge 67 = .ok (.athrow, 1) := by decide +kernel
theorem d_AckBook_acknowledge_68 : decode c_AckBook_acknowledge 68 = .ok (.aload_n 0, 1) := by decide +kernel
theorem d_AckBook_acknowledge_69 : decode c_AckBook_acknowledge 69 = .ok (.aload_n 3, 1) := by decide +kernel
theorem d_AckBook_acknowledge_70 : decode c_AckBook_acknowledge 70 = .ok (.aload 4, 2) := by decide +kernel
theorem d_AckBook_acknowledge_72 : decode c_AckBook_acknowledge 72 = .ok (.iload_n 2, 1) := by decide +kernel
theorem d_AckBook_acknowledge_73 : decode c_AckBook_acknowledge 73 = .ok (.invokevirtual 125, 3) := by decide +kernel
theorem d_AckBook_acknowledge_76 : decode c_AckBook_acknowledge 76 = .ok (.ireturn, 1) := by decide +kernel
theorem d_AckBookLaw_acknowledge_0 : decode c_AckBookLaw_acknowledge 0 = .ok (.aload_n 3, 1) := by decide +kernel
theorem d_AckBookLaw_acknowledge_1 : decode c_AckBookLaw_acknowledge 1 = .ok (.iconst (0), 1) := by decide +kernel
theorem d_AckBookLaw_acknowledge_2 : decode c_AckBookLaw_acknowledge 2 = .ok (.aload_n 0, 1) := by decide +kernel
theorem d_AckBookLaw_acknowledge_3 : decode c_AckBookLaw_acknowledge 3 = .ok (.iload_n 1, 1) := by decide +kernel
theorem d_AckBookLaw_acknowledge_4 : decode c_AckBookLaw_acknowledge 4 = .ok (.iload_n 2, 1) := by decide +kernel
theorem d_AckBookLaw_acknowledge_5 : decode c_AckBookLaw_acknowledge 5 = .ok (.invokevirtual 21, 3) := by decide +kernel
theorem d_AckBookLaw_acknowledge_8 : decode c_AckBookLaw_acknowledge 8 = .ok (.i2l, 1) := by decide +kernel
theorem d_AckBookLaw_acknowledge_9 : decode c_AckBookLaw_acknowledge 9 = .ok (.lastore, 1) := by decide +kernel
theorem d_AckBookLaw_acknowledge_10 : decode c_AckBookLaw_acknowledge 10 = .ok (.goto (11), 3) := by decide +kernel
theorem d_AckBookLaw_acknowledge_21 : decode c_AckBookLaw_acknowledge 21 = .ok (.iconst (0), 1) := by decide +kernel
theorem d_AckBookLaw_acknowledge_22 : decode c_AckBookLaw_acknowledge 22 = .ok (.ireturn, 1) := by decide +kernel
theorem d_AckBookLaw_acknowledge_13 : decode c_AckBookLaw_acknowledge 13 = .ok (.astore 4, 2) := by decide +kernel
theorem d_AckBookLaw_acknowledge_15 : decode c_AckBookLaw_acknowledge 15 = .ok (.iconst (1), 1) := by decide +kernel
theorem d_AckBookLaw_acknowledge_16 : decode c_AckBookLaw_acknowledge 16 = .ok (.ireturn, 1) := by decide +kernel
theorem d_AckBookLaw_acknowledge_17 : decode c_AckBookLaw_acknowledge 17 = .ok (.astore 4, 2) := by decide +kernel
theorem d_AckBookLaw_acknowledge_19 : decode c_AckBookLaw_acknowledge 19 = .ok (.iconst (2), 1) := by decide +kernel
theorem d_AckBookLaw_acknowledge_20 : decode c_AckBookLaw_acknowledge 20 = .ok (.ireturn, 1) := by decide +kernel
theorem d_AckBook_Chain_clear_0 : decode c_AckBook_Chain_clear 0 = .ok (.aload_n 0, 1) := by decide +kernel
theorem d_AckBook_Chain_clear_1 : decode c_AckBook_Chain_clear 1 = .ok (.aconst_null, 1) := by decide +kernel
theorem d_AckBook_Chain_clear_2 : decode c_AckBook_Chain_clear 2 = .ok (.putfield 9, 3) := by decide +kernel
theorem d_AckBook_Chain_clear_5 : decode c_AckBook_Chain_clear 5 = .ok (.return_, 1) := by decide +kernel
theorem d_AckBook_Sent_forget_2 : decode c_AckBook_Sent_forget 2 = .ok (.iload_n 2, 1) := by decide +kernel
theorem d_AckBook_Sent_forget_3 : decode c_AckBook_Sent_forget 3 = .ok (.aload_n 0, 1) := by decide +kernel
theorem d_AckBook_Sent_forget_4 : decode c_AckBook_Sent_forget 4 = .ok (.getfield 24, 3) := by decide +kernel
theorem d_AckBook_Sent_forget_7 : decode c_AckBook_Sent_forget 7 = .ok (.invokevirtual 35, 3) := by decide +kernel
theorem d_AckBook_Sent_forget_10 : decode c_AckBook_Sent_forget 10 = .ok (.if_icmp .ge (33), 3) := by decide +kernel
theorem d_AckBook_Sent_forget_43 : decode c_AckBook_Sent_forget 43 = .ok (.aload_n 0, 1) := by decide +kernel
theorem d_AckBook_Sent_forget_44 : decode c_AckBook_Sent_forget 44 = .ok (.iconst (0), 1) := by decide +kernel
theorem d_AckBook_Sent_forget_45 : decode c_AckBook_Sent_forget 45 = .ok (.putfield 49, 3) := by decide +kernel
theorem d_AckBook_Sent_forget_48 : decode c_AckBook_Sent_forget 48 = .ok (.aload_n 0, 1) := by decide +kernel
theorem d_AckBook_Sent_forget_49 : decode c_AckBook_Sent_forget 49 = .ok (.iconst (0), 1) := by decide +kernel
theorem d_AckBook_Sent_forget_50 : decode c_AckBook_Sent_forget 50 = .ok (.putfield 56, 3) := by decide +kernel
theorem d_AckBook_Sent_forget_53 : decode c_AckBook_Sent_forget 53 = .ok (.aload_n 0, 1) := by decide +kernel
theorem d_AckBook_Sent_forget_54 : decode c_AckBook_Sent_forget 54 = .ok (.iconst (-1), 1) := by decide +kernel
theorem d_AckBook_Sent_forget_55 : decode c_AckBook_Sent_forget 55 = .ok (.putfield 28, 3) := by decide +kernel
theorem d_AckBook_Sent_forget_58 : decode c_AckBook_Sent_forget 58 = .ok (.aload_n 0, 1) := by decide +kernel
theorem d_AckBook_Sent_forget_59 : decode c_AckBook_Sent_forget 59 = .ok (.iconst (-1), 1) := by decide +kernel
theorem d_AckBook_Sent_forget_60 : decode c_AckBook_Sent_forget 60 = .ok (.putfield 32, 3) := by decide +kernel
theorem d_AckBook_Sent_forget_63 : decode c_AckBook_Sent_forget 63 = .ok (.aload_n 0, 1) := by decide +kernel
theorem d_AckBook_Sent_forget_64 : decode c_AckBook_Sent_forget 64 = .ok (.getfield 12, 3) := by decide +kernel
theorem d_AckBook_Sent_forget_67 : decode c_AckBook_Sent_forget 67 = .ok (.invokevirtual 118, 3) := by decide +kernel
theorem d_AckBook_Sent_forget_70 : decode c_AckBook_Sent_forget 70 = .ok (.aload_n 0, 1) := by decide +kernel
theorem d_AckBook_Sent_forget_71 : decode c_AckBook_Sent_forget 71 = .ok (.getfield 18, 3) := by decide +kernel
theorem d_AckBook_Sent_forget_74 : decode c_AckBook_Sent_forget 74 = .ok (.invokevirtual 118, 3) := by decide +kernel
theorem d_AckBook_Sent_forget_77 : decode c_AckBook_Sent_forget 77 = .ok (.return_, 1) := by decide +kernel
theorem d_AckBook_Sent_forget_13 : decode c_AckBook_Sent_forget 13 = .ok (.aload_n 0, 1) := by decide +kernel
theorem d_AckBook_Sent_forget_14 : decode c_AckBook_Sent_forget 14 = .ok (.getfield 24, 3) := by decide +kernel
theorem d_AckBook_Sent_forget_17 : decode c_AckBook_Sent_forget 17 = .ok (.iload_n 2, 1) := by decide +kernel
theorem d_AckBook_Sent_forget_18 : decode c_AckBook_Sent_forget 18 = .ok (.invokevirtual 39, 3) := by decide +kernel
theorem d_AckBook_Sent_forget_21 : decode c_AckBook_Sent_forget 21 = .ok (.checkcast 43, 3) := by decide +kernel
theorem d_AckBook_Sent_forget_24 : decode c_AckBook_Sent_forget 24 = .ok (.astore_n 3, 1) := by decide +kernel
theorem d_AckBook_Sent_forget_25 : decode c_AckBook_Sent_forget 25 = .ok (.aload_n 3, 1) := by decide +kernel
theorem d_AckBook_Sent_forget_26 : decode c_AckBook_Sent_forget 26 = .ok (.getfield 91, 3) := by decide +kernel
theorem d_AckBook_Sent_forget_29 : decode c_AckBook_Sent_forget 29 = .ok (.ifCond .ne (8), 3) := by decide +kernel
theorem d_AckBook_Sent_forget_32 : decode c_AckBook_Sent_forget 32 = .ok (.aload_n 1, 1) := by decide +kernel
