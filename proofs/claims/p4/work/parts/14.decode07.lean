theorem d_ArrayList_grow2_0 : decode c_ArrayList_grow2 0 = .ok (.aload_n 0, 1) := by decide +kernel
theorem d_ArrayList_grow2_1 : decode c_ArrayList_grow2 1 = .ok (.aload_n 0, 1) := by decide +kernel
theorem d_ArrayList_grow2_2 : decode c_ArrayList_grow2 2 = .ok (.getfield 48, 3) := by decide +kernel
theorem d_ArrayList_grow2_5 : decode c_ArrayList_grow2 5 = .ok (.iconst (1), 1) := by decide +kernel
theorem d_ArrayList_grow2_6 : decode c_ArrayList_grow2 6 = .ok (.iadd, 1) := by decide +kernel
theorem d_ArrayList_grow2_7 : decode c_ArrayList_grow2 7 = .ok (.invokevirtual 69, 3) := by decide +kernel
theorem d_ArrayList_grow2_10 : decode c_ArrayList_grow2 10 = .ok (.areturn, 1) := by decide +kernel
theorem d_ArrayList_add_11 : decode c_ArrayList_add 11 = .ok (.aload_n 2, 1) := by decide +kernel
theorem d_ArrayList_add_12 : decode c_ArrayList_add 12 = .ok (.iload_n 3, 1) := by decide +kernel
theorem d_ArrayList_add_13 : decode c_ArrayList_add 13 = .ok (.aload_n 1, 1) := by decide +kernel
theorem d_ArrayList_add_14 : decode c_ArrayList_add 14 = .ok (.aastore, 1) := by decide +kernel
theorem d_ArrayList_add_15 : decode c_ArrayList_add 15 = .ok (.aload_n 0, 1) := by decide +kernel
theorem d_ArrayList_add_16 : decode c_ArrayList_add 16 = .ok (.iload_n 3, 1) := by decide +kernel
theorem d_ArrayList_add_17 : decode c_ArrayList_add 17 = .ok (.iconst (1), 1) := by decide +kernel
theorem d_ArrayList_add_18 : decode c_ArrayList_add 18 = .ok (.iadd, 1) := by decide +kernel
theorem d_ArrayList_add_19 : decode c_ArrayList_add 19 = .ok (.putfield 48, 3) := by decide +kernel
theorem d_ArrayList_add_22 : decode c_ArrayList_add 22 = .ok (.return_, 1) := by decide +kernel
theorem d_ArrayList_add_0 : decode c_ArrayList_add 0 = .ok (.iload_n 3, 1) := by decide +kernel
theorem d_ArrayList_add_1 : decode c_ArrayList_add 1 = .ok (.aload_n 2, 1) := by decide +kernel
theorem d_ArrayList_add_2 : decode c_ArrayList_add 2 = .ok (.arraylength, 1) := by decide +kernel
theorem d_ArrayList_add_3 : decode c_ArrayList_add 3 = .ok (.if_icmp .ne (8), 3) := by decide +kernel
theorem d_ArrayList_add_6 : decode c_ArrayList_add 6 = .ok (.aload_n 0, 1) := by decide +kernel
theorem d_ArrayList_add_7 : decode c_ArrayList_add 7 = .ok (.invokevirtual 129, 3) := by decide +kernel
theorem d_ArrayList_add_10 : decode c_ArrayList_add 10 = .ok (.astore_n 2, 1) := by decide +kernel
theorem d_ArrayList_add2_0 : decode c_ArrayList_add2 0 = .ok (.aload_n 0, 1) := by decide +kernel
theorem d_ArrayList_add2_1 : decode c_ArrayList_add2 1 = .ok (.dup, 1) := by decide +kernel
theorem d_ArrayList_add2_2 : decode c_ArrayList_add2 2 = .ok (.getfield 63, 3) := by decide +kernel
theorem d_ArrayList_add2_5 : decode c_ArrayList_add2 5 = .ok (.iconst (1), 1) := by decide +kernel
theorem d_ArrayList_add2_6 : decode c_ArrayList_add2 6 = .ok (.iadd, 1) := by decide +kernel
theorem d_ArrayList_add2_7 : decode c_ArrayList_add2 7 = .ok (.putfield 63, 3) := by decide +kernel
theorem d_ArrayList_add2_10 : decode c_ArrayList_add2 10 = .ok (.aload_n 0, 1) := by decide +kernel
theorem d_ArrayList_add2_11 : decode c_ArrayList_add2 11 = .ok (.aload_n 1, 1) := by decide +kernel
theorem d_ArrayList_add2_12 : decode c_ArrayList_add2 12 = .ok (.aload_n 0, 1) := by decide +kernel
theorem d_ArrayList_add2_13 : decode c_ArrayList_add2 13 = .ok (.getfield 9, 3) := by decide +kernel
theorem d_ArrayList_add2_16 : decode c_ArrayList_add2 16 = .ok (.aload_n 0, 1) := by decide +kernel
theorem d_ArrayList_add2_17 : decode c_ArrayList_add2 17 = .ok (.getfield 48, 3) := by decide +kernel
theorem d_ArrayList_add2_20 : decode c_ArrayList_add2 20 = .ok (.invokevirtual 131, 3) := by decide +kernel
theorem d_ArrayList_add2_23 : decode c_ArrayList_add2 23 = .ok (.iconst (1), 1) := by decide +kernel
theorem d_ArrayList_add2_24 : decode c_ArrayList_add2 24 = .ok (.ireturn, 1) := by decide +kernel
theorem d_AckBook_Sent_enter_0 : decode c_AckBook_Sent_enter 0 = .ok (.aload_n 0, 1) := by decide +kernel
theorem d_AckBook_Sent_enter_1 : decode c_AckBook_Sent_enter 1 = .ok (.getfield 24, 3) := by decide +kernel
theorem d_AckBook_Sent_enter_4 : decode c_AckBook_Sent_enter 4 = .ok (.aload_n 1, 1) := by decide +kernel
theorem d_AckBook_Sent_enter_5 : decode c_AckBook_Sent_enter 5 = .ok (.invokevirtual 45, 3) := by decide +kernel
theorem d_AckBook_Sent_enter_8 : decode c_AckBook_Sent_enter 8 = .ok (.pop, 1) := by decide +kernel
theorem d_AckBook_Sent_enter_9 : decode c_AckBook_Sent_enter 9 = .ok (.aload_n 0, 1) := by decide +kernel
theorem d_AckBook_Sent_enter_10 : decode c_AckBook_Sent_enter 10 = .ok (.dup, 1) := by decide +kernel
theorem d_AckBook_Sent_enter_11 : decode c_AckBook_Sent_enter 11 = .ok (.getfield 49, 3) := by decide +kernel
theorem d_AckBook_Sent_enter_14 : decode c_AckBook_Sent_enter 14 = .ok (.iconst (1), 1) := by decide +kernel
theorem d_AckBook_Sent_enter_15 : decode c_AckBook_Sent_enter 15 = .ok (.iadd, 1) := by decide +kernel
theorem d_AckBook_Sent_enter_16 : decode c_AckBook_Sent_enter 16 = .ok (.putfield 49, 3) := by decide +kernel
theorem d_AckBook_Sent_enter_19 : decode c_AckBook_Sent_enter 19 = .ok (.aload_n 1, 1) := by decide +kernel
theorem d_AckBook_Sent_enter_20 : decode c_AckBook_Sent_enter 20 = .ok (.getfield 52, 3) := by decide +kernel
theorem d_AckBook_Sent_enter_23 : decode c_AckBook_Sent_enter 23 = .ok (.ifCond .eq (21), 3) := by decide +kernel
theorem d_AckBook_Sent_enter_44 : decode c_AckBook_Sent_enter 44 = .ok (.return_, 1) := by decide +kernel
theorem d_AckBook_Sent_enter_26 : decode c_AckBook_Sent_enter 26 = .ok (.aload_n 0, 1) := by decide +kernel
theorem d_AckBook_Sent_enter_27 : decode c_AckBook_Sent_enter 27 = .ok (.dup, 1) := by decide +kernel
theorem d_AckBook_Sent_enter_28 : decode c_AckBook_Sent_enter 28 = .ok (.getfield 56, 3) := by decide +kernel
theorem d_AckBook_Sent_enter_31 : decode c_AckBook_Sent_enter 31 = .ok (.iconst (1), 1) := by decide +kernel
theorem d_AckBook_Sent_enter_32 : decode c_AckBook_Sent_enter 32 = .ok (.iadd, 1) := by decide +kernel
theorem d_AckBook_Sent_enter_33 : decode c_AckBook_Sent_enter 33 = .ok (.putfield 56, 3) := by decide +kernel
theorem d_AckBook_Sent_enter_36 : decode c_AckBook_Sent_enter 36 = .ok (.aload_n 0, 1) := by decide +kernel
theorem d_AckBook_Sent_enter_37 : decode c_AckBook_Sent_enter 37 = .ok (.aload_n 1, 1) := by decide +kernel
theorem d_AckBook_Sent_enter_38 : decode c_AckBook_Sent_enter 38 = .ok (.getfield 59, 3) := by decide +kernel
theorem d_AckBook_Sent_enter_41 : decode c_AckBook_Sent_enter 41 = .ok (.putfield 62, 3) := by decide +kernel
theorem d_AckBook_Flow_enter_20 : decode c_AckBook_Flow_enter 20 = .ok (.aload_n 1, 1) := by decide +kernel
theorem d_AckBook_Flow_enter_21 : decode c_AckBook_Flow_enter 21 = .ok (.aload_n 0, 1) := by decide +kernel
theorem d_AckBook_Flow_enter_22 : decode c_AckBook_Flow_enter 22 = .ok (.getfield 27, 3) := by decide +kernel
theorem d_AckBook_Flow_enter_25 : decode c_AckBook_Flow_enter 25 = .ok (.aload_n 0, 1) := by decide +kernel
theorem d_AckBook_Flow_enter_26 : decode c_AckBook_Flow_enter 26 = .ok (.getfield 9, 3) := by decide +kernel
theorem d_AckBook_Flow_enter_29 : decode c_AckBook_Flow_enter 29 = .ok (.sipush (1200), 3) := by decide +kernel
theorem d_AckBook_Flow_enter_32 : decode c_AckBook_Flow_enter 32 = .ok (.isub, 1) := by decide +kernel
theorem d_AckBook_Flow_enter_33 : decode c_AckBook_Flow_enter 33 = .ok (.if_icmp .le (7), 3) := by decide +kernel
theorem d_AckBook_Flow_enter_40 : decode c_AckBook_Flow_enter 40 = .ok (.iconst (0), 1) := by decide +kernel
theorem d_AckBook_Flow_enter_41 : decode c_AckBook_Flow_enter 41 = .ok (.putfield 33, 3) := by decide +kernel
theorem d_AckBook_Flow_enter_44 : decode c_AckBook_Flow_enter 44 = .ok (.return_, 1) := by decide +kernel
theorem d_AckBook_Flow_enter_36 : decode c_AckBook_Flow_enter 36 = .ok (.iconst (1), 1) := by decide +kernel
theorem d_AckBook_Flow_enter_37 : decode c_AckBook_Flow_enter 37 = .ok (.goto (4), 3) := by decide +kernel
theorem d_AckBook_Flow_enter_0 : decode c_AckBook_Flow_enter 0 = .ok (.aload_n 1, 1) := by decide +kernel
theorem d_AckBook_Flow_enter_1 : decode c_AckBook_Flow_enter 1 = .ok (.getfield 21, 3) := by decide +kernel
theorem d_AckBook_Flow_enter_4 : decode c_AckBook_Flow_enter 4 = .ok (.ifCond .eq (16), 3) := by decide +kernel
theorem d_AckBook_Flow_enter_7 : decode c_AckBook_Flow_enter 7 = .ok (.aload_n 0, 1) := by decide +kernel
theorem d_AckBook_Flow_enter_8 : decode c_AckBook_Flow_enter 8 = .ok (.dup, 1) := by decide +kernel
theorem d_AckBook_Flow_enter_9 : decode c_AckBook_Flow_enter 9 = .ok (.getfield 27, 3) := by decide +kernel
theorem d_AckBook_Flow_enter_12 : decode c_AckBook_Flow_enter 12 = .ok (.aload_n 1, 1) := by decide +kernel
theorem d_AckBook_Flow_enter_13 : decode c_AckBook_Flow_enter 13 = .ok (.getfield 30, 3) := by decide +kernel
theorem d_AckBook_Flow_enter_16 : decode c_AckBook_Flow_enter 16 = .ok (.iadd, 1) := by decide +kernel
theorem d_AckBook_Flow_enter_17 : decode c_AckBook_Flow_enter 17 = .ok (.putfield 27, 3) := by decide +kernel
theorem d_AckBook_send_48 : decode c_AckBook_send 48 = .ok (.aload 5, 2) := by decide +kernel
theorem d_AckBook_send_50 : decode c_AckBook_send 50 = .ok (.invokestatic 52, 3) := by decide +kernel
theorem d_AckBook_send_53 : decode c_AckBook_send 53 = .ok (.aload 5, 2) := by decide +kernel
theorem d_AckBook_send_55 : decode c_AckBook_send 55 = .ok (.getfield 56, 3) := by decide +kernel
theorem d_AckBook_send_58 : decode c_AckBook_send 58 = .ok (.invokevirtual 60, 3) := by decide +kernel
theorem d_AckBook_send_61 : decode c_AckBook_send 61 = .ok (.sipush (4096), 3) := by decide +kernel
theorem d_AckBook_send_64 : decode c_AckBook_send 64 = .ok (.if_icmp .lt (13), 3) := by decide +kernel
theorem d_AckBook_send_77 : decode c_AckBook_send 77 = .ok (.new 71, 3) := by decide +kernel
theorem d_AckBook_send_80 : decode c_AckBook_send 80 = .ok (.dup, 1) := by decide +kernel
theorem d_AckBook_send_81 : decode c_AckBook_send 81 = .ok (.aload 5, 2) := by decide +kernel
theorem d_AckBook_send_83 : decode c_AckBook_send 83 = .ok (.getfield 56, 3) := by decide +kernel
theorem d_AckBook_send_86 : decode c_AckBook_send 86 = .ok (.invokevirtual 60, 3) := by decide +kernel
theorem d_AckBook_send_89 : decode c_AckBook_send 89 = .ok (.iload_n 2, 1) := by decide +kernel
theorem d_AckBook_send_90 : decode c_AckBook_send 90 = .ok (.aload_n 0, 1) := by decide +kernel
theorem d_AckBook_send_91 : decode c_AckBook_send 91 = .ok (.getfield 73, 3) := by decide +kernel
theorem d_AckBook_send_94 : decode c_AckBook_send 94 = .ok (.iload_n 3, 1) := by decide +kernel
theorem d_AckBook_send_95 : decode c_AckBook_send 95 = .ok (.iload 4, 2) := by decide +kernel
theorem d_AckBook_send_97 : decode c_AckBook_send 97 = .ok (.invokespecial 77, 3) := by decide +kernel
theorem d_AckBook_send_100 : decode c_AckBook_send 100 = .ok (.astore 6, 2) := by decide +kernel
theorem d_AckBook_send_102 : decode c_AckBook_send 102 = .ok (.aload 5, 2) := by decide +kernel
theorem d_AckBook_send_104 : decode c_AckBook_send 104 = .ok (.getfield 56, 3) := by decide +kernel
theorem d_AckBook_send_107 : decode c_AckBook_send 107 = .ok (.aload 6, 2) := by decide +kernel
theorem d_AckBook_send_109 : decode c_AckBook_send 109 = .ok (.invokevirtual 80, 3) := by decide +kernel
theorem d_AckBook_send_112 : decode c_AckBook_send 112 = .ok (.aload_n 0, 1) := by decide +kernel
theorem d_AckBook_send_113 : decode c_AckBook_send 113 = .ok (.getfield 35, 3) := by decide +kernel
theorem d_AckBook_send_116 : decode c_AckBook_send 116 = .ok (.aload 6, 2) := by decide +kernel
theorem d_AckBook_send_118 : decode c_AckBook_send 118 = .ok (.invokevirtual 84, 3) := by decide +kernel
theorem d_AckBook_send_121 : decode c_AckBook_send 121 = .ok (.aload_n 0, 1) := by decide +kernel
theorem d_AckBook_send_122 : decode c_AckBook_send 122 = .ok (.aload_n 0, 1) := by decide +kernel
theorem d_AckBook_send_123 : decode c_AckBook_send 123 = .ok (.getfield 73, 3) := by decide +kernel
theorem d_AckBook_send_126 : decode c_AckBook_send 126 = .ok (.putfield 85, 3) := by decide +kernel
theorem d_AckBook_send_129 : decode c_AckBook_send 129 = .ok (.aload 6, 2) := by decide +kernel
theorem d_AckBook_send_131 : decode c_AckBook_send 131 = .ok (.getfield 88, 3) := by decide +kernel
