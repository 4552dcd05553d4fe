theorem d_AckBookModel_came_41 : decode c_AckBookModel_came 41 = .ok (.iconst (2), 1) := by decide +kernel
theorem d_AckBookModel_came_42 : decode c_AckBookModel_came 42 = .ok (.invokevirtual 146, 3) := by decide +kernel
theorem d_AckBookModel_came_45 : decode c_AckBookModel_came 45 = .ok (.ifCond .ne (12), 3) := by decide +kernel
theorem d_AckBookModel_came_48 : decode c_AckBookModel_came 48 = .ok (.aload_n 0, 1) := by decide +kernel
theorem d_AckBookModel_came_49 : decode c_AckBookModel_came 49 = .ok (.iload_n 1, 1) := by decide +kernel
theorem d_AckBookModel_came_50 : decode c_AckBookModel_came 50 = .ok (.lload_n 2, 1) := by decide +kernel
theorem d_AckBookModel_came_51 : decode c_AckBookModel_came 51 = .ok (.invokevirtual 202, 3) := by decide +kernel
theorem d_AckBookModel_came_54 : decode c_AckBookModel_came 54 = .ok (.ifCond .eq (5), 3) := by decide +kernel
theorem d_AckBookModel_came_59 : decode c_AckBookModel_came 59 = .ok (.aload_n 0, 1) := by decide +kernel
theorem d_AckBookModel_came_60 : decode c_AckBookModel_came 60 = .ok (.iload_n 1, 1) := by decide +kernel
theorem d_AckBookModel_came_61 : decode c_AckBookModel_came 61 = .ok (.invokevirtual 206, 3) := by decide +kernel
theorem d_AckBookModel_came_64 : decode c_AckBookModel_came 64 = .ok (.lstore 5, 2) := by decide +kernel
theorem d_AckBookModel_came_66 : decode c_AckBookModel_came 66 = .ok (.lload_n 2, 1) := by decide +kernel
theorem d_AckBookModel_came_67 : decode c_AckBookModel_came 67 = .ok (.lload 5, 2) := by decide +kernel
theorem d_AckBookModel_came_69 : decode c_AckBookModel_came 69 = .ok (.lcmp, 1) := by decide +kernel
theorem d_AckBookModel_came_70 : decode c_AckBookModel_came 70 = .ok (.ifCond .le (13), 3) := by decide +kernel
theorem d_AckBookModel_came_73 : decode c_AckBookModel_came 73 = .ok (.aload_n 0, 1) := by decide +kernel
theorem d_AckBookModel_came_74 : decode c_AckBookModel_came 74 = .ok (.getfield 91, 3) := by decide +kernel
theorem d_AckBookModel_came_77 : decode c_AckBookModel_came 77 = .ok (.iload_n 1, 1) := by decide +kernel
theorem d_AckBookModel_came_78 : decode c_AckBookModel_came 78 = .ok (.aload_n 0, 1) := by decide +kernel
theorem d_AckBookModel_came_79 : decode c_AckBookModel_came 79 = .ok (.getfield 150, 3) := by decide +kernel
theorem d_AckBookModel_came_82 : decode c_AckBookModel_came 82 = .ok (.iastore, 1) := by decide +kernel
theorem d_AckBookModel_came_57 : decode c_AckBookModel_came 57 = .ok (.iconst (0), 1) := by decide +kernel
theorem d_AckBookModel_came_58 : decode c_AckBookModel_came 58 = .ok (.ireturn, 1) := by decide +kernel
theorem d_AckBookModel_came_22 : decode c_AckBookModel_came 22 = .ok (.iconst (1), 1) := by decide +kernel
theorem d_AckBookModel_came_23 : decode c_AckBookModel_came 23 = .ok (.goto (4), 3) := by decide +kernel
theorem d_AckBookModel_came_0 : decode c_AckBookModel_came 0 = .ok (.aload_n 0, 1) := by decide +kernel
theorem d_AckBookModel_came_1 : decode c_AckBookModel_came 1 = .ok (.iload_n 1, 1) := by decide +kernel
theorem d_AckBookModel_came_2 : decode c_AckBookModel_came 2 = .ok (.invokestatic 142, 3) := by decide +kernel
theorem d_AckBookModel_came_5 : decode c_AckBookModel_came 5 = .ok (.ifCond .ne (17), 3) := by decide +kernel
theorem d_AckBookModel_came_8 : decode c_AckBookModel_came 8 = .ok (.lload_n 2, 1) := by decide +kernel
theorem d_AckBookModel_came_9 : decode c_AckBookModel_came 9 = .ok (.lconst 0, 1) := by decide +kernel
theorem d_AckBookModel_came_10 : decode c_AckBookModel_came 10 = .ok (.lcmp, 1) := by decide +kernel
theorem d_AckBookModel_came_11 : decode c_AckBookModel_came 11 = .ok (.ifCond .lt (11), 3) := by decide +kernel
theorem d_AckBookModel_came_14 : decode c_AckBookModel_came 14 = .ok (.lload_n 2, 1) := by decide +kernel
theorem d_AckBookModel_came_15 : decode c_AckBookModel_came 15 = .ok (.ldc2_w 200, 3) := by decide +kernel
theorem d_AckBookModel_came_18 : decode c_AckBookModel_came 18 = .ok (.lcmp, 1) := by decide +kernel
theorem d_AckBookModel_came_19 : decode c_AckBookModel_came 19 = .ok (.ifCond .le (7), 3) := by decide +kernel
theorem d_AckBookModel_came_26 : decode c_AckBookModel_came 26 = .ok (.iconst (0), 1) := by decide +kernel
theorem d_AckBookModel_due_0 : decode c_AckBookModel_due 0 = .ok (.aload_n 0, 1) := by decide +kernel
theorem d_AckBookModel_due_1 : decode c_AckBookModel_due 1 = .ok (.iload_n 1, 1) := by decide +kernel
theorem d_AckBookModel_due_2 : decode c_AckBookModel_due 2 = .ok (.invokestatic 142, 3) := by decide +kernel
theorem d_AckBookModel_due_5 : decode c_AckBookModel_due 5 = .ok (.iconst (1), 1) := by decide +kernel
theorem d_AckBookModel_due_6 : decode c_AckBookModel_due 6 = .ok (.invokevirtual 146, 3) := by decide +kernel
theorem d_AckBookModel_due_9 : decode c_AckBookModel_due 9 = .ok (.ifCond .ne (12), 3) := by decide +kernel
theorem d_AckBookModel_due_12 : decode c_AckBookModel_due 12 = .ok (.aload_n 0, 1) := by decide +kernel
theorem d_AckBookModel_due_13 : decode c_AckBookModel_due 13 = .ok (.getfield 94, 3) := by decide +kernel
theorem d_AckBookModel_due_16 : decode c_AckBookModel_due 16 = .ok (.iload_n 1, 1) := by decide +kernel
theorem d_AckBookModel_due_17 : decode c_AckBookModel_due 17 = .ok (.iaload, 1) := by decide +kernel
theorem d_AckBookModel_due_18 : decode c_AckBookModel_due 18 = .ok (.ifCond .ne (5), 3) := by decide +kernel
theorem d_AckBookModel_due_21 : decode c_AckBookModel_due 21 = .ok (.iconst (0), 1) := by decide +kernel
theorem d_AckBookModel_due_22 : decode c_AckBookModel_due 22 = .ok (.ireturn, 1) := by decide +kernel
theorem d_AckBookModel_due_23 : decode c_AckBookModel_due 23 = .ok (.iload_n 1, 1) := by decide +kernel
theorem d_AckBookModel_due_24 : decode c_AckBookModel_due 24 = .ok (.iconst (2), 1) := by decide +kernel
theorem d_AckBookModel_due_25 : decode c_AckBookModel_due 25 = .ok (.if_icmp .lt (38), 3) := by decide +kernel
theorem d_AckBookModel_due_63 : decode c_AckBookModel_due 63 = .ok (.iconst (1), 1) := by decide +kernel
theorem d_AckBookModel_due_64 : decode c_AckBookModel_due 64 = .ok (.goto (4), 3) := by decide +kernel
theorem d_AckBookModel_due_68 : decode c_AckBookModel_due 68 = .ok (.ireturn, 1) := by decide +kernel
theorem d_AckBookModel_due_28 : decode c_AckBookModel_due 28 = .ok (.aload_n 0, 1) := by decide +kernel
theorem d_AckBookModel_due_29 : decode c_AckBookModel_due 29 = .ok (.getfield 94, 3) := by decide +kernel
theorem d_AckBookModel_due_32 : decode c_AckBookModel_due 32 = .ok (.iload_n 1, 1) := by decide +kernel
theorem d_AckBookModel_due_33 : decode c_AckBookModel_due 33 = .ok (.iaload, 1) := by decide +kernel
theorem d_AckBookModel_due_34 : decode c_AckBookModel_due 34 = .ok (.iconst (1), 1) := by decide +kernel
theorem d_AckBookModel_due_35 : decode c_AckBookModel_due 35 = .ok (.if_icmp .gt (28), 3) := by decide +kernel
theorem d_AckBookModel_due_38 : decode c_AckBookModel_due 38 = .ok (.aload_n 0, 1) := by decide +kernel
theorem d_AckBookModel_due_39 : decode c_AckBookModel_due 39 = .ok (.getfield 100, 3) := by decide +kernel
theorem d_AckBookModel_due_42 : decode c_AckBookModel_due 42 = .ok (.iload_n 1, 1) := by decide +kernel
theorem d_AckBookModel_due_43 : decode c_AckBookModel_due 43 = .ok (.baload, 1) := by decide +kernel
theorem d_AckBookModel_due_44 : decode c_AckBookModel_due 44 = .ok (.ifCond .ne (19), 3) := by decide +kernel
theorem d_AckBookModel_due_47 : decode c_AckBookModel_due 47 = .ok (.aload_n 0, 1) := by decide +kernel
theorem d_AckBookModel_due_48 : decode c_AckBookModel_due 48 = .ok (.getfield 150, 3) := by decide +kernel
theorem d_AckBookModel_due_51 : decode c_AckBookModel_due 51 = .ok (.aload_n 0, 1) := by decide +kernel
theorem d_AckBookModel_due_52 : decode c_AckBookModel_due 52 = .ok (.getfield 97, 3) := by decide +kernel
theorem d_AckBookModel_due_55 : decode c_AckBookModel_due 55 = .ok (.iload_n 1, 1) := by decide +kernel
theorem d_AckBookModel_due_56 : decode c_AckBookModel_due 56 = .ok (.iaload, 1) := by decide +kernel
theorem d_AckBookModel_due_57 : decode c_AckBookModel_due 57 = .ok (.isub, 1) := by decide +kernel
theorem d_AckBookModel_due_58 : decode c_AckBookModel_due 58 = .ok (.bipush (25), 2) := by decide +kernel
theorem d_AckBookModel_due_60 : decode c_AckBookModel_due 60 = .ok (.if_icmp .lt (7), 3) := by decide +kernel
theorem d_AckBookModel_due_67 : decode c_AckBookModel_due 67 = .ok (.iconst (0), 1) := by decide +kernel
theorem d_AckBookModel_written_36 : decode c_AckBookModel_written 36 = .ok (.iconst (2), 1) := by decide +kernel
theorem d_AckBookModel_written_37 : decode c_AckBookModel_written 37 = .ok (.invokevirtual 146, 3) := by decide +kernel
theorem d_AckBookModel_written_40 : decode c_AckBookModel_written 40 = .ok (.ifCond .eq (5), 3) := by decide +kernel
theorem d_AckBookModel_written_45 : decode c_AckBookModel_written 45 = .ok (.aload_n 0, 1) := by decide +kernel
theorem d_AckBookModel_written_46 : decode c_AckBookModel_written 46 = .ok (.getfield 94, 3) := by decide +kernel
theorem d_AckBookModel_written_49 : decode c_AckBookModel_written 49 = .ok (.iload_n 1, 1) := by decide +kernel
theorem d_AckBookModel_written_50 : decode c_AckBookModel_written 50 = .ok (.iconst (0), 1) := by decide +kernel
theorem d_AckBookModel_written_51 : decode c_AckBookModel_written 51 = .ok (.iastore, 1) := by decide +kernel
theorem d_AckBookModel_written_52 : decode c_AckBookModel_written 52 = .ok (.aload_n 0, 1) := by decide +kernel
theorem d_AckBookModel_written_53 : decode c_AckBookModel_written 53 = .ok (.getfield 100, 3) := by decide +kernel
theorem d_AckBookModel_written_56 : decode c_AckBookModel_written 56 = .ok (.iload_n 1, 1) := by decide +kernel
theorem d_AckBookModel_written_57 : decode c_AckBookModel_written 57 = .ok (.iconst (0), 1) := by decide +kernel
theorem d_AckBookModel_written_58 : decode c_AckBookModel_written 58 = .ok (.bastore, 1) := by decide +kernel
theorem d_AckBookModel_written_59 : decode c_AckBookModel_written 59 = .ok (.aload_n 0, 1) := by decide +kernel
theorem d_AckBookModel_written_60 : decode c_AckBookModel_written 60 = .ok (.getfield 150, 3) := by decide +kernel
theorem d_AckBookModel_written_63 : decode c_AckBookModel_written 63 = .ok (.aload_n 0, 1) := by decide +kernel
theorem d_AckBookModel_written_64 : decode c_AckBookModel_written 64 = .ok (.getfield 91, 3) := by decide +kernel
theorem d_AckBookModel_written_67 : decode c_AckBookModel_written 67 = .ok (.iload_n 1, 1) := by decide +kernel
theorem d_AckBookModel_written_68 : decode c_AckBookModel_written 68 = .ok (.iaload, 1) := by decide +kernel
theorem d_AckBookModel_written_69 : decode c_AckBookModel_written 69 = .ok (.isub, 1) := by decide +kernel
theorem d_AckBookModel_written_70 : decode c_AckBookModel_written 70 = .ok (.ireturn, 1) := by decide +kernel
theorem d_AckBookModel_written_43 : decode c_AckBookModel_written 43 = .ok (.iconst (0), 1) := by decide +kernel
theorem d_AckBookModel_written_44 : decode c_AckBookModel_written 44 = .ok (.ireturn, 1) := by decide +kernel
theorem d_AckBookModel_written_31 : decode c_AckBookModel_written 31 = .ok (.iconst (1), 1) := by decide +kernel
theorem d_AckBookModel_written_32 : decode c_AckBookModel_written 32 = .ok (.goto (4), 3) := by decide +kernel
theorem d_AckBookModel_written_0 : decode c_AckBookModel_written 0 = .ok (.aload_n 0, 1) := by decide +kernel
theorem d_AckBookModel_written_1 : decode c_AckBookModel_written 1 = .ok (.iload_n 1, 1) := by decide +kernel
theorem d_AckBookModel_written_2 : decode c_AckBookModel_written 2 = .ok (.invokestatic 142, 3) := by decide +kernel
theorem d_AckBookModel_written_5 : decode c_AckBookModel_written 5 = .ok (.iconst (1), 1) := by decide +kernel
theorem d_AckBookModel_written_6 : decode c_AckBookModel_written 6 = .ok (.invokevirtual 146, 3) := by decide +kernel
theorem d_AckBookModel_written_9 : decode c_AckBookModel_written 9 = .ok (.ifCond .ne (34), 3) := by decide +kernel
theorem d_AckBookModel_written_12 : decode c_AckBookModel_written 12 = .ok (.aload_n 0, 1) := by decide +kernel
theorem d_AckBookModel_written_13 : decode c_AckBookModel_written 13 = .ok (.aload_n 0, 1) := by decide +kernel
theorem d_AckBookModel_written_14 : decode c_AckBookModel_written 14 = .ok (.getfield 79, 3) := by decide +kernel
theorem d_AckBookModel_written_17 : decode c_AckBookModel_written 17 = .ok (.iload_n 1, 1) := by decide +kernel
theorem d_AckBookModel_written_18 : decode c_AckBookModel_written 18 = .ok (.iaload, 1) := by decide +kernel
theorem d_AckBookModel_written_19 : decode c_AckBookModel_written 19 = .ok (.ifCond .eq (12), 3) := by decide +kernel
theorem d_AckBookModel_written_22 : decode c_AckBookModel_written 22 = .ok (.aload_n 0, 1) := by decide +kernel
theorem d_AckBookModel_written_23 : decode c_AckBookModel_written 23 = .ok (.getfield 32, 3) := by decide +kernel
theorem d_AckBookModel_written_26 : decode c_AckBookModel_written 26 = .ok (.iload_n 1, 1) := by decide +kernel
theorem d_AckBookModel_written_27 : decode c_AckBookModel_written 27 = .ok (.baload, 1) := by decide +kernel
