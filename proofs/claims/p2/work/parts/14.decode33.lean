theorem d_AckBookModel_came_102 : decode c_AckBookModel_came 102 = .ok (.ifCond .ne (13), 3) := by decide +kernel
theorem d_AckBookModel_came_105 : decode c_AckBookModel_came 105 = .ok (.aload_n 0, 1) := by decide +kernel
theorem d_AckBookModel_came_106 : decode c_AckBookModel_came 106 = .ok (.getfield 97, 3) := by decide +kernel
theorem d_AckBookModel_came_109 : decode c_AckBookModel_came 109 = .ok (.iload_n 1, 1) := by decide +kernel
theorem d_AckBookModel_came_110 : decode c_AckBookModel_came 110 = .ok (.aload_n 0, 1) := by decide +kernel
theorem d_AckBookModel_came_111 : decode c_AckBookModel_came 111 = .ok (.getfield 150, 3) := by decide +kernel
theorem d_AckBookModel_came_114 : decode c_AckBookModel_came 114 = .ok (.iastore, 1) := by decide +kernel
theorem d_AckBookModel_came_115 : decode c_AckBookModel_came 115 = .ok (.aload_n 0, 1) := by decide +kernel
theorem d_AckBookModel_came_116 : decode c_AckBookModel_came 116 = .ok (.getfield 94, 3) := by decide +kernel
theorem d_AckBookModel_came_119 : decode c_AckBookModel_came 119 = .ok (.iload_n 1, 1) := by decide +kernel
theorem d_AckBookModel_came_120 : decode c_AckBookModel_came 120 = .ok (.dup2, 1) := by decide +kernel
theorem d_AckBookModel_came_121 : decode c_AckBookModel_came 121 = .ok (.iaload, 1) := by decide +kernel
theorem d_AckBookModel_came_122 : decode c_AckBookModel_came 122 = .ok (.iconst (1), 1) := by decide +kernel
theorem d_AckBookModel_came_123 : decode c_AckBookModel_came 123 = .ok (.iadd, 1) := by decide +kernel
theorem d_AckBookModel_came_124 : decode c_AckBookModel_came 124 = .ok (.iastore, 1) := by decide +kernel
theorem d_AckBookModel_came_125 : decode c_AckBookModel_came 125 = .ok (.aload_n 0, 1) := by decide +kernel
theorem d_AckBookModel_came_126 : decode c_AckBookModel_came 126 = .ok (.getfield 100, 3) := by decide +kernel
theorem d_AckBookModel_came_129 : decode c_AckBookModel_came 129 = .ok (.iload_n 1, 1) := by decide +kernel
theorem d_AckBookModel_came_130 : decode c_AckBookModel_came 130 = .ok (.aload_n 0, 1) := by decide +kernel
theorem d_AckBookModel_came_131 : decode c_AckBookModel_came 131 = .ok (.getfield 100, 3) := by decide +kernel
theorem d_AckBookModel_came_134 : decode c_AckBookModel_came 134 = .ok (.iload_n 1, 1) := by decide +kernel
theorem d_AckBookModel_came_135 : decode c_AckBookModel_came 135 = .ok (.baload, 1) := by decide +kernel
theorem d_AckBookModel_came_136 : decode c_AckBookModel_came 136 = .ok (.ifCond .ne (12), 3) := by decide +kernel
theorem d_AckBookModel_came_139 : decode c_AckBookModel_came 139 = .ok (.lload_n 2, 1) := by decide +kernel
theorem d_AckBookModel_came_140 : decode c_AckBookModel_came 140 = .ok (.lload 5, 2) := by decide +kernel
theorem d_AckBookModel_came_142 : decode c_AckBookModel_came 142 = .ok (.lconst 1, 1) := by decide +kernel
theorem d_AckBookModel_came_143 : decode c_AckBookModel_came 143 = .ok (.ladd, 1) := by decide +kernel
theorem d_AckBookModel_came_144 : decode c_AckBookModel_came 144 = .ok (.lcmp, 1) := by decide +kernel
theorem d_AckBookModel_came_145 : decode c_AckBookModel_came 145 = .ok (.ifCond .eq (7), 3) := by decide +kernel
theorem d_AckBookModel_came_152 : decode c_AckBookModel_came 152 = .ok (.iconst (0), 1) := by decide +kernel
theorem d_AckBookModel_came_153 : decode c_AckBookModel_came 153 = .ok (.bastore, 1) := by decide +kernel
theorem d_AckBookModel_came_154 : decode c_AckBookModel_came 154 = .ok (.iconst (1), 1) := by decide +kernel
theorem d_AckBookModel_came_155 : decode c_AckBookModel_came 155 = .ok (.ireturn, 1) := by decide +kernel
theorem d_AckBookModel_came_148 : decode c_AckBookModel_came 148 = .ok (.iconst (1), 1) := by decide +kernel
theorem d_AckBookModel_came_149 : decode c_AckBookModel_came 149 = .ok (.goto (4), 3) := by decide +kernel
theorem d_AckBookModel_came_73 : decode c_AckBookModel_came 73 = .ok (.aload_n 0, 1) := by decide +kernel
theorem d_AckBookModel_came_74 : decode c_AckBookModel_came 74 = .ok (.getfield 91, 3) := by decide +kernel
theorem d_AckBookModel_came_77 : decode c_AckBookModel_came 77 = .ok (.iload_n 1, 1) := by decide +kernel
theorem d_AckBookModel_came_78 : decode c_AckBookModel_came 78 = .ok (.aload_n 0, 1) := by decide +kernel
theorem d_AckBookModel_came_79 : decode c_AckBookModel_came 79 = .ok (.getfield 150, 3) := by decide +kernel
theorem d_AckBookModel_came_82 : decode c_AckBookModel_came 82 = .ok (.iastore, 1) := by decide +kernel
theorem d_AckBookModel_came_57 : decode c_AckBookModel_came 57 = .ok (.iconst (0), 1) := by decide +kernel
theorem d_AckBookModel_came_58 : decode c_AckBookModel_came 58 = .ok (.ireturn, 1) := by decide +kernel
theorem d_AckBookModel_came_14 : decode c_AckBookModel_came 14 = .ok (.lload_n 2, 1) := by decide +kernel
theorem d_AckBookModel_came_15 : decode c_AckBookModel_came 15 = .ok (.ldc2_w 200, 3) := by decide +kernel
theorem d_AckBookModel_came_18 : decode c_AckBookModel_came 18 = .ok (.lcmp, 1) := by decide +kernel
theorem d_AckBookModel_came_19 : decode c_AckBookModel_came 19 = .ok (.ifCond .le (7), 3) := by decide +kernel
theorem d_AckBookModel_came_26 : decode c_AckBookModel_came 26 = .ok (.iconst (0), 1) := by decide +kernel
theorem d_AckBookModel_due_0 : decode c_AckBookModel_due 0 = .ok (.aload_n 0, 1) := by decide +kernel
theorem d_AckBookModel_due_1 : decode c_AckBookModel_due 1 = .ok (.iload_n 1, 1) := by decide +kernel
theorem d_AckBookModel_due_2 : decode c_AckBookModel_due 2 = .ok (.invokestatic 142, 3) := by decide +kernel
theorem d_AckBookModel_due_5 : decode c_AckBookModel_due 5 = .ok (.iconst (1), 1) := by decide +kernel
theorem d_AckBookModel_due_6 : decode c_AckBookModel_due 6 = .ok (.invokevirtual 146, 3) := by decide +kernel
theorem d_AckBookModel_due_9 : decode c_AckBookModel_due 9 = .ok (.ifCond .ne (12), 3) := by decide +kernel
theorem d_AckBookModel_due_12 : decode c_AckBookModel_due 12 = .ok (.aload_n 0, 1) := by decide +kernel
theorem d_AckBookModel_due_13 : decode c_AckBookModel_due 13 = .ok (.getfield 94, 3) := by decide +kernel
theorem d_AckBookModel_due_16 : decode c_AckBookModel_due 16 = .ok (.iload_n 1, 1) := by decide +kernel
theorem d_AckBookModel_due_17 : decode c_AckBookModel_due 17 = .ok (.iaload, 1) := by decide +kernel
theorem d_AckBookModel_due_18 : decode c_AckBookModel_due 18 = .ok (.ifCond .ne (5), 3) := by decide +kernel
theorem d_AckBookModel_due_21 : decode c_AckBookModel_due 21 = .ok (.iconst (0), 1) := by decide +kernel
theorem d_AckBookModel_due_22 : decode c_AckBookModel_due 22 = .ok (.ireturn, 1) := by decide +kernel
theorem d_AckBookModel_due_23 : decode c_AckBookModel_due 23 = .ok (.iload_n 1, 1) := by decide +kernel
theorem d_AckBookModel_due_24 : decode c_AckBookModel_due 24 = .ok (.iconst (2), 1) := by decide +kernel
theorem d_AckBookModel_due_25 : decode c_AckBookModel_due 25 = .ok (.if_icmp .lt (38), 3) := by decide +kernel
theorem d_AckBookModel_due_63 : decode c_AckBookModel_due 63 = .ok (.iconst (1), 1) := by decide +kernel
theorem d_AckBookModel_due_64 : decode c_AckBookModel_due 64 = .ok (.goto (4), 3) := by decide +kernel
theorem d_AckBookModel_due_68 : decode c_AckBookModel_due 68 = .ok (.ireturn, 1) := by decide +kernel
theorem d_AckBookModel_due_28 : decode c_AckBookModel_due 28 = .ok (.aload_n 0, 1) := by decide +kernel
theorem d_AckBookModel_due_29 : decode c_AckBookModel_due 29 = .ok (.getfield 94, 3) := by decide +kernel
theorem d_AckBookModel_due_32 : decode c_AckBookModel_due 32 = .ok (.iload_n 1, 1) := by decide +kernel
theorem d_AckBookModel_due_33 : decode c_AckBookModel_due 33 = .ok (.iaload, 1) := by decide +kernel
theorem d_AckBookModel_due_34 : decode c_AckBookModel_due 34 = .ok (.iconst (1), 1) := by decide +kernel
theorem d_AckBookModel_due_35 : decode c_AckBookModel_due 35 = .ok (.if_icmp .gt (28), 3) := by decide +kernel
theorem d_AckBookModel_due_38 : decode c_AckBookModel_due 38 = .ok (.aload_n 0, 1) := by decide +kernel
theorem d_AckBookModel_due_39 : decode c_AckBookModel_due 39 = .ok (.getfield 100, 3) := by decide +kernel
theorem d_AckBookModel_due_42 : decode c_AckBookModel_due 42 = .ok (.iload_n 1, 1) := by decide +kernel
theorem d_AckBookModel_due_43 : decode c_AckBookModel_due 43 = .ok (.baload, 1) := by decide +kernel
theorem d_AckBookModel_due_44 : decode c_AckBookModel_due 44 = .ok (.ifCond .ne (19), 3) := by decide +kernel
theorem d_AckBookModel_due_47 : decode c_AckBookModel_due 47 = .ok (.aload_n 0, 1) := by decide +kernel
theorem d_AckBookModel_due_48 : decode c_AckBookModel_due 48 = .ok (.getfield 150, 3) := by decide +kernel
theorem d_AckBookModel_due_51 : decode c_AckBookModel_due 51 = .ok (.aload_n 0, 1) := by decide +kernel
theorem d_AckBookModel_due_52 : decode c_AckBookModel_due 52 = .ok (.getfield 97, 3) := by decide +kernel
theorem d_AckBookModel_due_55 : decode c_AckBookModel_due 55 = .ok (.iload_n 1, 1) := by decide +kernel
theorem d_AckBookModel_due_56 : decode c_AckBookModel_due 56 = .ok (.iaload, 1) := by decide +kernel
theorem d_AckBookModel_due_57 : decode c_AckBookModel_due 57 = .ok (.isub, 1) := by decide +kernel
theorem d_AckBookModel_due_58 : decode c_AckBookModel_due 58 = .ok (.bipush (25), 2) := by decide +kernel
theorem d_AckBookModel_due_60 : decode c_AckBookModel_due 60 = .ok (.if_icmp .lt (7), 3) := by decide +kernel
theorem d_AckBookModel_due_67 : decode c_AckBookModel_due 67 = .ok (.iconst (0), 1) := by decide +kernel
theorem d_AckBookModel_written_0 : decode c_AckBookModel_written 0 = .ok (.aload_n 0, 1) := by decide +kernel
theorem d_AckBookModel_written_1 : decode c_AckBookModel_written 1 = .ok (.iload_n 1, 1) := by decide +kernel
theorem d_AckBookModel_written_2 : decode c_AckBookModel_written 2 = .ok (.invokestatic 142, 3) := by decide +kernel
theorem d_AckBookModel_written_5 : decode c_AckBookModel_written 5 = .ok (.iconst (1), 1) := by decide +kernel
theorem d_AckBookModel_written_6 : decode c_AckBookModel_written 6 = .ok (.invokevirtual 146, 3) := by decide +kernel
theorem d_AckBookModel_written_9 : decode c_AckBookModel_written 9 = .ok (.ifCond .ne (34), 3) := by decide +kernel
theorem d_AckBookModel_written_12 : decode c_AckBookModel_written 12 = .ok (.aload_n 0, 1) := by decide +kernel
theorem d_AckBookModel_written_13 : decode c_AckBookModel_written 13 = .ok (.aload_n 0, 1) := by decide +kernel
theorem d_AckBookModel_written_14 : decode c_AckBookModel_written 14 = .ok (.getfield 79, 3) := by decide +kernel
theorem d_AckBookModel_written_17 : decode c_AckBookModel_written 17 = .ok (.iload_n 1, 1) := by decide +kernel
theorem d_AckBookModel_written_18 : decode c_AckBookModel_written 18 = .ok (.iaload, 1) := by decide +kernel
theorem d_AckBookModel_written_19 : decode c_AckBookModel_written 19 = .ok (.ifCond .eq (12), 3) := by decide +kernel
theorem d_AckBookModel_written_31 : decode c_AckBookModel_written 31 = .ok (.iconst (1), 1) := by decide +kernel
theorem d_AckBookModel_written_32 : decode c_AckBookModel_written 32 = .ok (.goto (4), 3) := by decide +kernel
theorem d_AckBookModel_written_36 : decode c_AckBookModel_written 36 = .ok (.iconst (2), 1) := by decide +kernel
theorem d_AckBookModel_written_37 : decode c_AckBookModel_written 37 = .ok (.invokevirtual 146, 3) := by decide +kernel
theorem d_AckBookModel_written_40 : decode c_AckBookModel_written 40 = .ok (.ifCond .eq (5), 3) := by decide +kernel
theorem d_AckBookModel_written_45 : decode c_AckBookModel_written 45 = .ok (.aload_n 0, 1) := by decide +kernel
theorem d_AckBookModel_written_46 : decode c_AckBookModel_written 46 = .ok (.getfield 94, 3) := by decide +kernel
theorem d_AckBookModel_written_49 : decode c_AckBookModel_written 49 = .ok (.iload_n 1, 1) := by decide +kernel
theorem d_AckBookModel_written_50 : decode c_AckBookModel_written 50 = .ok (.iconst (0), 1) := by decide +kernel
theorem d_AckBookModel_written_51 : decode c_AckBookModel_written 51 = .ok (.iastore, 1) := by decide +kernel
theorem d_AckBookModel_written_52 : decode c_AckBookModel_written 52 = .ok (.aload_n 0, 1) := by decide +kernel
theorem d_AckBookModel_written_53 : decode c_AckBookModel_written 53 = .ok (.getfield 100, 3) := by decide +kernel
theorem d_AckBookModel_written_56 : decode c_AckBookModel_written 56 = .ok (.iload_n 1, 1) := by decide +kernel
theorem d_AckBookModel_written_57 : decode c_AckBookModel_written 57 = .ok (.iconst (0), 1) := by decide +kernel
theorem d_AckBookModel_written_58 : decode c_AckBookModel_written 58 = .ok (.bastore, 1) := by decide +kernel
theorem d_AckBookModel_written_59 : decode c_AckBookModel_written 59 = .ok (.aload_n 0, 1) := by decide +kernel
theorem d_AckBookModel_written_60 : decode c_AckBookModel_written 60 = .ok (.getfield 150, 3) := by decide +kernel
theorem d_AckBookModel_written_63 : decode c_AckBookModel_written 63 = .ok (.aload_n 0, 1) := by decide +kernel
theorem d_AckBookModel_written_64 : decode c_AckBookModel_written 64 = .ok (.getfield 91, 3) := by decide +kernel
theorem d_AckBookModel_written_67 : decode c_AckBookModel_written 67 = .ok (.iload_n 1, 1) := by decide +kernel
