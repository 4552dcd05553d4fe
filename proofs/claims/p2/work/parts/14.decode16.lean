theorem d_AckBook_due_32 : decode c_AckBook_due 32 = .ok (.getfield 197, 3) := by decide +kernel
theorem d_AckBook_due_35 : decode c_AckBook_due 35 = .ok (.ifCond .le (7), 3) := by decide +kernel
theorem d_AckBook_due_42 : decode c_AckBook_due 42 = .ok (.iconst (0), 1) := by decide +kernel
theorem d_AckBook_due_38 : decode c_AckBook_due 38 = .ok (.iconst (1), 1) := by decide +kernel
theorem d_AckBook_due_39 : decode c_AckBook_due 39 = .ok (.goto (4), 3) := by decide +kernel
theorem d_AckBook_Arrivals_settle_0 : decode c_AckBook_Arrivals_settle 0 = .ok (.aload_n 0, 1) := by decide +kernel
theorem d_AckBook_Arrivals_settle_1 : decode c_AckBook_Arrivals_settle 1 = .ok (.iconst (0), 1) := by decide +kernel
theorem d_AckBook_Arrivals_settle_2 : decode c_AckBook_Arrivals_settle 2 = .ok (.putfield 50, 3) := by decide +kernel
theorem d_AckBook_Arrivals_settle_5 : decode c_AckBook_Arrivals_settle 5 = .ok (.aload_n 0, 1) := by decide +kernel
theorem d_AckBook_Arrivals_settle_6 : decode c_AckBook_Arrivals_settle 6 = .ok (.iconst (0), 1) := by decide +kernel
theorem d_AckBook_Arrivals_settle_7 : decode c_AckBook_Arrivals_settle 7 = .ok (.putfield 56, 3) := by decide +kernel
theorem d_AckBook_Arrivals_settle_10 : decode c_AckBook_Arrivals_settle 10 = .ok (.iload_n 1, 1) := by decide +kernel
theorem d_AckBook_Arrivals_settle_11 : decode c_AckBook_Arrivals_settle 11 = .ok (.aload_n 0, 1) := by decide +kernel
theorem d_AckBook_Arrivals_settle_12 : decode c_AckBook_Arrivals_settle 12 = .ok (.getfield 40, 3) := by decide +kernel
theorem d_AckBook_Arrivals_settle_15 : decode c_AckBook_Arrivals_settle 15 = .ok (.isub, 1) := by decide +kernel
theorem d_AckBook_Arrivals_settle_16 : decode c_AckBook_Arrivals_settle 16 = .ok (.ireturn, 1) := by decide +kernel
theorem d_AckBook_written_0 : decode c_AckBook_written 0 = .ok (.aload_n 0, 1) := by decide +kernel
theorem d_AckBook_written_1 : decode c_AckBook_written 1 = .ok (.iload_n 1, 1) := by decide +kernel
theorem d_AckBook_written_2 : decode c_AckBook_written 2 = .ok (.invokevirtual 39, 3) := by decide +kernel
theorem d_AckBook_written_5 : decode c_AckBook_written 5 = .ok (.astore_n 2, 1) := by decide +kernel
theorem d_AckBook_written_6 : decode c_AckBook_written 6 = .ok (.aload_n 2, 1) := by decide +kernel
theorem d_AckBook_written_7 : decode c_AckBook_written 7 = .ok (.invokestatic 52, 3) := by decide +kernel
theorem d_AckBook_written_10 : decode c_AckBook_written 10 = .ok (.aload_n 2, 1) := by decide +kernel
theorem d_AckBook_written_11 : decode c_AckBook_written 11 = .ok (.getfield 157, 3) := by decide +kernel
theorem d_AckBook_written_14 : decode c_AckBook_written 14 = .ok (.getfield 200, 3) := by decide +kernel
theorem d_AckBook_written_17 : decode c_AckBook_written 17 = .ok (.ifCond .ne (13), 3) := by decide +kernel
theorem d_AckBook_written_20 : decode c_AckBook_written 20 = .ok (.new 66, 3) := by decide +kernel
theorem d_AckBook_written_23 : decode c_AckBook_written 23 = .ok (.dup, 1) := by decide +kernel
theorem d_AckBook_written_24 : decode c_AckBook_written 24 = .ok (.ldc 202, 2) := by decide +kernel
theorem d_AckBook_written_26 : decode c_AckBook_written 26 = .ok (.invokespecial 70, 3) := by decide +kernel
theorem d_AckBook_written_29 : decode c_AckBook_written 29 = .ok (.athrow, 1) := by decide +kernel
theorem d_AckBook_written_30 : decode c_AckBook_written 30 = .ok (.aload_n 2, 1) := by decide +kernel
theorem d_AckBook_written_31 : decode c_AckBook_written 31 = .ok (.getfield 157, 3) := by decide +kernel
theorem d_AckBook_written_34 : decode c_AckBook_written 34 = .ok (.aload_n 0, 1) := by decide +kernel
theorem d_AckBook_written_35 : decode c_AckBook_written 35 = .ok (.getfield 73, 3) := by decide +kernel
theorem d_AckBook_written_38 : decode c_AckBook_written 38 = .ok (.invokevirtual 204, 3) := by decide +kernel
theorem d_AckBook_written_41 : decode c_AckBook_written 41 = .ok (.ireturn, 1) := by decide +kernel
theorem d_AckBook_range_0 : decode c_AckBook_range 0 = .ok (.aload_n 0, 1) := by decide +kernel
theorem d_AckBook_range_1 : decode c_AckBook_range 1 = .ok (.iload_n 1, 1) := by decide +kernel
theorem d_AckBook_range_2 : decode c_AckBook_range 2 = .ok (.invokevirtual 39, 3) := by decide +kernel
theorem d_AckBook_range_5 : decode c_AckBook_range 5 = .ok (.getfield 157, 3) := by decide +kernel
theorem d_AckBook_range_8 : decode c_AckBook_range 8 = .ok (.astore 4, 2) := by decide +kernel
theorem d_AckBook_range_10 : decode c_AckBook_range 10 = .ok (.iload_n 2, 1) := by decide +kernel
theorem d_AckBook_range_11 : decode c_AckBook_range 11 = .ok (.ifCond .lt (12), 3) := by decide +kernel
theorem d_AckBook_range_23 : decode c_AckBook_range 23 = .ok (.new 207, 3) := by decide +kernel
theorem d_AckBook_range_14 : decode c_AckBook_range 14 = .ok (.iload_n 2, 1) := by decide +kernel
theorem d_AckBook_range_15 : decode c_AckBook_range 15 = .ok (.aload 4, 2) := by decide +kernel
theorem d_AckBook_range_17 : decode c_AckBook_range 17 = .ok (.getfield 200, 3) := by decide +kernel
theorem d_AckBook_range_20 : decode c_AckBook_range 20 = .ok (.if_icmp .lt (13), 3) := by decide +kernel
theorem d_AckBook_range_33 : decode c_AckBook_range 33 = .ok (.iload_n 3, 1) := by decide +kernel
theorem d_AckBook_range_34 : decode c_AckBook_range 34 = .ok (.ifCond .eq (13), 3) := by decide +kernel
theorem d_AckBook_range_47 : decode c_AckBook_range 47 = .ok (.aload 4, 2) := by decide +kernel
theorem d_AckBook_range_49 : decode c_AckBook_range 49 = .ok (.getfield 216, 3) := by decide +kernel
theorem d_AckBook_range_52 : decode c_AckBook_range 52 = .ok (.iload_n 2, 1) := by decide +kernel
theorem d_AckBook_range_53 : decode c_AckBook_range 53 = .ok (.laload, 1) := by decide +kernel
theorem d_AckBook_range_54 : decode c_AckBook_range 54 = .ok (.lreturn, 1) := by decide +kernel
theorem d_AckBook_range_37 : decode c_AckBook_range 37 = .ok (.aload 4, 2) := by decide +kernel
theorem d_AckBook_range_39 : decode c_AckBook_range 39 = .ok (.getfield 212, 3) := by decide +kernel
theorem d_AckBook_range_42 : decode c_AckBook_range 42 = .ok (.iload_n 2, 1) := by decide +kernel
theorem d_AckBook_range_43 : decode c_AckBook_range 43 = .ok (.laload, 1) := by decide +kernel
theorem d_AckBook_range_44 : decode c_AckBook_range 44 = .ok (.goto (10), 3) := by decide +kernel
theorem d_AckBook_look_0 : decode c_AckBook_look 0 = .ok (.iload_n 1, 1) := by decide +kernel
theorem d_AckBook_look_1 : decode c_AckBook_look 1 = .ok (.tableswitch (165) (0) (11) #[63, 68, 76, 84, 92, 100, 108, 116, 124, 132, 137, 145], 63) := by decide +kernel
theorem d_AckBook_look_64 : decode c_AckBook_look 64 = .ok (.aload_n 0, 1) := by decide +kernel
theorem d_AckBook_look_65 : decode c_AckBook_look 65 = .ok (.getfield 73, 3) := by decide +kernel
theorem d_AckBook_look_68 : decode c_AckBook_look 68 = .ok (.ireturn, 1) := by decide +kernel
theorem d_AckBook_look_69 : decode c_AckBook_look 69 = .ok (.aload_n 0, 1) := by decide +kernel
theorem d_AckBook_look_70 : decode c_AckBook_look 70 = .ok (.getfield 35, 3) := by decide +kernel
theorem d_AckBook_look_73 : decode c_AckBook_look 73 = .ok (.getfield 219, 3) := by decide +kernel
theorem d_AckBook_look_76 : decode c_AckBook_look 76 = .ok (.ireturn, 1) := by decide +kernel
theorem d_AckBook_look_77 : decode c_AckBook_look 77 = .ok (.aload_n 0, 1) := by decide +kernel
theorem d_AckBook_look_78 : decode c_AckBook_look 78 = .ok (.getfield 35, 3) := by decide +kernel
theorem d_AckBook_look_81 : decode c_AckBook_look 81 = .ok (.getfield 222, 3) := by decide +kernel
theorem d_AckBook_look_84 : decode c_AckBook_look 84 = .ok (.ireturn, 1) := by decide +kernel
theorem d_AckBook_look_85 : decode c_AckBook_look 85 = .ok (.aload_n 0, 1) := by decide +kernel
theorem d_AckBook_look_86 : decode c_AckBook_look 86 = .ok (.getfield 35, 3) := by decide +kernel
theorem d_AckBook_look_89 : decode c_AckBook_look 89 = .ok (.getfield 225, 3) := by decide +kernel
theorem d_AckBook_look_92 : decode c_AckBook_look 92 = .ok (.ireturn, 1) := by decide +kernel
theorem d_AckBook_look_93 : decode c_AckBook_look 93 = .ok (.aload_n 0, 1) := by decide +kernel
theorem d_AckBook_look_94 : decode c_AckBook_look 94 = .ok (.getfield 35, 3) := by decide +kernel
theorem d_AckBook_look_97 : decode c_AckBook_look 97 = .ok (.getfield 228, 3) := by decide +kernel
theorem d_AckBook_look_100 : decode c_AckBook_look 100 = .ok (.ireturn, 1) := by decide +kernel
theorem d_AckBook_look_101 : decode c_AckBook_look 101 = .ok (.aload_n 0, 1) := by decide +kernel
theorem d_AckBook_look_102 : decode c_AckBook_look 102 = .ok (.getfield 28, 3) := by decide +kernel
theorem d_AckBook_look_105 : decode c_AckBook_look 105 = .ok (.getfield 231, 3) := by decide +kernel
theorem d_AckBook_look_108 : decode c_AckBook_look 108 = .ok (.ireturn, 1) := by decide +kernel
theorem d_AckBook_look_109 : decode c_AckBook_look 109 = .ok (.aload_n 0, 1) := by decide +kernel
theorem d_AckBook_look_110 : decode c_AckBook_look 110 = .ok (.getfield 28, 3) := by decide +kernel
theorem d_AckBook_look_113 : decode c_AckBook_look 113 = .ok (.getfield 234, 3) := by decide +kernel
theorem d_AckBook_look_116 : decode c_AckBook_look 116 = .ok (.ireturn, 1) := by decide +kernel
theorem d_AckBook_look_117 : decode c_AckBook_look 117 = .ok (.aload_n 0, 1) := by decide +kernel
theorem d_AckBook_look_118 : decode c_AckBook_look 118 = .ok (.getfield 28, 3) := by decide +kernel
theorem d_AckBook_look_121 : decode c_AckBook_look 121 = .ok (.getfield 237, 3) := by decide +kernel
theorem d_AckBook_look_124 : decode c_AckBook_look 124 = .ok (.ireturn, 1) := by decide +kernel
theorem d_AckBook_look_125 : decode c_AckBook_look 125 = .ok (.aload_n 0, 1) := by decide +kernel
theorem d_AckBook_look_126 : decode c_AckBook_look 126 = .ok (.getfield 28, 3) := by decide +kernel
theorem d_AckBook_look_129 : decode c_AckBook_look 129 = .ok (.getfield 240, 3) := by decide +kernel
theorem d_AckBook_look_132 : decode c_AckBook_look 132 = .ok (.ireturn, 1) := by decide +kernel
theorem d_AckBook_look_133 : decode c_AckBook_look 133 = .ok (.aload_n 0, 1) := by decide +kernel
theorem d_AckBook_look_134 : decode c_AckBook_look 134 = .ok (.getfield 137, 3) := by decide +kernel
theorem d_AckBook_look_137 : decode c_AckBook_look 137 = .ok (.ireturn, 1) := by decide +kernel
theorem d_AckBook_look_138 : decode c_AckBook_look 138 = .ok (.aload_n 0, 1) := by decide +kernel
theorem d_AckBook_look_139 : decode c_AckBook_look 139 = .ok (.getfield 28, 3) := by decide +kernel
theorem d_AckBook_look_142 : decode c_AckBook_look 142 = .ok (.invokevirtual 243, 3) := by decide +kernel
theorem d_AckBook_look_145 : decode c_AckBook_look 145 = .ok (.ireturn, 1) := by decide +kernel
theorem d_AckBook_look_146 : decode c_AckBook_look 146 = .ok (.aload_n 0, 1) := by decide +kernel
theorem d_AckBook_look_147 : decode c_AckBook_look 147 = .ok (.getfield 35, 3) := by decide +kernel
theorem d_AckBook_look_150 : decode c_AckBook_look 150 = .ok (.getfield 222, 3) := by decide +kernel
theorem d_AckBook_look_153 : decode c_AckBook_look 153 = .ok (.aload_n 0, 1) := by decide +kernel
theorem d_AckBook_look_154 : decode c_AckBook_look 154 = .ok (.getfield 35, 3) := by decide +kernel
theorem d_AckBook_look_157 : decode c_AckBook_look 157 = .ok (.getfield 219, 3) := by decide +kernel
theorem d_AckBook_look_160 : decode c_AckBook_look 160 = .ok (.isub, 1) := by decide +kernel
theorem d_AckBook_look_161 : decode c_AckBook_look 161 = .ok (.iconst (0), 1) := by decide +kernel
theorem d_AckBook_look_162 : decode c_AckBook_look 162 = .ok (.invokestatic 246, 3) := by decide +kernel
theorem d_AckBook_look_165 : decode c_AckBook_look 165 = .ok (.ireturn, 1) := by decide +kernel
theorem d_AckBook_look_166 : decode c_AckBook_look 166 = .ok (.new 207, 3) := by decide +kernel
theorem d_AckBook_space_0 : decode c_AckBook_space 0 = .ok (.aload_n 0, 1) := by decide +kernel
theorem d_AckBook_space_1 : decode c_AckBook_space 1 = .ok (.iload_n 1, 1) := by decide +kernel
theorem d_AckBook_space_2 : decode c_AckBook_space 2 = .ok (.invokevirtual 39, 3) := by decide +kernel
theorem d_AckBook_space_5 : decode c_AckBook_space 5 = .ok (.astore_n 3, 1) := by decide +kernel
