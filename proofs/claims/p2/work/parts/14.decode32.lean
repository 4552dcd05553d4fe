theorem d_AckBookModel_comeIn_196 : decode c_AckBookModel_comeIn 196 = .ok (.iload 4, 2) := by decide +kernel
theorem d_AckBookModel_comeIn_198 : decode c_AckBookModel_comeIn 198 = .ok (.laload, 1) := by decide +kernel
theorem d_AckBookModel_comeIn_199 : decode c_AckBookModel_comeIn 199 = .ok (.lastore, 1) := by decide +kernel
theorem d_AckBookModel_comeIn_200 : decode c_AckBookModel_comeIn 200 = .ok (.aload_n 0, 1) := by decide +kernel
theorem d_AckBookModel_comeIn_201 : decode c_AckBookModel_comeIn 201 = .ok (.iload_n 1, 1) := by decide +kernel
theorem d_AckBookModel_comeIn_202 : decode c_AckBookModel_comeIn 202 = .ok (.iload 4, 2) := by decide +kernel
theorem d_AckBookModel_comeIn_204 : decode c_AckBookModel_comeIn 204 = .ok (.invokevirtual 197, 3) := by decide +kernel
theorem d_AckBookModel_comeIn_118 : decode c_AckBookModel_comeIn 118 = .ok (.aload_n 0, 1) := by decide +kernel
theorem d_AckBookModel_comeIn_119 : decode c_AckBookModel_comeIn 119 = .ok (.getfield 82, 3) := by decide +kernel
theorem d_AckBookModel_comeIn_122 : decode c_AckBookModel_comeIn 122 = .ok (.iload 4, 2) := by decide +kernel
theorem d_AckBookModel_comeIn_124 : decode c_AckBookModel_comeIn 124 = .ok (.iconst (1), 1) := by decide +kernel
theorem d_AckBookModel_comeIn_125 : decode c_AckBookModel_comeIn 125 = .ok (.iadd, 1) := by decide +kernel
theorem d_AckBookModel_comeIn_126 : decode c_AckBookModel_comeIn 126 = .ok (.laload, 1) := by decide +kernel
theorem d_AckBookModel_comeIn_127 : decode c_AckBookModel_comeIn 127 = .ok (.lload_n 2, 1) := by decide +kernel
theorem d_AckBookModel_comeIn_128 : decode c_AckBookModel_comeIn 128 = .ok (.lconst 1, 1) := by decide +kernel
theorem d_AckBookModel_comeIn_129 : decode c_AckBookModel_comeIn 129 = .ok (.ladd, 1) := by decide +kernel
theorem d_AckBookModel_comeIn_130 : decode c_AckBookModel_comeIn 130 = .ok (.lcmp, 1) := by decide +kernel
theorem d_AckBookModel_comeIn_131 : decode c_AckBookModel_comeIn 131 = .ok (.ifCond .ne (28), 3) := by decide +kernel
theorem d_AckBookModel_comeIn_134 : decode c_AckBookModel_comeIn 134 = .ok (.aload_n 0, 1) := by decide +kernel
theorem d_AckBookModel_comeIn_135 : decode c_AckBookModel_comeIn 135 = .ok (.getfield 85, 3) := by decide +kernel
theorem d_AckBookModel_comeIn_138 : decode c_AckBookModel_comeIn 138 = .ok (.iload 4, 2) := by decide +kernel
theorem d_AckBookModel_comeIn_140 : decode c_AckBookModel_comeIn 140 = .ok (.aload_n 0, 1) := by decide +kernel
theorem d_AckBookModel_comeIn_141 : decode c_AckBookModel_comeIn 141 = .ok (.getfield 85, 3) := by decide +kernel
theorem d_AckBookModel_comeIn_144 : decode c_AckBookModel_comeIn 144 = .ok (.iload 4, 2) := by decide +kernel
theorem d_AckBookModel_comeIn_146 : decode c_AckBookModel_comeIn 146 = .ok (.iconst (1), 1) := by decide +kernel
theorem d_AckBookModel_comeIn_147 : decode c_AckBookModel_comeIn 147 = .ok (.iadd, 1) := by decide +kernel
theorem d_AckBookModel_comeIn_148 : decode c_AckBookModel_comeIn 148 = .ok (.laload, 1) := by decide +kernel
theorem d_AckBookModel_comeIn_149 : decode c_AckBookModel_comeIn 149 = .ok (.lastore, 1) := by decide +kernel
theorem d_AckBookModel_comeIn_150 : decode c_AckBookModel_comeIn 150 = .ok (.aload_n 0, 1) := by decide +kernel
theorem d_AckBookModel_comeIn_151 : decode c_AckBookModel_comeIn 151 = .ok (.iload_n 1, 1) := by decide +kernel
theorem d_AckBookModel_comeIn_152 : decode c_AckBookModel_comeIn 152 = .ok (.iload 4, 2) := by decide +kernel
theorem d_AckBookModel_comeIn_154 : decode c_AckBookModel_comeIn 154 = .ok (.iconst (1), 1) := by decide +kernel
theorem d_AckBookModel_comeIn_155 : decode c_AckBookModel_comeIn 155 = .ok (.iadd, 1) := by decide +kernel
theorem d_AckBookModel_comeIn_156 : decode c_AckBookModel_comeIn 156 = .ok (.invokevirtual 197, 3) := by decide +kernel
theorem d_AckBookModel_comeIn_22 : decode c_AckBookModel_comeIn 22 = .ok (.aload_n 0, 1) := by decide +kernel
theorem d_AckBookModel_comeIn_23 : decode c_AckBookModel_comeIn 23 = .ok (.getfield 82, 3) := by decide +kernel
theorem d_AckBookModel_comeIn_26 : decode c_AckBookModel_comeIn 26 = .ok (.iload 4, 2) := by decide +kernel
theorem d_AckBookModel_comeIn_28 : decode c_AckBookModel_comeIn 28 = .ok (.iconst (1), 1) := by decide +kernel
theorem d_AckBookModel_comeIn_29 : decode c_AckBookModel_comeIn 29 = .ok (.isub, 1) := by decide +kernel
theorem d_AckBookModel_comeIn_30 : decode c_AckBookModel_comeIn 30 = .ok (.laload, 1) := by decide +kernel
theorem d_AckBookModel_comeIn_31 : decode c_AckBookModel_comeIn 31 = .ok (.lload_n 2, 1) := by decide +kernel
theorem d_AckBookModel_comeIn_32 : decode c_AckBookModel_comeIn 32 = .ok (.lcmp, 1) := by decide +kernel
theorem d_AckBookModel_comeIn_33 : decode c_AckBookModel_comeIn 33 = .ok (.ifCond .le (41), 3) := by decide +kernel
theorem d_AckBookModel_comeIn_36 : decode c_AckBookModel_comeIn 36 = .ok (.aload_n 0, 1) := by decide +kernel
theorem d_AckBookModel_comeIn_37 : decode c_AckBookModel_comeIn 37 = .ok (.getfield 82, 3) := by decide +kernel
theorem d_AckBookModel_comeIn_40 : decode c_AckBookModel_comeIn 40 = .ok (.iload 4, 2) := by decide +kernel
theorem d_AckBookModel_comeIn_42 : decode c_AckBookModel_comeIn 42 = .ok (.aload_n 0, 1) := by decide +kernel
theorem d_AckBookModel_comeIn_43 : decode c_AckBookModel_comeIn 43 = .ok (.getfield 82, 3) := by decide +kernel
theorem d_AckBookModel_comeIn_46 : decode c_AckBookModel_comeIn 46 = .ok (.iload 4, 2) := by decide +kernel
theorem d_AckBookModel_comeIn_48 : decode c_AckBookModel_comeIn 48 = .ok (.iconst (1), 1) := by decide +kernel
theorem d_AckBookModel_comeIn_49 : decode c_AckBookModel_comeIn 49 = .ok (.isub, 1) := by decide +kernel
theorem d_AckBookModel_comeIn_50 : decode c_AckBookModel_comeIn 50 = .ok (.laload, 1) := by decide +kernel
theorem d_AckBookModel_comeIn_51 : decode c_AckBookModel_comeIn 51 = .ok (.lastore, 1) := by decide +kernel
theorem d_AckBookModel_comeIn_52 : decode c_AckBookModel_comeIn 52 = .ok (.aload_n 0, 1) := by decide +kernel
theorem d_AckBookModel_comeIn_53 : decode c_AckBookModel_comeIn 53 = .ok (.getfield 85, 3) := by decide +kernel
theorem d_AckBookModel_comeIn_56 : decode c_AckBookModel_comeIn 56 = .ok (.iload 4, 2) := by decide +kernel
theorem d_AckBookModel_comeIn_58 : decode c_AckBookModel_comeIn 58 = .ok (.aload_n 0, 1) := by decide +kernel
theorem d_AckBookModel_comeIn_59 : decode c_AckBookModel_comeIn 59 = .ok (.getfield 85, 3) := by decide +kernel
theorem d_AckBookModel_comeIn_62 : decode c_AckBookModel_comeIn 62 = .ok (.iload 4, 2) := by decide +kernel
theorem d_AckBookModel_comeIn_64 : decode c_AckBookModel_comeIn 64 = .ok (.iconst (1), 1) := by decide +kernel
theorem d_AckBookModel_comeIn_65 : decode c_AckBookModel_comeIn 65 = .ok (.isub, 1) := by decide +kernel
theorem d_AckBookModel_comeIn_66 : decode c_AckBookModel_comeIn 66 = .ok (.laload, 1) := by decide +kernel
theorem d_AckBookModel_comeIn_67 : decode c_AckBookModel_comeIn 67 = .ok (.lastore, 1) := by decide +kernel
theorem d_AckBookModel_comeIn_68 : decode c_AckBookModel_comeIn 68 = .ok (.iinc 4 (-1), 3) := by decide +kernel
theorem d_AckBookModel_comeIn_71 : decode c_AckBookModel_comeIn 71 = .ok (.goto (-58), 3) := by decide +kernel
theorem d_AckBookModel_comeIn_0 : decode c_AckBookModel_comeIn 0 = .ok (.bipush (65), 2) := by decide +kernel
theorem d_AckBookModel_comeIn_2 : decode c_AckBookModel_comeIn 2 = .ok (.iload_n 1, 1) := by decide +kernel
theorem d_AckBookModel_comeIn_3 : decode c_AckBookModel_comeIn 3 = .ok (.imul, 1) := by decide +kernel
theorem d_AckBookModel_comeIn_4 : decode c_AckBookModel_comeIn 4 = .ok (.aload_n 0, 1) := by decide +kernel
theorem d_AckBookModel_comeIn_5 : decode c_AckBookModel_comeIn 5 = .ok (.getfield 79, 3) := by decide +kernel
theorem d_AckBookModel_comeIn_8 : decode c_AckBookModel_comeIn 8 = .ok (.iload_n 1, 1) := by decide +kernel
theorem d_AckBookModel_comeIn_9 : decode c_AckBookModel_comeIn 9 = .ok (.iaload, 1) := by decide +kernel
theorem d_AckBookModel_comeIn_10 : decode c_AckBookModel_comeIn 10 = .ok (.iadd, 1) := by decide +kernel
theorem d_AckBookModel_comeIn_11 : decode c_AckBookModel_comeIn 11 = .ok (.istore 4, 2) := by decide +kernel
theorem d_AckBookModel_came_0 : decode c_AckBookModel_came 0 = .ok (.aload_n 0, 1) := by decide +kernel
theorem d_AckBookModel_came_1 : decode c_AckBookModel_came 1 = .ok (.iload_n 1, 1) := by decide +kernel
theorem d_AckBookModel_came_2 : decode c_AckBookModel_came 2 = .ok (.invokestatic 142, 3) := by decide +kernel
theorem d_AckBookModel_came_5 : decode c_AckBookModel_came 5 = .ok (.ifCond .ne (17), 3) := by decide +kernel
theorem d_AckBookModel_came_8 : decode c_AckBookModel_came 8 = .ok (.lload_n 2, 1) := by decide +kernel
theorem d_AckBookModel_came_9 : decode c_AckBookModel_came 9 = .ok (.lconst 0, 1) := by decide +kernel
theorem d_AckBookModel_came_10 : decode c_AckBookModel_came 10 = .ok (.lcmp, 1) := by decide +kernel
theorem d_AckBookModel_came_11 : decode c_AckBookModel_came 11 = .ok (.ifCond .lt (11), 3) := by decide +kernel
theorem d_AckBookModel_came_22 : decode c_AckBookModel_came 22 = .ok (.iconst (1), 1) := by decide +kernel
theorem d_AckBookModel_came_23 : decode c_AckBookModel_came 23 = .ok (.goto (4), 3) := by decide +kernel
theorem d_AckBookModel_came_27 : decode c_AckBookModel_came 27 = .ok (.iconst (1), 1) := by decide +kernel
theorem d_AckBookModel_came_28 : decode c_AckBookModel_came 28 = .ok (.invokevirtual 146, 3) := by decide +kernel
theorem d_AckBookModel_came_31 : decode c_AckBookModel_came 31 = .ok (.ifCond .ne (26), 3) := by decide +kernel
theorem d_AckBookModel_came_34 : decode c_AckBookModel_came 34 = .ok (.aload_n 0, 1) := by decide +kernel
theorem d_AckBookModel_came_35 : decode c_AckBookModel_came 35 = .ok (.aload_n 0, 1) := by decide +kernel
theorem d_AckBookModel_came_36 : decode c_AckBookModel_came 36 = .ok (.getfield 32, 3) := by decide +kernel
theorem d_AckBookModel_came_39 : decode c_AckBookModel_came 39 = .ok (.iload_n 1, 1) := by decide +kernel
theorem d_AckBookModel_came_40 : decode c_AckBookModel_came 40 = .ok (.baload, 1) := by decide +kernel
theorem d_AckBookModel_came_41 : decode c_AckBookModel_came 41 = .ok (.iconst (2), 1) := by decide +kernel
theorem d_AckBookModel_came_42 : decode c_AckBookModel_came 42 = .ok (.invokevirtual 146, 3) := by decide +kernel
theorem d_AckBookModel_came_45 : decode c_AckBookModel_came 45 = .ok (.ifCond .ne (12), 3) := by decide +kernel
theorem d_AckBookModel_came_48 : decode c_AckBookModel_came 48 = .ok (.aload_n 0, 1) := by decide +kernel
theorem d_AckBookModel_came_49 : decode c_AckBookModel_came 49 = .ok (.iload_n 1, 1) := by decide +kernel
theorem d_AckBookModel_came_50 : decode c_AckBookModel_came 50 = .ok (.lload_n 2, 1) := by decide +kernel
theorem d_AckBookModel_came_51 : decode c_AckBookModel_came 51 = .ok (.invokevirtual 202, 3) := by decide +kernel
theorem d_AckBookModel_came_54 : decode c_AckBookModel_came 54 = .ok (.ifCond .eq (5), 3) := by decide +kernel
theorem d_AckBookModel_came_59 : decode c_AckBookModel_came 59 = .ok (.aload_n 0, 1) := by decide +kernel
theorem d_AckBookModel_came_60 : decode c_AckBookModel_came 60 = .ok (.iload_n 1, 1) := by decide +kernel
theorem d_AckBookModel_came_61 : decode c_AckBookModel_came 61 = .ok (.invokevirtual 206, 3) := by decide +kernel
theorem d_AckBookModel_came_64 : decode c_AckBookModel_came 64 = .ok (.lstore 5, 2) := by decide +kernel
theorem d_AckBookModel_came_66 : decode c_AckBookModel_came 66 = .ok (.lload_n 2, 1) := by decide +kernel
theorem d_AckBookModel_came_67 : decode c_AckBookModel_came 67 = .ok (.lload 5, 2) := by decide +kernel
theorem d_AckBookModel_came_69 : decode c_AckBookModel_came 69 = .ok (.lcmp, 1) := by decide +kernel
theorem d_AckBookModel_came_70 : decode c_AckBookModel_came 70 = .ok (.ifCond .le (13), 3) := by decide +kernel
theorem d_AckBookModel_came_83 : decode c_AckBookModel_came 83 = .ok (.aload_n 0, 1) := by decide +kernel
theorem d_AckBookModel_came_84 : decode c_AckBookModel_came 84 = .ok (.iload_n 1, 1) := by decide +kernel
theorem d_AckBookModel_came_85 : decode c_AckBookModel_came 85 = .ok (.lload_n 2, 1) := by decide +kernel
theorem d_AckBookModel_came_86 : decode c_AckBookModel_came 86 = .ok (.invokevirtual 210, 3) := by decide +kernel
theorem d_AckBookModel_came_89 : decode c_AckBookModel_came 89 = .ok (.iload 4, 2) := by decide +kernel
theorem d_AckBookModel_came_91 : decode c_AckBookModel_came 91 = .ok (.ifCond .ne (5), 3) := by decide +kernel
theorem d_AckBookModel_came_94 : decode c_AckBookModel_came 94 = .ok (.iconst (1), 1) := by decide +kernel
theorem d_AckBookModel_came_95 : decode c_AckBookModel_came 95 = .ok (.ireturn, 1) := by decide +kernel
theorem d_AckBookModel_came_96 : decode c_AckBookModel_came 96 = .ok (.aload_n 0, 1) := by decide +kernel
theorem d_AckBookModel_came_97 : decode c_AckBookModel_came 97 = .ok (.getfield 94, 3) := by decide +kernel
theorem d_AckBookModel_came_100 : decode c_AckBookModel_came 100 = .ok (.iload_n 1, 1) := by decide +kernel
theorem d_AckBookModel_came_101 : decode c_AckBookModel_came 101 = .ok (.iaload, 1) := by decide +kernel
