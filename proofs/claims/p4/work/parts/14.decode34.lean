theorem d_AckBookModel_comeIn_128 : decode c_AckBookModel_comeIn 128 = .ok (.lconst 1, 1) := by decide +kernel
theorem d_AckBookModel_comeIn_129 : decode c_AckBookModel_comeIn 129 = .ok (.ladd, 1) := by decide +kernel
theorem d_AckBookModel_comeIn_130 : decode c_AckBookModel_comeIn 130 = .ok (.lcmp, 1) := by decide +kernel
theorem d_AckBookModel_comeIn_131 : decode c_AckBookModel_comeIn 131 = .ok (.ifCond .ne (28), 3) := by decide +kernel
theorem d_AckBookModel_comeIn_134 : decode c_AckBookModel_comeIn 134 = .ok (.aload_n 0, 1) := by decide +kernel
theorem d_AckBookModel_comeIn_135 : decode c_AckBookModel_comeIn 135 = .ok (.getfield 85, 3) := by decide +kernel
theorem d_AckBookModel_comeIn_138 : decode c_AckBookModel_comeIn 138 = .ok (.iload 4, 2) := by decide +kernel
theorem d_AckBookModel_comeIn_140 : decode c_AckBookModel_comeIn 140 = .ok (.aload_n 0, 1) := by decide +kernel
theorem d_AckBookModel_comeIn_141 : decode c_AckBookModel_comeIn 141 = .ok (.getfield 85, 3) := by decide +kernel
theorem d_AckBookModel_comeIn_144 : decode c_AckBookModel_comeIn 144 = .ok (.iload 4, 2) := by decide +kernel
theorem d_AckBookModel_comeIn_146 : decode c_AckBookModel_comeIn 146 = .ok (.iconst (1), 1) := by decide +kernel
theorem d_AckBookModel_comeIn_147 : decode c_AckBookModel_comeIn 147 = .ok (.iadd, 1) := by decide +kernel
theorem d_AckBookModel_comeIn_148 : decode c_AckBookModel_comeIn 148 = .ok (.laload, 1) := by decide +kernel
theorem d_AckBookModel_comeIn_149 : decode c_AckBookModel_comeIn 149 = .ok (.lastore, 1) := by decide +kernel
theorem d_AckBookModel_comeIn_150 : decode c_AckBookModel_comeIn 150 = .ok (.aload_n 0, 1) := by decide +kernel
theorem d_AckBookModel_comeIn_151 : decode c_AckBookModel_comeIn 151 = .ok (.iload_n 1, 1) := by decide +kernel
theorem d_AckBookModel_comeIn_152 : decode c_AckBookModel_comeIn 152 = .ok (.iload 4, 2) := by decide +kernel
theorem d_AckBookModel_comeIn_154 : decode c_AckBookModel_comeIn 154 = .ok (.iconst (1), 1) := by decide +kernel
theorem d_AckBookModel_comeIn_155 : decode c_AckBookModel_comeIn 155 = .ok (.iadd, 1) := by decide +kernel
theorem d_AckBookModel_comeIn_156 : decode c_AckBookModel_comeIn 156 = .ok (.invokevirtual 197, 3) := by decide +kernel
theorem d_AckBookModel_comeIn_13 : decode c_AckBookModel_comeIn 13 = .ok (.iload 4, 2) := by decide +kernel
theorem d_AckBookModel_comeIn_15 : decode c_AckBookModel_comeIn 15 = .ok (.bipush (65), 2) := by decide +kernel
theorem d_AckBookModel_comeIn_17 : decode c_AckBookModel_comeIn 17 = .ok (.iload_n 1, 1) := by decide +kernel
theorem d_AckBookModel_comeIn_18 : decode c_AckBookModel_comeIn 18 = .ok (.imul, 1) := by decide +kernel
theorem d_AckBookModel_comeIn_19 : decode c_AckBookModel_comeIn 19 = .ok (.if_icmp .le (55), 3) := by decide +kernel
theorem d_AckBookModel_comeIn_22 : decode c_AckBookModel_comeIn 22 = .ok (.aload_n 0, 1) := by decide +kernel
theorem d_AckBookModel_comeIn_23 : decode c_AckBookModel_comeIn 23 = .ok (.getfield 82, 3) := by decide +kernel
theorem d_AckBookModel_comeIn_26 : decode c_AckBookModel_comeIn 26 = .ok (.iload 4, 2) := by decide +kernel
theorem d_AckBookModel_comeIn_28 : decode c_AckBookModel_comeIn 28 = .ok (.iconst (1), 1) := by decide +kernel
theorem d_AckBookModel_comeIn_29 : decode c_AckBookModel_comeIn 29 = .ok (.isub, 1) := by decide +kernel
theorem d_AckBookModel_comeIn_30 : decode c_AckBookModel_comeIn 30 = .ok (.laload, 1) := by decide +kernel
theorem d_AckBookModel_comeIn_31 : decode c_AckBookModel_comeIn 31 = .ok (.lload_n 2, 1) := by decide +kernel
theorem d_AckBookModel_comeIn_32 : decode c_AckBookModel_comeIn 32 = .ok (.lcmp, 1) := by decide +kernel
theorem d_AckBookModel_comeIn_33 : decode c_AckBookModel_comeIn 33 = .ok (.ifCond .le (41), 3) := by decide +kernel
theorem d_AckBookModel_comeIn_36 : decode c_AckBookModel_comeIn 36 = .ok (.aload_n 0, 1) := by decide +kernel
theorem d_AckBookModel_comeIn_37 : decode c_AckBookModel_comeIn 37 = .ok (.getfield 82, 3) := by decide +kernel
theorem d_AckBookModel_comeIn_40 : decode c_AckBookModel_comeIn 40 = .ok (.iload 4, 2) := by decide +kernel
theorem d_AckBookModel_comeIn_42 : decode c_AckBookModel_comeIn 42 = .ok (.aload_n 0, 1) := by decide +kernel
theorem d_AckBookModel_comeIn_43 : decode c_AckBookModel_comeIn 43 = .ok (.getfield 82, 3) := by decide +kernel
theorem d_AckBookModel_comeIn_46 : decode c_AckBookModel_comeIn 46 = .ok (.iload 4, 2) := by decide +kernel
theorem d_AckBookModel_comeIn_48 : decode c_AckBookModel_comeIn 48 = .ok (.iconst (1), 1) := by decide +kernel
theorem d_AckBookModel_comeIn_49 : decode c_AckBookModel_comeIn 49 = .ok (.isub, 1) := by decide +kernel
theorem d_AckBookModel_comeIn_50 : decode c_AckBookModel_comeIn 50 = .ok (.laload, 1) := by decide +kernel
theorem d_AckBookModel_comeIn_51 : decode c_AckBookModel_comeIn 51 = .ok (.lastore, 1) := by decide +kernel
theorem d_AckBookModel_comeIn_52 : decode c_AckBookModel_comeIn 52 = .ok (.aload_n 0, 1) := by decide +kernel
theorem d_AckBookModel_comeIn_53 : decode c_AckBookModel_comeIn 53 = .ok (.getfield 85, 3) := by decide +kernel
theorem d_AckBookModel_comeIn_56 : decode c_AckBookModel_comeIn 56 = .ok (.iload 4, 2) := by decide +kernel
theorem d_AckBookModel_comeIn_58 : decode c_AckBookModel_comeIn 58 = .ok (.aload_n 0, 1) := by decide +kernel
theorem d_AckBookModel_comeIn_59 : decode c_AckBookModel_comeIn 59 = .ok (.getfield 85, 3) := by decide +kernel
theorem d_AckBookModel_comeIn_62 : decode c_AckBookModel_comeIn 62 = .ok (.iload 4, 2) := by decide +kernel
theorem d_AckBookModel_comeIn_64 : decode c_AckBookModel_comeIn 64 = .ok (.iconst (1), 1) := by decide +kernel
theorem d_AckBookModel_comeIn_65 : decode c_AckBookModel_comeIn 65 = .ok (.isub, 1) := by decide +kernel
theorem d_AckBookModel_comeIn_66 : decode c_AckBookModel_comeIn 66 = .ok (.laload, 1) := by decide +kernel
theorem d_AckBookModel_comeIn_67 : decode c_AckBookModel_comeIn 67 = .ok (.lastore, 1) := by decide +kernel
theorem d_AckBookModel_comeIn_68 : decode c_AckBookModel_comeIn 68 = .ok (.iinc 4 (-1), 3) := by decide +kernel
theorem d_AckBookModel_comeIn_71 : decode c_AckBookModel_comeIn 71 = .ok (.goto (-58), 3) := by decide +kernel
theorem d_AckBookModel_comeIn_0 : decode c_AckBookModel_comeIn 0 = .ok (.bipush (65), 2) := by decide +kernel
theorem d_AckBookModel_comeIn_2 : decode c_AckBookModel_comeIn 2 = .ok (.iload_n 1, 1) := by decide +kernel
theorem d_AckBookModel_comeIn_3 : decode c_AckBookModel_comeIn 3 = .ok (.imul, 1) := by decide +kernel
theorem d_AckBookModel_comeIn_4 : decode c_AckBookModel_comeIn 4 = .ok (.aload_n 0, 1) := by decide +kernel
theorem d_AckBookModel_comeIn_5 : decode c_AckBookModel_comeIn 5 = .ok (.getfield 79, 3) := by decide +kernel
theorem d_AckBookModel_comeIn_8 : decode c_AckBookModel_comeIn 8 = .ok (.iload_n 1, 1) := by decide +kernel
theorem d_AckBookModel_comeIn_9 : decode c_AckBookModel_comeIn 9 = .ok (.iaload, 1) := by decide +kernel
theorem d_AckBookModel_comeIn_10 : decode c_AckBookModel_comeIn 10 = .ok (.iadd, 1) := by decide +kernel
theorem d_AckBookModel_comeIn_11 : decode c_AckBookModel_comeIn 11 = .ok (.istore 4, 2) := by decide +kernel
theorem d_AckBookModel_came_115 : decode c_AckBookModel_came 115 = .ok (.aload_n 0, 1) := by decide +kernel
theorem d_AckBookModel_came_116 : decode c_AckBookModel_came 116 = .ok (.getfield 94, 3) := by decide +kernel
theorem d_AckBookModel_came_119 : decode c_AckBookModel_came 119 = .ok (.iload_n 1, 1) := by decide +kernel
theorem d_AckBookModel_came_120 : decode c_AckBookModel_came 120 = .ok (.dup2, 1) := by decide +kernel
theorem d_AckBookModel_came_121 : decode c_AckBookModel_came 121 = .ok (.iaload, 1) := by decide +kernel
theorem d_AckBookModel_came_122 : decode c_AckBookModel_came 122 = .ok (.iconst (1), 1) := by decide +kernel
theorem d_AckBookModel_came_123 : decode c_AckBookModel_came 123 = .ok (.iadd, 1) := by decide +kernel
theorem d_AckBookModel_came_124 : decode c_AckBookModel_came 124 = .ok (.iastore, 1) := by decide +kernel
theorem d_AckBookModel_came_125 : decode c_AckBookModel_came 125 = .ok (.aload_n 0, 1) := by decide +kernel
theorem d_AckBookModel_came_126 : decode c_AckBookModel_came 126 = .ok (.getfield 100, 3) := by decide +kernel
theorem d_AckBookModel_came_129 : decode c_AckBookModel_came 129 = .ok (.iload_n 1, 1) := by decide +kernel
theorem d_AckBookModel_came_130 : decode c_AckBookModel_came 130 = .ok (.aload_n 0, 1) := by decide +kernel
theorem d_AckBookModel_came_131 : decode c_AckBookModel_came 131 = .ok (.getfield 100, 3) := by decide +kernel
theorem d_AckBookModel_came_134 : decode c_AckBookModel_came 134 = .ok (.iload_n 1, 1) := by decide +kernel
theorem d_AckBookModel_came_135 : decode c_AckBookModel_came 135 = .ok (.baload, 1) := by decide +kernel
theorem d_AckBookModel_came_136 : decode c_AckBookModel_came 136 = .ok (.ifCond .ne (12), 3) := by decide +kernel
theorem d_AckBookModel_came_139 : decode c_AckBookModel_came 139 = .ok (.lload_n 2, 1) := by decide +kernel
theorem d_AckBookModel_came_140 : decode c_AckBookModel_came 140 = .ok (.lload 5, 2) := by decide +kernel
theorem d_AckBookModel_came_142 : decode c_AckBookModel_came 142 = .ok (.lconst 1, 1) := by decide +kernel
theorem d_AckBookModel_came_143 : decode c_AckBookModel_came 143 = .ok (.ladd, 1) := by decide +kernel
theorem d_AckBookModel_came_144 : decode c_AckBookModel_came 144 = .ok (.lcmp, 1) := by decide +kernel
theorem d_AckBookModel_came_145 : decode c_AckBookModel_came 145 = .ok (.ifCond .eq (7), 3) := by decide +kernel
theorem d_AckBookModel_came_152 : decode c_AckBookModel_came 152 = .ok (.iconst (0), 1) := by decide +kernel
theorem d_AckBookModel_came_153 : decode c_AckBookModel_came 153 = .ok (.bastore, 1) := by decide +kernel
theorem d_AckBookModel_came_154 : decode c_AckBookModel_came 154 = .ok (.iconst (1), 1) := by decide +kernel
theorem d_AckBookModel_came_155 : decode c_AckBookModel_came 155 = .ok (.ireturn, 1) := by decide +kernel
theorem d_AckBookModel_came_148 : decode c_AckBookModel_came 148 = .ok (.iconst (1), 1) := by decide +kernel
theorem d_AckBookModel_came_149 : decode c_AckBookModel_came 149 = .ok (.goto (4), 3) := by decide +kernel
theorem d_AckBookModel_came_83 : decode c_AckBookModel_came 83 = .ok (.aload_n 0, 1) := by decide +kernel
theorem d_AckBookModel_came_84 : decode c_AckBookModel_came 84 = .ok (.iload_n 1, 1) := by decide +kernel
theorem d_AckBookModel_came_85 : decode c_AckBookModel_came 85 = .ok (.lload_n 2, 1) := by decide +kernel
theorem d_AckBookModel_came_86 : decode c_AckBookModel_came 86 = .ok (.invokevirtual 210, 3) := by decide +kernel
theorem d_AckBookModel_came_89 : decode c_AckBookModel_came 89 = .ok (.iload 4, 2) := by decide +kernel
theorem d_AckBookModel_came_91 : decode c_AckBookModel_came 91 = .ok (.ifCond .ne (5), 3) := by decide +kernel
theorem d_AckBookModel_came_94 : decode c_AckBookModel_came 94 = .ok (.iconst (1), 1) := by decide +kernel
theorem d_AckBookModel_came_95 : decode c_AckBookModel_came 95 = .ok (.ireturn, 1) := by decide +kernel
theorem d_AckBookModel_came_96 : decode c_AckBookModel_came 96 = .ok (.aload_n 0, 1) := by decide +kernel
theorem d_AckBookModel_came_97 : decode c_AckBookModel_came 97 = .ok (.getfield 94, 3) := by decide +kernel
theorem d_AckBookModel_came_100 : decode c_AckBookModel_came 100 = .ok (.iload_n 1, 1) := by decide +kernel
theorem d_AckBookModel_came_101 : decode c_AckBookModel_came 101 = .ok (.iaload, 1) := by decide +kernel
theorem d_AckBookModel_came_102 : decode c_AckBookModel_came 102 = .ok (.ifCond .ne (13), 3) := by decide +kernel
theorem d_AckBookModel_came_105 : decode c_AckBookModel_came 105 = .ok (.aload_n 0, 1) := by decide +kernel
theorem d_AckBookModel_came_106 : decode c_AckBookModel_came 106 = .ok (.getfield 97, 3) := by decide +kernel
theorem d_AckBookModel_came_109 : decode c_AckBookModel_came 109 = .ok (.iload_n 1, 1) := by decide +kernel
theorem d_AckBookModel_came_110 : decode c_AckBookModel_came 110 = .ok (.aload_n 0, 1) := by decide +kernel
theorem d_AckBookModel_came_111 : decode c_AckBookModel_came 111 = .ok (.getfield 150, 3) := by decide +kernel
theorem d_AckBookModel_came_114 : decode c_AckBookModel_came 114 = .ok (.iastore, 1) := by decide +kernel
theorem d_AckBookModel_came_27 : decode c_AckBookModel_came 27 = .ok (.iconst (1), 1) := by decide +kernel
theorem d_AckBookModel_came_28 : decode c_AckBookModel_came 28 = .ok (.invokevirtual 146, 3) := by decide +kernel
theorem d_AckBookModel_came_31 : decode c_AckBookModel_came 31 = .ok (.ifCond .ne (26), 3) := by decide +kernel
theorem d_AckBookModel_came_34 : decode c_AckBookModel_came 34 = .ok (.aload_n 0, 1) := by decide +kernel
theorem d_AckBookModel_came_35 : decode c_AckBookModel_came 35 = .ok (.aload_n 0, 1) := by decide +kernel
theorem d_AckBookModel_came_36 : decode c_AckBookModel_came 36 = .ok (.getfield 32, 3) := by decide +kernel
theorem d_AckBookModel_came_39 : decode c_AckBookModel_came 39 = .ok (.iload_n 1, 1) := by decide +kernel
theorem d_AckBookModel_came_40 : decode c_AckBookModel_came 40 = .ok (.baload, 1) := by decide +kernel
