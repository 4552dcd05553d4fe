theorem d_AckBookLaw_law_1089 : decode c_AckBookLaw_law 1089 = .ok (.goto (70), 3) := by decide +kernel
theorem d_AckBookLaw_law_1087 : decode c_AckBookLaw_law 1087 = .ok (.iconst (0), 1) := by decide +kernel
theorem d_AckBookLaw_law_1088 : decode c_AckBookLaw_law 1088 = .ok (.ireturn, 1) := by decide +kernel
theorem d_AckBookLaw_law_1070 : decode c_AckBookLaw_law 1070 = .ok (.iconst (0), 1) := by decide +kernel
theorem d_AckBookLaw_law_1071 : decode c_AckBookLaw_law 1071 = .ok (.ireturn, 1) := by decide +kernel
theorem d_AckBookLaw_law_1092 : decode c_AckBookLaw_law 1092 = .ok (.aload_n 1, 1) := by decide +kernel
theorem d_AckBookLaw_law_1093 : decode c_AckBookLaw_law 1093 = .ok (.aload_n 0, 1) := by decide +kernel
theorem d_AckBookLaw_law_1094 : decode c_AckBookLaw_law 1094 = .ok (.iload 4, 2) := by decide +kernel
theorem d_AckBookLaw_law_1096 : decode c_AckBookLaw_law 1096 = .ok (.iconst (1), 1) := by decide +kernel
theorem d_AckBookLaw_law_1097 : decode c_AckBookLaw_law 1097 = .ok (.iadd, 1) := by decide +kernel
theorem d_AckBookLaw_law_1098 : decode c_AckBookLaw_law 1098 = .ok (.iaload, 1) := by decide +kernel
theorem d_AckBookLaw_law_1099 : decode c_AckBookLaw_law 1099 = .ok (.aload_n 0, 1) := by decide +kernel
theorem d_AckBookLaw_law_1100 : decode c_AckBookLaw_law 1100 = .ok (.iload 4, 2) := by decide +kernel
theorem d_AckBookLaw_law_1102 : decode c_AckBookLaw_law 1102 = .ok (.iconst (2), 1) := by decide +kernel
theorem d_AckBookLaw_law_1103 : decode c_AckBookLaw_law 1103 = .ok (.iadd, 1) := by decide +kernel
theorem d_AckBookLaw_law_1104 : decode c_AckBookLaw_law 1104 = .ok (.iaload, 1) := by decide +kernel
theorem d_AckBookLaw_law_1105 : decode c_AckBookLaw_law 1105 = .ok (.aload_n 3, 1) := by decide +kernel
theorem d_AckBookLaw_law_1106 : decode c_AckBookLaw_law 1106 = .ok (.invokestatic 127, 3) := by decide +kernel
theorem d_AckBookLaw_law_1109 : decode c_AckBookLaw_law 1109 = .ok (.istore 5, 2) := by decide +kernel
theorem d_AckBookLaw_law_1111 : decode c_AckBookLaw_law 1111 = .ok (.aload_n 2, 1) := by decide +kernel
theorem d_AckBookLaw_law_1112 : decode c_AckBookLaw_law 1112 = .ok (.aload_n 0, 1) := by decide +kernel
theorem d_AckBookLaw_law_1113 : decode c_AckBookLaw_law 1113 = .ok (.iload 4, 2) := by decide +kernel
theorem d_AckBookLaw_law_1115 : decode c_AckBookLaw_law 1115 = .ok (.iconst (1), 1) := by decide +kernel
theorem d_AckBookLaw_law_1116 : decode c_AckBookLaw_law 1116 = .ok (.iadd, 1) := by decide +kernel
theorem d_AckBookLaw_law_1117 : decode c_AckBookLaw_law 1117 = .ok (.iaload, 1) := by decide +kernel
theorem d_AckBookLaw_law_1118 : decode c_AckBookLaw_law 1118 = .ok (.aload_n 0, 1) := by decide +kernel
theorem d_AckBookLaw_law_1119 : decode c_AckBookLaw_law 1119 = .ok (.iload 4, 2) := by decide +kernel
theorem d_AckBookLaw_law_1121 : decode c_AckBookLaw_law 1121 = .ok (.iconst (2), 1) := by decide +kernel
theorem d_AckBookLaw_law_1122 : decode c_AckBookLaw_law 1122 = .ok (.iadd, 1) := by decide +kernel
theorem d_AckBookLaw_law_1123 : decode c_AckBookLaw_law 1123 = .ok (.iaload, 1) := by decide +kernel
theorem d_AckBookLaw_law_1124 : decode c_AckBookLaw_law 1124 = .ok (.invokevirtual 129, 3) := by decide +kernel
theorem d_AckBookLaw_law_1127 : decode c_AckBookLaw_law 1127 = .ok (.lstore 6, 2) := by decide +kernel
theorem d_AckBookLaw_law_1129 : decode c_AckBookLaw_law 1129 = .ok (.aload_n 2, 1) := by decide +kernel
theorem d_AckBookLaw_law_1130 : decode c_AckBookLaw_law 1130 = .ok (.invokevirtual 71, 3) := by decide +kernel
theorem d_AckBookLaw_law_1133 : decode c_AckBookLaw_law 1133 = .ok (.iload 5, 2) := by decide +kernel
theorem d_AckBookLaw_law_1135 : decode c_AckBookLaw_law 1135 = .ok (.if_icmp .eq (5), 3) := by decide +kernel
theorem d_AckBookLaw_law_1140 : decode c_AckBookLaw_law 1140 = .ok (.iload 5, 2) := by decide +kernel
theorem d_AckBookLaw_law_1142 : decode c_AckBookLaw_law 1142 = .ok (.ifCond .ne (14), 3) := by decide +kernel
theorem d_AckBookLaw_law_1145 : decode c_AckBookLaw_law 1145 = .ok (.aload_n 3, 1) := by decide +kernel
theorem d_AckBookLaw_law_1146 : decode c_AckBookLaw_law 1146 = .ok (.iconst (0), 1) := by decide +kernel
theorem d_AckBookLaw_law_1147 : decode c_AckBookLaw_law 1147 = .ok (.laload, 1) := by decide +kernel
theorem d_AckBookLaw_law_1148 : decode c_AckBookLaw_law 1148 = .ok (.lload 6, 2) := by decide +kernel
theorem d_AckBookLaw_law_1150 : decode c_AckBookLaw_law 1150 = .ok (.lcmp, 1) := by decide +kernel
theorem d_AckBookLaw_law_1151 : decode c_AckBookLaw_law 1151 = .ok (.ifCond .eq (5), 3) := by decide +kernel
theorem d_AckBookLaw_law_1156 : decode c_AckBookLaw_law 1156 = .ok (.goto (3), 3) := by decide +kernel
theorem d_AckBookLaw_law_1154 : decode c_AckBookLaw_law 1154 = .ok (.iconst (0), 1) := by decide +kernel
theorem d_AckBookLaw_law_1155 : decode c_AckBookLaw_law 1155 = .ok (.ireturn, 1) := by decide +kernel
theorem d_AckBookLaw_law_1138 : decode c_AckBookLaw_law 1138 = .ok (.iconst (0), 1) := by decide +kernel
theorem d_AckBookLaw_law_1139 : decode c_AckBookLaw_law 1139 = .ok (.ireturn, 1) := by decide +kernel
theorem d_AckBookLaw_law_0 : decode c_AckBookLaw_law 0 = .ok (.new 8, 3) := by decide +kernel
theorem d_AckBookLaw_law_3 : decode c_AckBookLaw_law 3 = .ok (.dup, 1) := by decide +kernel
theorem d_AckBookLaw_law_4 : decode c_AckBookLaw_law 4 = .ok (.invokespecial 61, 3) := by decide +kernel
theorem d_AckBookLaw_law_7 : decode c_AckBookLaw_law 7 = .ok (.astore_n 1, 1) := by decide +kernel
theorem d_AckBookLaw_law_8 : decode c_AckBookLaw_law 8 = .ok (.new 62, 3) := by decide +kernel
theorem d_AckBookLaw_law_11 : decode c_AckBookLaw_law 11 = .ok (.dup, 1) := by decide +kernel
theorem d_AckBookLaw_law_12 : decode c_AckBookLaw_law 12 = .ok (.invokespecial 64, 3) := by decide +kernel
theorem d_AckBookLaw_law_15 : decode c_AckBookLaw_law 15 = .ok (.astore_n 2, 1) := by decide +kernel
theorem d_AckBookLaw_law_16 : decode c_AckBookLaw_law 16 = .ok (.iconst (1), 1) := by decide +kernel
theorem d_AckBookLaw_law_17 : decode c_AckBookLaw_law 17 = .ok (.newarray .long, 2) := by decide +kernel
theorem d_AckBookLaw_law_19 : decode c_AckBookLaw_law 19 = .ok (.astore_n 3, 1) := by decide +kernel
theorem d_AckBookLaw_law_20 : decode c_AckBookLaw_law 20 = .ok (.iconst (0), 1) := by decide +kernel
theorem d_AckBookLaw_law_21 : decode c_AckBookLaw_law 21 = .ok (.istore 4, 2) := by decide +kernel
