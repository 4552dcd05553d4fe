theorem d_AckBookModel_flight_24 : decode c_AckBookModel_flight 24 = .ok (.iload_n 3, 1) := by decide +kernel
theorem d_AckBookModel_flight_25 : decode c_AckBookModel_flight 25 = .ok (.invokevirtual 106, 3) := by decide +kernel
theorem d_AckBookModel_flight_28 : decode c_AckBookModel_flight 28 = .ok (.ifCond .eq (33), 3) := by decide +kernel
theorem d_AckBookModel_flight_61 : decode c_AckBookModel_flight 61 = .ok (.iconst (0), 1) := by decide +kernel
theorem d_AckBookModel_flight_62 : decode c_AckBookModel_flight 62 = .ok (.iadd, 1) := by decide +kernel
theorem d_AckBookModel_flight_63 : decode c_AckBookModel_flight 63 = .ok (.istore_n 1, 1) := by decide +kernel
theorem d_AckBookModel_flight_64 : decode c_AckBookModel_flight 64 = .ok (.iinc 3 (1), 3) := by decide +kernel
theorem d_AckBookModel_flight_67 : decode c_AckBookModel_flight 67 = .ok (.goto (-56), 3) := by decide +kernel
theorem d_AckBookModel_flight_31 : decode c_AckBookModel_flight 31 = .ok (.aload_n 0, 1) := by decide +kernel
theorem d_AckBookModel_flight_32 : decode c_AckBookModel_flight 32 = .ok (.getfield 26, 3) := by decide +kernel
theorem d_AckBookModel_flight_35 : decode c_AckBookModel_flight 35 = .ok (.sipush (4096), 3) := by decide +kernel
theorem d_AckBookModel_flight_38 : decode c_AckBookModel_flight 38 = .ok (.iload_n 2, 1) := by decide +kernel
theorem d_AckBookModel_flight_39 : decode c_AckBookModel_flight 39 = .ok (.imul, 1) := by decide +kernel
theorem d_AckBookModel_flight_40 : decode c_AckBookModel_flight 40 = .ok (.iload_n 3, 1) := by decide +kernel
theorem d_AckBookModel_flight_41 : decode c_AckBookModel_flight 41 = .ok (.iadd, 1) := by decide +kernel
theorem d_AckBookModel_flight_42 : decode c_AckBookModel_flight 42 = .ok (.baload, 1) := by decide +kernel
theorem d_AckBookModel_flight_43 : decode c_AckBookModel_flight 43 = .ok (.ifCond .eq (18), 3) := by decide +kernel
theorem d_AckBookModel_flight_46 : decode c_AckBookModel_flight 46 = .ok (.aload_n 0, 1) := by decide +kernel
theorem d_AckBookModel_flight_47 : decode c_AckBookModel_flight 47 = .ok (.getfield 13, 3) := by decide +kernel
theorem d_AckBookModel_flight_50 : decode c_AckBookModel_flight 50 = .ok (.sipush (4096), 3) := by decide +kernel
theorem d_AckBookModel_flight_53 : decode c_AckBookModel_flight 53 = .ok (.iload_n 2, 1) := by decide +kernel
theorem d_AckBookModel_flight_54 : decode c_AckBookModel_flight 54 = .ok (.imul, 1) := by decide +kernel
theorem d_AckBookModel_flight_55 : decode c_AckBookModel_flight 55 = .ok (.iload_n 3, 1) := by decide +kernel
theorem d_AckBookModel_flight_56 : decode c_AckBookModel_flight 56 = .ok (.iadd, 1) := by decide +kernel
theorem d_AckBookModel_flight_57 : decode c_AckBookModel_flight 57 = .ok (.iaload, 1) := by decide +kernel
theorem d_AckBookModel_flight_58 : decode c_AckBookModel_flight 58 = .ok (.goto (4), 3) := by decide +kernel
theorem d_AckBookModel_flight_0 : decode c_AckBookModel_flight 0 = .ok (.iconst (0), 1) := by decide +kernel
theorem d_AckBookModel_flight_1 : decode c_AckBookModel_flight 1 = .ok (.istore_n 1, 1) := by decide +kernel
theorem d_AckBookModel_flight_2 : decode c_AckBookModel_flight 2 = .ok (.iconst (0), 1) := by decide +kernel
theorem d_AckBookModel_flight_3 : decode c_AckBookModel_flight 3 = .ok (.istore_n 2, 1) := by decide +kernel
theorem d_AckBookModel_send_68 : decode c_AckBookModel_send 68 = .ok (.iconst (2), 1) := by decide +kernel
theorem d_AckBookModel_send_69 : decode c_AckBookModel_send 69 = .ok (.invokevirtual 146, 3) := by decide +kernel
theorem d_AckBookModel_send_72 : decode c_AckBookModel_send 72 = .ok (.ifCond .eq (5), 3) := by decide +kernel
theorem d_AckBookModel_send_77 : decode c_AckBookModel_send 77 = .ok (.aload_n 0, 1) := by decide +kernel
theorem d_AckBookModel_send_78 : decode c_AckBookModel_send 78 = .ok (.getfield 7, 3) := by decide +kernel
theorem d_AckBookModel_send_81 : decode c_AckBookModel_send 81 = .ok (.iload_n 1, 1) := by decide +kernel
theorem d_AckBookModel_send_82 : decode c_AckBookModel_send 82 = .ok (.iaload, 1) := by decide +kernel
theorem d_AckBookModel_send_83 : decode c_AckBookModel_send 83 = .ok (.istore 5, 2) := by decide +kernel
theorem d_AckBookModel_send_85 : decode c_AckBookModel_send 85 = .ok (.sipush (4096), 3) := by decide +kernel
theorem d_AckBookModel_send_88 : decode c_AckBookModel_send 88 = .ok (.iload_n 1, 1) := by decide +kernel
theorem d_AckBookModel_send_89 : decode c_AckBookModel_send 89 = .ok (.imul, 1) := by decide +kernel
theorem d_AckBookModel_send_90 : decode c_AckBookModel_send 90 = .ok (.iload 5, 2) := by decide +kernel
theorem d_AckBookModel_send_92 : decode c_AckBookModel_send 92 = .ok (.iadd, 1) := by decide +kernel
theorem d_AckBookModel_send_93 : decode c_AckBookModel_send 93 = .ok (.istore 6, 2) := by decide +kernel
theorem d_AckBookModel_send_95 : decode c_AckBookModel_send 95 = .ok (.aload_n 0, 1) := by decide +kernel
theorem d_AckBookModel_send_96 : decode c_AckBookModel_send 96 = .ok (.getfield 13, 3) := by decide +kernel
theorem d_AckBookModel_send_99 : decode c_AckBookModel_send 99 = .ok (.iload 6, 2) := by decide +kernel
theorem d_AckBookModel_send_101 : decode c_AckBookModel_send 101 = .ok (.iload_n 2, 1) := by decide +kernel
theorem d_AckBookModel_send_102 : decode c_AckBookModel_send 102 = .ok (.iastore, 1) := by decide +kernel
theorem d_AckBookModel_send_103 : decode c_AckBookModel_send 103 = .ok (.aload_n 0, 1) := by decide +kernel
theorem d_AckBookModel_send_104 : decode c_AckBookModel_send 104 = .ok (.getfield 16, 3) := by decide +kernel
theorem d_AckBookModel_send_107 : decode c_AckBookModel_send 107 = .ok (.iload 6, 2) := by decide +kernel
theorem d_AckBookModel_send_109 : decode c_AckBookModel_send 109 = .ok (.aload_n 0, 1) := by decide +kernel
theorem d_AckBookModel_send_110 : decode c_AckBookModel_send 110 = .ok (.getfield 150, 3) := by decide +kernel
theorem d_AckBookModel_send_113 : decode c_AckBookModel_send 113 = .ok (.iastore, 1) := by decide +kernel
theorem d_AckBookModel_send_114 : decode c_AckBookModel_send 114 = .ok (.aload_n 0, 1) := by decide +kernel
theorem d_AckBookModel_send_115 : decode c_AckBookModel_send 115 = .ok (.getfield 19, 3) := by decide +kernel
theorem d_AckBookModel_send_118 : decode c_AckBookModel_send 118 = .ok (.iload 6, 2) := by decide +kernel
theorem d_AckBookModel_send_120 : decode c_AckBookModel_send 120 = .ok (.iconst (0), 1) := by decide +kernel
theorem d_AckBookModel_send_121 : decode c_AckBookModel_send 121 = .ok (.iastore, 1) := by decide +kernel
theorem d_AckBookModel_send_122 : decode c_AckBookModel_send 122 = .ok (.aload_n 0, 1) := by decide +kernel
theorem d_AckBookModel_send_123 : decode c_AckBookModel_send 123 = .ok (.getfield 22, 3) := by decide +kernel
theorem d_AckBookModel_send_126 : decode c_AckBookModel_send 126 = .ok (.iload 6, 2) := by decide +kernel
theorem d_AckBookModel_send_128 : decode c_AckBookModel_send 128 = .ok (.iload_n 3, 1) := by decide +kernel
theorem d_AckBookModel_send_129 : decode c_AckBookModel_send 129 = .ok (.bastore, 1) := by decide +kernel
theorem d_AckBookModel_send_130 : decode c_AckBookModel_send 130 = .ok (.aload_n 0, 1) := by decide +kernel
theorem d_AckBookModel_send_131 : decode c_AckBookModel_send 131 = .ok (.getfield 26, 3) := by decide +kernel
theorem d_AckBookModel_send_134 : decode c_AckBookModel_send 134 = .ok (.iload 6, 2) := by decide +kernel
theorem d_AckBookModel_send_136 : decode c_AckBookModel_send 136 = .ok (.iload 4, 2) := by decide +kernel
theorem d_AckBookModel_send_138 : decode c_AckBookModel_send 138 = .ok (.bastore, 1) := by decide +kernel
theorem d_AckBookModel_send_139 : decode c_AckBookModel_send 139 = .ok (.aload_n 0, 1) := by decide +kernel
theorem d_AckBookModel_send_140 : decode c_AckBookModel_send 140 = .ok (.getfield 7, 3) := by decide +kernel
theorem d_AckBookModel_send_143 : decode c_AckBookModel_send 143 = .ok (.iload_n 1, 1) := by decide +kernel
theorem d_AckBookModel_send_144 : decode c_AckBookModel_send 144 = .ok (.dup2, 1) := by decide +kernel
theorem d_AckBookModel_send_145 : decode c_AckBookModel_send 145 = .ok (.iaload, 1) := by decide +kernel
theorem d_AckBookModel_send_146 : decode c_AckBookModel_send 146 = .ok (.iconst (1), 1) := by decide +kernel
theorem d_AckBookModel_send_147 : decode c_AckBookModel_send 147 = .ok (.iadd, 1) := by decide +kernel
theorem d_AckBookModel_send_148 : decode c_AckBookModel_send 148 = .ok (.iastore, 1) := by decide +kernel
theorem d_AckBookModel_send_149 : decode c_AckBookModel_send 149 = .ok (.aload_n 0, 1) := by decide +kernel
theorem d_AckBookModel_send_150 : decode c_AckBookModel_send 150 = .ok (.aload_n 0, 1) := by decide +kernel
theorem d_AckBookModel_send_151 : decode c_AckBookModel_send 151 = .ok (.getfield 150, 3) := by decide +kernel
theorem d_AckBookModel_send_154 : decode c_AckBookModel_send 154 = .ok (.putfield 139, 3) := by decide +kernel
theorem d_AckBookModel_send_157 : decode c_AckBookModel_send 157 = .ok (.aload_n 0, 1) := by decide +kernel
theorem d_AckBookModel_send_158 : decode c_AckBookModel_send 158 = .ok (.getfield 29, 3) := by decide +kernel
theorem d_AckBookModel_send_161 : decode c_AckBookModel_send 161 = .ok (.iload 6, 2) := by decide +kernel
theorem d_AckBookModel_send_163 : decode c_AckBookModel_send 163 = .ok (.aload_n 0, 1) := by decide +kernel
theorem d_AckBookModel_send_164 : decode c_AckBookModel_send 164 = .ok (.invokevirtual 153, 3) := by decide +kernel
theorem d_AckBookModel_send_167 : decode c_AckBookModel_send 167 = .ok (.aload_n 0, 1) := by decide +kernel
theorem d_AckBookModel_send_168 : decode c_AckBookModel_send 168 = .ok (.getfield 63, 3) := by decide +kernel
theorem d_AckBookModel_send_171 : decode c_AckBookModel_send 171 = .ok (.sipush (1200), 3) := by decide +kernel
theorem d_AckBookModel_send_174 : decode c_AckBookModel_send 174 = .ok (.isub, 1) := by decide +kernel
theorem d_AckBookModel_send_175 : decode c_AckBookModel_send 175 = .ok (.if_icmp .le (7), 3) := by decide +kernel
theorem d_AckBookModel_send_182 : decode c_AckBookModel_send 182 = .ok (.iconst (0), 1) := by decide +kernel
theorem d_AckBookModel_send_183 : decode c_AckBookModel_send 183 = .ok (.bastore, 1) := by decide +kernel
theorem d_AckBookModel_send_184 : decode c_AckBookModel_send 184 = .ok (.iload 5, 2) := by decide +kernel
theorem d_AckBookModel_send_186 : decode c_AckBookModel_send 186 = .ok (.ireturn, 1) := by decide +kernel
theorem d_AckBookModel_send_178 : decode c_AckBookModel_send 178 = .ok (.iconst (1), 1) := by decide +kernel
theorem d_AckBookModel_send_179 : decode c_AckBookModel_send 179 = .ok (.goto (4), 3) := by decide +kernel
theorem d_AckBookModel_send_75 : decode c_AckBookModel_send 75 = .ok (.iconst (0), 1) := by decide +kernel
theorem d_AckBookModel_send_76 : decode c_AckBookModel_send 76 = .ok (.ireturn, 1) := by decide +kernel
theorem d_AckBookModel_send_63 : decode c_AckBookModel_send 63 = .ok (.iconst (1), 1) := by decide +kernel
theorem d_AckBookModel_send_64 : decode c_AckBookModel_send 64 = .ok (.goto (4), 3) := by decide +kernel
theorem d_AckBookModel_send_34 : decode c_AckBookModel_send 34 = .ok (.iconst (1), 1) := by decide +kernel
theorem d_AckBookModel_send_35 : decode c_AckBookModel_send 35 = .ok (.invokevirtual 146, 3) := by decide +kernel
theorem d_AckBookModel_send_38 : decode c_AckBookModel_send 38 = .ok (.ifCond .ne (37), 3) := by decide +kernel
theorem d_AckBookModel_send_41 : decode c_AckBookModel_send 41 = .ok (.aload_n 0, 1) := by decide +kernel
theorem d_AckBookModel_send_42 : decode c_AckBookModel_send 42 = .ok (.aload_n 0, 1) := by decide +kernel
theorem d_AckBookModel_send_43 : decode c_AckBookModel_send 43 = .ok (.getfield 32, 3) := by decide +kernel
theorem d_AckBookModel_send_46 : decode c_AckBookModel_send 46 = .ok (.iload_n 1, 1) := by decide +kernel
theorem d_AckBookModel_send_47 : decode c_AckBookModel_send 47 = .ok (.baload, 1) := by decide +kernel
theorem d_AckBookModel_send_48 : decode c_AckBookModel_send 48 = .ok (.ifCond .ne (15), 3) := by decide +kernel
theorem d_AckBookModel_send_51 : decode c_AckBookModel_send 51 = .ok (.aload_n 0, 1) := by decide +kernel
theorem d_AckBookModel_send_52 : decode c_AckBookModel_send 52 = .ok (.getfield 7, 3) := by decide +kernel
theorem d_AckBookModel_send_55 : decode c_AckBookModel_send 55 = .ok (.iload_n 1, 1) := by decide +kernel
theorem d_AckBookModel_send_56 : decode c_AckBookModel_send 56 = .ok (.iaload, 1) := by decide +kernel
theorem d_AckBookModel_send_57 : decode c_AckBookModel_send 57 = .ok (.sipush (4096), 3) := by decide +kernel
theorem d_AckBookModel_send_60 : decode c_AckBookModel_send 60 = .ok (.if_icmp .ne (7), 3) := by decide +kernel
theorem d_AckBookModel_send_67 : decode c_AckBookModel_send 67 = .ok (.iconst (0), 1) := by decide +kernel
theorem d_AckBookModel_send_33 : decode c_AckBookModel_send 33 = .ok (.iconst (0), 1) := by decide +kernel
theorem d_AckBookModel_send_29 : decode c_AckBookModel_send 29 = .ok (.iconst (1), 1) := by decide +kernel
