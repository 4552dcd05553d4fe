theorem d_AckBookModel_patience_22 : decode c_AckBookModel_patience 22 = .ok (.getfield 114, 3) := by decide +kernel
theorem d_AckBookModel_patience_25 : decode c_AckBookModel_patience 25 = .ok (.ifCond .eq (8), 3) := by decide +kernel
theorem d_AckBookModel_patience_33 : decode c_AckBookModel_patience 33 = .ok (.iconst (0), 1) := by decide +kernel
theorem d_AckBookModel_patience_34 : decode c_AckBookModel_patience 34 = .ok (.iadd, 1) := by decide +kernel
theorem d_AckBookModel_patience_35 : decode c_AckBookModel_patience 35 = .ok (.ireturn, 1) := by decide +kernel
theorem d_AckBookModel_patience_28 : decode c_AckBookModel_patience 28 = .ok (.bipush (25), 2) := by decide +kernel
theorem d_AckBookModel_patience_30 : decode c_AckBookModel_patience 30 = .ok (.goto (4), 3) := by decide +kernel
theorem d_AckBookModel_firstSpace_2 : decode c_AckBookModel_firstSpace 2 = .ok (.iload_n 1, 1) := by decide +kernel
theorem d_AckBookModel_firstSpace_3 : decode c_AckBookModel_firstSpace 3 = .ok (.iconst (3), 1) := by decide +kernel
theorem d_AckBookModel_firstSpace_4 : decode c_AckBookModel_firstSpace 4 = .ok (.if_icmp .ge (18), 3) := by decide +kernel
theorem d_AckBookModel_firstSpace_22 : decode c_AckBookModel_firstSpace 22 = .ok (.iload_n 1, 1) := by decide +kernel
theorem d_AckBookModel_firstSpace_23 : decode c_AckBookModel_firstSpace 23 = .ok (.ireturn, 1) := by decide +kernel
theorem d_AckBookModel_firstSpace_7 : decode c_AckBookModel_firstSpace 7 = .ok (.aload_n 0, 1) := by decide +kernel
theorem d_AckBookModel_firstSpace_8 : decode c_AckBookModel_firstSpace 8 = .ok (.getfield 32, 3) := by decide +kernel
theorem d_AckBookModel_firstSpace_11 : decode c_AckBookModel_firstSpace 11 = .ok (.iload_n 1, 1) := by decide +kernel
theorem d_AckBookModel_firstSpace_12 : decode c_AckBookModel_firstSpace 12 = .ok (.baload, 1) := by decide +kernel
theorem d_AckBookModel_firstSpace_13 : decode c_AckBookModel_firstSpace 13 = .ok (.ifCond .eq (9), 3) := by decide +kernel
theorem d_AckBookModel_firstSpace_16 : decode c_AckBookModel_firstSpace 16 = .ok (.iinc 1 (1), 3) := by decide +kernel
theorem d_AckBookModel_firstSpace_19 : decode c_AckBookModel_firstSpace 19 = .ok (.goto (-17), 3) := by decide +kernel
theorem d_AckBookModel_firstSpace_0 : decode c_AckBookModel_firstSpace 0 = .ok (.iconst (0), 1) := by decide +kernel
theorem d_AckBookModel_firstSpace_1 : decode c_AckBookModel_firstSpace 1 = .ok (.istore_n 1, 1) := by decide +kernel
theorem d_AckBookModel_probeTime_125 : decode c_AckBookModel_probeTime 125 = .ok (.istore_n 2, 1) := by decide +kernel
theorem d_AckBookModel_probeTime_126 : decode c_AckBookModel_probeTime 126 = .ok (.aload_n 0, 1) := by decide +kernel
theorem d_AckBookModel_probeTime_127 : decode c_AckBookModel_probeTime 127 = .ok (.getfield 132, 3) := by decide +kernel
theorem d_AckBookModel_probeTime_130 : decode c_AckBookModel_probeTime 130 = .ok (.ifCond .eq (33), 3) := by decide +kernel
theorem d_AckBookModel_probeTime_163 : decode c_AckBookModel_probeTime 163 = .ok (.iconst (-1), 1) := by decide +kernel
theorem d_AckBookModel_probeTime_164 : decode c_AckBookModel_probeTime 164 = .ok (.ireturn, 1) := by decide +kernel
theorem d_AckBookModel_probeTime_133 : decode c_AckBookModel_probeTime 133 = .ok (.iload_n 2, 1) := by decide +kernel
theorem d_AckBookModel_probeTime_134 : decode c_AckBookModel_probeTime 134 = .ok (.ifCond .ne (29), 3) := by decide +kernel
theorem d_AckBookModel_probeTime_137 : decode c_AckBookModel_probeTime 137 = .ok (.aload_n 0, 1) := by decide +kernel
theorem d_AckBookModel_probeTime_138 : decode c_AckBookModel_probeTime 138 = .ok (.invokevirtual 135, 3) := by decide +kernel
theorem d_AckBookModel_probeTime_141 : decode c_AckBookModel_probeTime 141 = .ok (.iload_n 1, 1) := by decide +kernel
theorem d_AckBookModel_probeTime_142 : decode c_AckBookModel_probeTime 142 = .ok (.if_icmp .ne (21), 3) := by decide +kernel
theorem d_AckBookModel_probeTime_145 : decode c_AckBookModel_probeTime 145 = .ok (.aload_n 0, 1) := by decide +kernel
theorem d_AckBookModel_probeTime_146 : decode c_AckBookModel_probeTime 146 = .ok (.getfield 139, 3) := by decide +kernel
theorem d_AckBookModel_probeTime_149 : decode c_AckBookModel_probeTime 149 = .ok (.aload_n 0, 1) := by decide +kernel
theorem d_AckBookModel_probeTime_150 : decode c_AckBookModel_probeTime 150 = .ok (.iload_n 1, 1) := by decide +kernel
theorem d_AckBookModel_probeTime_151 : decode c_AckBookModel_probeTime 151 = .ok (.invokevirtual 125, 3) := by decide +kernel
theorem d_AckBookModel_probeTime_154 : decode c_AckBookModel_probeTime 154 = .ok (.aload_n 0, 1) := by decide +kernel
theorem d_AckBookModel_probeTime_155 : decode c_AckBookModel_probeTime 155 = .ok (.getfield 129, 3) := by decide +kernel
theorem d_AckBookModel_probeTime_158 : decode c_AckBookModel_probeTime 158 = .ok (.ishl, 1) := by decide +kernel
theorem d_AckBookModel_probeTime_159 : decode c_AckBookModel_probeTime 159 = .ok (.iadd, 1) := by decide +kernel
theorem d_AckBookModel_probeTime_160 : decode c_AckBookModel_probeTime 160 = .ok (.goto (4), 3) := by decide +kernel
theorem d_AckBookModel_probeTime_23 : decode c_AckBookModel_probeTime 23 = .ok (.aload_n 0, 1) := by decide +kernel
theorem d_AckBookModel_probeTime_24 : decode c_AckBookModel_probeTime 24 = .ok (.iload_n 1, 1) := by decide +kernel
theorem d_AckBookModel_probeTime_25 : decode c_AckBookModel_probeTime 25 = .ok (.iconst (0), 1) := by decide +kernel
theorem d_AckBookModel_probeTime_26 : decode c_AckBookModel_probeTime 26 = .ok (.invokevirtual 121, 3) := by decide +kernel
theorem d_AckBookModel_probeTime_29 : decode c_AckBookModel_probeTime 29 = .ok (.ifCond .le (68), 3) := by decide +kernel
theorem d_AckBookModel_probeTime_97 : decode c_AckBookModel_probeTime 97 = .ok (.aload_n 0, 1) := by decide +kernel
theorem d_AckBookModel_probeTime_98 : decode c_AckBookModel_probeTime 98 = .ok (.iconst (0), 1) := by decide +kernel
theorem d_AckBookModel_probeTime_99 : decode c_AckBookModel_probeTime 99 = .ok (.iconst (0), 1) := by decide +kernel
theorem d_AckBookModel_probeTime_100 : decode c_AckBookModel_probeTime 100 = .ok (.invokevirtual 121, 3) := by decide +kernel
theorem d_AckBookModel_probeTime_103 : decode c_AckBookModel_probeTime 103 = .ok (.aload_n 0, 1) := by decide +kernel
theorem d_AckBookModel_probeTime_104 : decode c_AckBookModel_probeTime 104 = .ok (.iconst (1), 1) := by decide +kernel
theorem d_AckBookModel_probeTime_105 : decode c_AckBookModel_probeTime 105 = .ok (.iconst (0), 1) := by decide +kernel
theorem d_AckBookModel_probeTime_106 : decode c_AckBookModel_probeTime 106 = .ok (.invokevirtual 121, 3) := by decide +kernel
theorem d_AckBookModel_probeTime_109 : decode c_AckBookModel_probeTime 109 = .ok (.iadd, 1) := by decide +kernel
theorem d_AckBookModel_probeTime_110 : decode c_AckBookModel_probeTime 110 = .ok (.aload_n 0, 1) := by decide +kernel
theorem d_AckBookModel_probeTime_111 : decode c_AckBookModel_probeTime 111 = .ok (.iconst (2), 1) := by decide +kernel
theorem d_AckBookModel_probeTime_112 : decode c_AckBookModel_probeTime 112 = .ok (.iconst (0), 1) := by decide +kernel
theorem d_AckBookModel_probeTime_113 : decode c_AckBookModel_probeTime 113 = .ok (.invokevirtual 121, 3) := by decide +kernel
theorem d_AckBookModel_probeTime_116 : decode c_AckBookModel_probeTime 116 = .ok (.iadd, 1) := by decide +kernel
theorem d_AckBookModel_probeTime_117 : decode c_AckBookModel_probeTime 117 = .ok (.ifCond .le (7), 3) := by decide +kernel
theorem d_AckBookModel_probeTime_124 : decode c_AckBookModel_probeTime 124 = .ok (.iconst (0), 1) := by decide +kernel
theorem d_AckBookModel_probeTime_120 : decode c_AckBookModel_probeTime 120 = .ok (.iconst (1), 1) := by decide +kernel
theorem d_AckBookModel_probeTime_121 : decode c_AckBookModel_probeTime 121 = .ok (.goto (4), 3) := by decide +kernel
theorem d_AckBookModel_probeTime_32 : decode c_AckBookModel_probeTime 32 = .ok (.iconst (0), 1) := by decide +kernel
theorem d_AckBookModel_probeTime_33 : decode c_AckBookModel_probeTime 33 = .ok (.istore_n 2, 1) := by decide +kernel
theorem d_AckBookModel_probeTime_34 : decode c_AckBookModel_probeTime 34 = .ok (.iconst (0), 1) := by decide +kernel
theorem d_AckBookModel_probeTime_35 : decode c_AckBookModel_probeTime 35 = .ok (.istore_n 3, 1) := by decide +kernel
theorem d_AckBookModel_probeTime_36 : decode c_AckBookModel_probeTime 36 = .ok (.iload_n 3, 1) := by decide +kernel
theorem d_AckBookModel_probeTime_37 : decode c_AckBookModel_probeTime 37 = .ok (.aload_n 0, 1) := by decide +kernel
theorem d_AckBookModel_probeTime_38 : decode c_AckBookModel_probeTime 38 = .ok (.getfield 7, 3) := by decide +kernel
theorem d_AckBookModel_probeTime_41 : decode c_AckBookModel_probeTime 41 = .ok (.iload_n 1, 1) := by decide +kernel
theorem d_AckBookModel_probeTime_42 : decode c_AckBookModel_probeTime 42 = .ok (.iaload, 1) := by decide +kernel
theorem d_AckBookModel_probeTime_43 : decode c_AckBookModel_probeTime 43 = .ok (.if_icmp .ge (41), 3) := by decide +kernel
theorem d_AckBookModel_probeTime_84 : decode c_AckBookModel_probeTime 84 = .ok (.iload_n 2, 1) := by decide +kernel
theorem d_AckBookModel_probeTime_85 : decode c_AckBookModel_probeTime 85 = .ok (.aload_n 0, 1) := by decide +kernel
theorem d_AckBookModel_probeTime_86 : decode c_AckBookModel_probeTime 86 = .ok (.iload_n 1, 1) := by decide +kernel
theorem d_AckBookModel_probeTime_87 : decode c_AckBookModel_probeTime 87 = .ok (.invokevirtual 125, 3) := by decide +kernel
theorem d_AckBookModel_probeTime_90 : decode c_AckBookModel_probeTime 90 = .ok (.aload_n 0, 1) := by decide +kernel
theorem d_AckBookModel_probeTime_91 : decode c_AckBookModel_probeTime 91 = .ok (.getfield 129, 3) := by decide +kernel
theorem d_AckBookModel_probeTime_94 : decode c_AckBookModel_probeTime 94 = .ok (.ishl, 1) := by decide +kernel
theorem d_AckBookModel_probeTime_95 : decode c_AckBookModel_probeTime 95 = .ok (.iadd, 1) := by decide +kernel
theorem d_AckBookModel_probeTime_96 : decode c_AckBookModel_probeTime 96 = .ok (.ireturn, 1) := by decide +kernel
theorem d_AckBookModel_probeTime_46 : decode c_AckBookModel_probeTime 46 = .ok (.aload_n 0, 1) := by decide +kernel
theorem d_AckBookModel_probeTime_47 : decode c_AckBookModel_probeTime 47 = .ok (.getfield 22, 3) := by decide +kernel
theorem d_AckBookModel_probeTime_50 : decode c_AckBookModel_probeTime 50 = .ok (.sipush (4096), 3) := by decide +kernel
theorem d_AckBookModel_probeTime_53 : decode c_AckBookModel_probeTime 53 = .ok (.iload_n 1, 1) := by decide +kernel
theorem d_AckBookModel_probeTime_54 : decode c_AckBookModel_probeTime 54 = .ok (.imul, 1) := by decide +kernel
theorem d_AckBookModel_probeTime_55 : decode c_AckBookModel_probeTime 55 = .ok (.iload_n 3, 1) := by decide +kernel
theorem d_AckBookModel_probeTime_56 : decode c_AckBookModel_probeTime 56 = .ok (.iadd, 1) := by decide +kernel
theorem d_AckBookModel_probeTime_57 : decode c_AckBookModel_probeTime 57 = .ok (.baload, 1) := by decide +kernel
theorem d_AckBookModel_probeTime_58 : decode c_AckBookModel_probeTime 58 = .ok (.ifCond .eq (18), 3) := by decide +kernel
theorem d_AckBookModel_probeTime_76 : decode c_AckBookModel_probeTime 76 = .ok (.iload_n 2, 1) := by decide +kernel
theorem d_AckBookModel_probeTime_77 : decode c_AckBookModel_probeTime 77 = .ok (.istore_n 2, 1) := by decide +kernel
theorem d_AckBookModel_probeTime_78 : decode c_AckBookModel_probeTime 78 = .ok (.iinc 3 (1), 3) := by decide +kernel
theorem d_AckBookModel_probeTime_81 : decode c_AckBookModel_probeTime 81 = .ok (.goto (-45), 3) := by decide +kernel
theorem d_AckBookModel_probeTime_61 : decode c_AckBookModel_probeTime 61 = .ok (.aload_n 0, 1) := by decide +kernel
theorem d_AckBookModel_probeTime_62 : decode c_AckBookModel_probeTime 62 = .ok (.getfield 16, 3) := by decide +kernel
theorem d_AckBookModel_probeTime_65 : decode c_AckBookModel_probeTime 65 = .ok (.sipush (4096), 3) := by decide +kernel
theorem d_AckBookModel_probeTime_68 : decode c_AckBookModel_probeTime 68 = .ok (.iload_n 1, 1) := by decide +kernel
theorem d_AckBookModel_probeTime_69 : decode c_AckBookModel_probeTime 69 = .ok (.imul, 1) := by decide +kernel
theorem d_AckBookModel_probeTime_70 : decode c_AckBookModel_probeTime 70 = .ok (.iload_n 3, 1) := by decide +kernel
theorem d_AckBookModel_probeTime_71 : decode c_AckBookModel_probeTime 71 = .ok (.iadd, 1) := by decide +kernel
theorem d_AckBookModel_probeTime_72 : decode c_AckBookModel_probeTime 72 = .ok (.iaload, 1) := by decide +kernel
theorem d_AckBookModel_probeTime_73 : decode c_AckBookModel_probeTime 73 = .ok (.goto (4), 3) := by decide +kernel
theorem d_AckBookModel_probeTime_0 : decode c_AckBookModel_probeTime 0 = .ok (.aload_n 0, 1) := by decide +kernel
theorem d_AckBookModel_probeTime_1 : decode c_AckBookModel_probeTime 1 = .ok (.getfield 32, 3) := by decide +kernel
theorem d_AckBookModel_probeTime_4 : decode c_AckBookModel_probeTime 4 = .ok (.iload_n 1, 1) := by decide +kernel
theorem d_AckBookModel_probeTime_5 : decode c_AckBookModel_probeTime 5 = .ok (.baload, 1) := by decide +kernel
theorem d_AckBookModel_probeTime_6 : decode c_AckBookModel_probeTime 6 = .ok (.ifCond .ne (15), 3) := by decide +kernel
theorem d_AckBookModel_probeTime_9 : decode c_AckBookModel_probeTime 9 = .ok (.iload_n 1, 1) := by decide +kernel
theorem d_AckBookModel_probeTime_10 : decode c_AckBookModel_probeTime 10 = .ok (.iconst (2), 1) := by decide +kernel
theorem d_AckBookModel_probeTime_11 : decode c_AckBookModel_probeTime 11 = .ok (.if_icmp .ne (12), 3) := by decide +kernel
theorem d_AckBookModel_probeTime_14 : decode c_AckBookModel_probeTime 14 = .ok (.aload_n 0, 1) := by decide +kernel
theorem d_AckBookModel_probeTime_15 : decode c_AckBookModel_probeTime 15 = .ok (.getfield 114, 3) := by decide +kernel
theorem d_AckBookModel_probeTime_18 : decode c_AckBookModel_probeTime 18 = .ok (.ifCond .ne (5), 3) := by decide +kernel
theorem d_AckBookModel_probeTime_21 : decode c_AckBookModel_probeTime 21 = .ok (.iconst (-1), 1) := by decide +kernel
theorem d_AckBookModel_probeTime_22 : decode c_AckBookModel_probeTime 22 = .ok (.ireturn, 1) := by decide +kernel
