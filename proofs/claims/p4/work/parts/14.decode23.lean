theorem d_AckBookModel_isNew_39 : decode c_AckBookModel_isNew 39 = .ok (.laload, 1) := by decide +kernel
theorem d_AckBookModel_isNew_40 : decode c_AckBookModel_isNew 40 = .ok (.lcmp, 1) := by decide +kernel
theorem d_AckBookModel_isNew_41 : decode c_AckBookModel_isNew 41 = .ok (.ifCond .gt (7), 3) := by decide +kernel
theorem d_AckBookModel_isNew_44 : decode c_AckBookModel_isNew 44 = .ok (.iconst (1), 1) := by decide +kernel
theorem d_AckBookModel_isNew_45 : decode c_AckBookModel_isNew 45 = .ok (.goto (4), 3) := by decide +kernel
theorem d_AckBookModel_isNew_0 : decode c_AckBookModel_isNew 0 = .ok (.iconst (0), 1) := by decide +kernel
theorem d_AckBookModel_isNew_1 : decode c_AckBookModel_isNew 1 = .ok (.istore_n 3, 1) := by decide +kernel
theorem d_AckBookModel_isNew_2 : decode c_AckBookModel_isNew 2 = .ok (.iconst (0), 1) := by decide +kernel
theorem d_AckBookModel_isNew_3 : decode c_AckBookModel_isNew 3 = .ok (.istore 4, 2) := by decide +kernel
theorem d_AckBookModel_sample_110 : decode c_AckBookModel_sample 110 = .ok (.aload_n 0, 1) := by decide +kernel
theorem d_AckBookModel_sample_111 : decode c_AckBookModel_sample 111 = .ok (.getfield 54, 3) := by decide +kernel
theorem d_AckBookModel_sample_114 : decode c_AckBookModel_sample 114 = .ok (.iconst (4), 1) := by decide +kernel
theorem d_AckBookModel_sample_115 : decode c_AckBookModel_sample 115 = .ok (.idiv, 1) := by decide +kernel
theorem d_AckBookModel_sample_116 : decode c_AckBookModel_sample 116 = .ok (.isub, 1) := by decide +kernel
theorem d_AckBookModel_sample_117 : decode c_AckBookModel_sample 117 = .ok (.iadd, 1) := by decide +kernel
theorem d_AckBookModel_sample_118 : decode c_AckBookModel_sample 118 = .ok (.putfield 54, 3) := by decide +kernel
theorem d_AckBookModel_sample_121 : decode c_AckBookModel_sample 121 = .ok (.aload_n 0, 1) := by decide +kernel
theorem d_AckBookModel_sample_122 : decode c_AckBookModel_sample 122 = .ok (.dup, 1) := by decide +kernel
theorem d_AckBookModel_sample_123 : decode c_AckBookModel_sample 123 = .ok (.getfield 50, 3) := by decide +kernel
theorem d_AckBookModel_sample_126 : decode c_AckBookModel_sample 126 = .ok (.iload_n 3, 1) := by decide +kernel
theorem d_AckBookModel_sample_127 : decode c_AckBookModel_sample 127 = .ok (.aload_n 0, 1) := by decide +kernel
theorem d_AckBookModel_sample_128 : decode c_AckBookModel_sample 128 = .ok (.getfield 50, 3) := by decide +kernel
theorem d_AckBookModel_sample_131 : decode c_AckBookModel_sample 131 = .ok (.bipush (8), 2) := by decide +kernel
theorem d_AckBookModel_sample_133 : decode c_AckBookModel_sample 133 = .ok (.idiv, 1) := by decide +kernel
theorem d_AckBookModel_sample_134 : decode c_AckBookModel_sample 134 = .ok (.isub, 1) := by decide +kernel
theorem d_AckBookModel_sample_135 : decode c_AckBookModel_sample 135 = .ok (.iadd, 1) := by decide +kernel
theorem d_AckBookModel_sample_136 : decode c_AckBookModel_sample 136 = .ok (.putfield 50, 3) := by decide +kernel
theorem d_AckBookModel_sample_139 : decode c_AckBookModel_sample 139 = .ok (.return_, 1) := by decide +kernel
theorem d_AckBookModel_sample_80 : decode c_AckBookModel_sample 80 = .ok (.istore_n 3, 1) := by decide +kernel
theorem d_AckBookModel_sample_81 : decode c_AckBookModel_sample 81 = .ok (.aload_n 0, 1) := by decide +kernel
theorem d_AckBookModel_sample_82 : decode c_AckBookModel_sample 82 = .ok (.getfield 50, 3) := by decide +kernel
theorem d_AckBookModel_sample_85 : decode c_AckBookModel_sample 85 = .ok (.bipush (8), 2) := by decide +kernel
theorem d_AckBookModel_sample_87 : decode c_AckBookModel_sample 87 = .ok (.idiv, 1) := by decide +kernel
theorem d_AckBookModel_sample_88 : decode c_AckBookModel_sample 88 = .ok (.iload_n 3, 1) := by decide +kernel
theorem d_AckBookModel_sample_89 : decode c_AckBookModel_sample 89 = .ok (.isub, 1) := by decide +kernel
theorem d_AckBookModel_sample_90 : decode c_AckBookModel_sample 90 = .ok (.istore 4, 2) := by decide +kernel
theorem d_AckBookModel_sample_92 : decode c_AckBookModel_sample 92 = .ok (.aload_n 0, 1) := by decide +kernel
theorem d_AckBookModel_sample_93 : decode c_AckBookModel_sample 93 = .ok (.dup, 1) := by decide +kernel
theorem d_AckBookModel_sample_94 : decode c_AckBookModel_sample 94 = .ok (.getfield 54, 3) := by decide +kernel
theorem d_AckBookModel_sample_97 : decode c_AckBookModel_sample 97 = .ok (.iload 4, 2) := by decide +kernel
theorem d_AckBookModel_sample_99 : decode c_AckBookModel_sample 99 = .ok (.ifCond .ge (9), 3) := by decide +kernel
theorem d_AckBookModel_sample_108 : decode c_AckBookModel_sample 108 = .ok (.iload 4, 2) := by decide +kernel
theorem d_AckBookModel_sample_102 : decode c_AckBookModel_sample 102 = .ok (.iload 4, 2) := by decide +kernel
theorem d_AckBookModel_sample_104 : decode c_AckBookModel_sample 104 = .ok (.ineg, 1) := by decide +kernel
theorem d_AckBookModel_sample_105 : decode c_AckBookModel_sample 105 = .ok (.goto (5), 3) := by decide +kernel
theorem d_AckBookModel_sample_29 : decode c_AckBookModel_sample 29 = .ok (.putfield 57, 3) := by decide +kernel
theorem d_AckBookModel_sample_32 : decode c_AckBookModel_sample 32 = .ok (.aload_n 0, 1) := by decide +kernel
theorem d_AckBookModel_sample_33 : decode c_AckBookModel_sample 33 = .ok (.getfield 60, 3) := by decide +kernel
theorem d_AckBookModel_sample_36 : decode c_AckBookModel_sample 36 = .ok (.ifCond .ge (27), 3) := by decide +kernel
theorem d_AckBookModel_sample_63 : decode c_AckBookModel_sample 63 = .ok (.iload_n 1, 1) := by decide +kernel
theorem d_AckBookModel_sample_64 : decode c_AckBookModel_sample 64 = .ok (.aload_n 0, 1) := by decide +kernel
theorem d_AckBookModel_sample_65 : decode c_AckBookModel_sample 65 = .ok (.getfield 57, 3) := by decide +kernel
theorem d_AckBookModel_sample_68 : decode c_AckBookModel_sample 68 = .ok (.iload_n 2, 1) := by decide +kernel
theorem d_AckBookModel_sample_69 : decode c_AckBookModel_sample 69 = .ok (.iadd, 1) := by decide +kernel
theorem d_AckBookModel_sample_70 : decode c_AckBookModel_sample 70 = .ok (.if_icmp .lt (9), 3) := by decide +kernel
theorem d_AckBookModel_sample_79 : decode c_AckBookModel_sample 79 = .ok (.iload_n 1, 1) := by decide +kernel
theorem d_AckBookModel_sample_73 : decode c_AckBookModel_sample 73 = .ok (.iload_n 1, 1) := by decide +kernel
theorem d_AckBookModel_sample_74 : decode c_AckBookModel_sample 74 = .ok (.iload_n 2, 1) := by decide +kernel
theorem d_AckBookModel_sample_75 : decode c_AckBookModel_sample 75 = .ok (.isub, 1) := by decide +kernel
theorem d_AckBookModel_sample_76 : decode c_AckBookModel_sample 76 = .ok (.goto (4), 3) := by decide +kernel
theorem d_AckBookModel_sample_39 : decode c_AckBookModel_sample 39 = .ok (.aload_n 0, 1) := by decide +kernel
theorem d_AckBookModel_sample_40 : decode c_AckBookModel_sample 40 = .ok (.aload_n 0, 1) := by decide +kernel
theorem d_AckBookModel_sample_41 : decode c_AckBookModel_sample 41 = .ok (.getfield 150, 3) := by decide +kernel
theorem d_AckBookModel_sample_44 : decode c_AckBookModel_sample 44 = .ok (.putfield 60, 3) := by decide +kernel
theorem d_AckBookModel_sample_47 : decode c_AckBookModel_sample 47 = .ok (.aload_n 0, 1) := by decide +kernel
theorem d_AckBookModel_sample_48 : decode c_AckBookModel_sample 48 = .ok (.bipush (8), 2) := by decide +kernel
theorem d_AckBookModel_sample_50 : decode c_AckBookModel_sample 50 = .ok (.iload_n 1, 1) := by decide +kernel
theorem d_AckBookModel_sample_51 : decode c_AckBookModel_sample 51 = .ok (.imul, 1) := by decide +kernel
theorem d_AckBookModel_sample_52 : decode c_AckBookModel_sample 52 = .ok (.putfield 50, 3) := by decide +kernel
theorem d_AckBookModel_sample_55 : decode c_AckBookModel_sample 55 = .ok (.aload_n 0, 1) := by decide +kernel
theorem d_AckBookModel_sample_56 : decode c_AckBookModel_sample 56 = .ok (.iconst (2), 1) := by decide +kernel
theorem d_AckBookModel_sample_57 : decode c_AckBookModel_sample 57 = .ok (.iload_n 1, 1) := by decide +kernel
theorem d_AckBookModel_sample_58 : decode c_AckBookModel_sample 58 = .ok (.imul, 1) := by decide +kernel
theorem d_AckBookModel_sample_59 : decode c_AckBookModel_sample 59 = .ok (.putfield 54, 3) := by decide +kernel
theorem d_AckBookModel_sample_62 : decode c_AckBookModel_sample 62 = .ok (.return_, 1) := by decide +kernel
theorem d_AckBookModel_sample_21 : decode c_AckBookModel_sample 21 = .ok (.iload_n 1, 1) := by decide +kernel
theorem d_AckBookModel_sample_22 : decode c_AckBookModel_sample 22 = .ok (.goto (7), 3) := by decide +kernel
theorem d_AckBookModel_sample_0 : decode c_AckBookModel_sample 0 = .ok (.aload_n 0, 1) := by decide +kernel
theorem d_AckBookModel_sample_1 : decode c_AckBookModel_sample 1 = .ok (.iload_n 1, 1) := by decide +kernel
theorem d_AckBookModel_sample_2 : decode c_AckBookModel_sample 2 = .ok (.putfield 118, 3) := by decide +kernel
theorem d_AckBookModel_sample_5 : decode c_AckBookModel_sample 5 = .ok (.aload_n 0, 1) := by decide +kernel
theorem d_AckBookModel_sample_6 : decode c_AckBookModel_sample 6 = .ok (.aload_n 0, 1) := by decide +kernel
theorem d_AckBookModel_sample_7 : decode c_AckBookModel_sample 7 = .ok (.getfield 57, 3) := by decide +kernel
theorem d_AckBookModel_sample_10 : decode c_AckBookModel_sample 10 = .ok (.ifCond .lt (11), 3) := by decide +kernel
theorem d_AckBookModel_sample_13 : decode c_AckBookModel_sample 13 = .ok (.iload_n 1, 1) := by decide +kernel
theorem d_AckBookModel_sample_14 : decode c_AckBookModel_sample 14 = .ok (.aload_n 0, 1) := by decide +kernel
theorem d_AckBookModel_sample_15 : decode c_AckBookModel_sample 15 = .ok (.getfield 57, 3) := by decide +kernel
theorem d_AckBookModel_sample_18 : decode c_AckBookModel_sample 18 = .ok (.if_icmp .ge (7), 3) := by decide +kernel
theorem d_AckBookModel_sample_25 : decode c_AckBookModel_sample 25 = .ok (.aload_n 0, 1) := by decide +kernel
theorem d_AckBookModel_sample_26 : decode c_AckBookModel_sample 26 = .ok (.getfield 57, 3) := by decide +kernel
theorem d_AckBookModel_find_0 : decode c_AckBookModel_find 0 = .ok (.iconst (2), 1) := by decide +kernel
theorem d_AckBookModel_find_1 : decode c_AckBookModel_find 1 = .ok (.iload_n 1, 1) := by decide +kernel
theorem d_AckBookModel_find_2 : decode c_AckBookModel_find 2 = .ok (.imul, 1) := by decide +kernel
theorem d_AckBookModel_find_3 : decode c_AckBookModel_find 3 = .ok (.iload_n 3, 1) := by decide +kernel
theorem d_AckBookModel_find_4 : decode c_AckBookModel_find 4 = .ok (.iadd, 1) := by decide +kernel
theorem d_AckBookModel_find_5 : decode c_AckBookModel_find 5 = .ok (.iconst (1), 1) := by decide +kernel
theorem d_AckBookModel_find_6 : decode c_AckBookModel_find 6 = .ok (.isub, 1) := by decide +kernel
theorem d_AckBookModel_find_7 : decode c_AckBookModel_find 7 = .ok (.istore 4, 2) := by decide +kernel
theorem d_AckBookModel_find_9 : decode c_AckBookModel_find 9 = .ok (.aload_n 0, 1) := by decide +kernel
theorem d_AckBookModel_find_10 : decode c_AckBookModel_find 10 = .ok (.getfield 19, 3) := by decide +kernel
theorem d_AckBookModel_find_13 : decode c_AckBookModel_find 13 = .ok (.sipush (4096), 3) := by decide +kernel
theorem d_AckBookModel_find_16 : decode c_AckBookModel_find 16 = .ok (.iload_n 1, 1) := by decide +kernel
theorem d_AckBookModel_find_17 : decode c_AckBookModel_find 17 = .ok (.imul, 1) := by decide +kernel
theorem d_AckBookModel_find_18 : decode c_AckBookModel_find 18 = .ok (.iload_n 2, 1) := by decide +kernel
theorem d_AckBookModel_find_19 : decode c_AckBookModel_find 19 = .ok (.iadd, 1) := by decide +kernel
theorem d_AckBookModel_find_20 : decode c_AckBookModel_find 20 = .ok (.iload_n 3, 1) := by decide +kernel
theorem d_AckBookModel_find_21 : decode c_AckBookModel_find 21 = .ok (.iastore, 1) := by decide +kernel
theorem d_AckBookModel_find_22 : decode c_AckBookModel_find 22 = .ok (.aload_n 0, 1) := by decide +kernel
theorem d_AckBookModel_find_23 : decode c_AckBookModel_find 23 = .ok (.getfield 41, 3) := by decide +kernel
theorem d_AckBookModel_find_26 : decode c_AckBookModel_find 26 = .ok (.sipush (4096), 3) := by decide +kernel
theorem d_AckBookModel_find_29 : decode c_AckBookModel_find 29 = .ok (.iload 4, 2) := by decide +kernel
theorem d_AckBookModel_find_31 : decode c_AckBookModel_find 31 = .ok (.imul, 1) := by decide +kernel
theorem d_AckBookModel_find_32 : decode c_AckBookModel_find 32 = .ok (.aload_n 0, 1) := by decide +kernel
theorem d_AckBookModel_find_33 : decode c_AckBookModel_find 33 = .ok (.getfield 44, 3) := by decide +kernel
theorem d_AckBookModel_find_36 : decode c_AckBookModel_find 36 = .ok (.iload 4, 2) := by decide +kernel
theorem d_AckBookModel_find_38 : decode c_AckBookModel_find 38 = .ok (.iaload, 1) := by decide +kernel
theorem d_AckBookModel_find_39 : decode c_AckBookModel_find 39 = .ok (.iadd, 1) := by decide +kernel
theorem d_AckBookModel_find_40 : decode c_AckBookModel_find 40 = .ok (.iload_n 2, 1) := by decide +kernel
theorem d_AckBookModel_find_41 : decode c_AckBookModel_find 41 = .ok (.iastore, 1) := by decide +kernel
theorem d_AckBookModel_find_42 : decode c_AckBookModel_find 42 = .ok (.aload_n 0, 1) := by decide +kernel
