theorem d_AckBookModel_written_28 : decode c_AckBookModel_written 28 = .ok (.ifCond .eq (7), 3) := by decide +kernel
theorem d_AckBookModel_written_35 : decode c_AckBookModel_written 35 = .ok (.iconst (0), 1) := by decide +kernel
theorem d_AckBookModel_range_32 : decode c_AckBookModel_range 32 = .ok (.iconst (2), 1) := by decide +kernel
theorem d_AckBookModel_range_33 : decode c_AckBookModel_range 33 = .ok (.invokevirtual 146, 3) := by decide +kernel
theorem d_AckBookModel_range_36 : decode c_AckBookModel_range 36 = .ok (.ifCond .eq (5), 3) := by decide +kernel
theorem d_AckBookModel_range_41 : decode c_AckBookModel_range 41 = .ok (.bipush (65), 2) := by decide +kernel
theorem d_AckBookModel_range_43 : decode c_AckBookModel_range 43 = .ok (.iload_n 1, 1) := by decide +kernel
theorem d_AckBookModel_range_44 : decode c_AckBookModel_range 44 = .ok (.imul, 1) := by decide +kernel
theorem d_AckBookModel_range_45 : decode c_AckBookModel_range 45 = .ok (.aload_n 0, 1) := by decide +kernel
theorem d_AckBookModel_range_46 : decode c_AckBookModel_range 46 = .ok (.getfield 79, 3) := by decide +kernel
theorem d_AckBookModel_range_49 : decode c_AckBookModel_range 49 = .ok (.iload_n 1, 1) := by decide +kernel
theorem d_AckBookModel_range_50 : decode c_AckBookModel_range 50 = .ok (.iaload, 1) := by decide +kernel
theorem d_AckBookModel_range_51 : decode c_AckBookModel_range 51 = .ok (.iadd, 1) := by decide +kernel
theorem d_AckBookModel_range_52 : decode c_AckBookModel_range 52 = .ok (.iconst (1), 1) := by decide +kernel
theorem d_AckBookModel_range_53 : decode c_AckBookModel_range 53 = .ok (.isub, 1) := by decide +kernel
theorem d_AckBookModel_range_54 : decode c_AckBookModel_range 54 = .ok (.iload_n 2, 1) := by decide +kernel
theorem d_AckBookModel_range_55 : decode c_AckBookModel_range 55 = .ok (.isub, 1) := by decide +kernel
theorem d_AckBookModel_range_56 : decode c_AckBookModel_range 56 = .ok (.istore 4, 2) := by decide +kernel
theorem d_AckBookModel_range_58 : decode c_AckBookModel_range 58 = .ok (.iload_n 3, 1) := by decide +kernel
theorem d_AckBookModel_range_59 : decode c_AckBookModel_range 59 = .ok (.ifCond .eq (13), 3) := by decide +kernel
theorem d_AckBookModel_range_72 : decode c_AckBookModel_range 72 = .ok (.aload_n 0, 1) := by decide +kernel
theorem d_AckBookModel_range_73 : decode c_AckBookModel_range 73 = .ok (.getfield 82, 3) := by decide +kernel
theorem d_AckBookModel_range_76 : decode c_AckBookModel_range 76 = .ok (.iload 4, 2) := by decide +kernel
theorem d_AckBookModel_range_78 : decode c_AckBookModel_range 78 = .ok (.laload, 1) := by decide +kernel
theorem d_AckBookModel_range_79 : decode c_AckBookModel_range 79 = .ok (.lreturn, 1) := by decide +kernel
theorem d_AckBookModel_range_62 : decode c_AckBookModel_range 62 = .ok (.aload_n 0, 1) := by decide +kernel
theorem d_AckBookModel_range_63 : decode c_AckBookModel_range 63 = .ok (.getfield 85, 3) := by decide +kernel
theorem d_AckBookModel_range_66 : decode c_AckBookModel_range 66 = .ok (.iload 4, 2) := by decide +kernel
theorem d_AckBookModel_range_68 : decode c_AckBookModel_range 68 = .ok (.laload, 1) := by decide +kernel
theorem d_AckBookModel_range_69 : decode c_AckBookModel_range 69 = .ok (.goto (10), 3) := by decide +kernel
theorem d_AckBookModel_range_39 : decode c_AckBookModel_range 39 = .ok (.lconst 0, 1) := by decide +kernel
theorem d_AckBookModel_range_40 : decode c_AckBookModel_range 40 = .ok (.lreturn, 1) := by decide +kernel
theorem d_AckBookModel_range_27 : decode c_AckBookModel_range 27 = .ok (.iconst (1), 1) := by decide +kernel
theorem d_AckBookModel_range_28 : decode c_AckBookModel_range 28 = .ok (.goto (4), 3) := by decide +kernel
theorem d_AckBookModel_range_0 : decode c_AckBookModel_range 0 = .ok (.aload_n 0, 1) := by decide +kernel
theorem d_AckBookModel_range_1 : decode c_AckBookModel_range 1 = .ok (.iload_n 1, 1) := by decide +kernel
theorem d_AckBookModel_range_2 : decode c_AckBookModel_range 2 = .ok (.invokestatic 142, 3) := by decide +kernel
theorem d_AckBookModel_range_5 : decode c_AckBookModel_range 5 = .ok (.iconst (1), 1) := by decide +kernel
theorem d_AckBookModel_range_6 : decode c_AckBookModel_range 6 = .ok (.invokevirtual 146, 3) := by decide +kernel
theorem d_AckBookModel_range_9 : decode c_AckBookModel_range 9 = .ok (.ifCond .ne (30), 3) := by decide +kernel
theorem d_AckBookModel_range_12 : decode c_AckBookModel_range 12 = .ok (.aload_n 0, 1) := by decide +kernel
theorem d_AckBookModel_range_13 : decode c_AckBookModel_range 13 = .ok (.iload_n 2, 1) := by decide +kernel
theorem d_AckBookModel_range_14 : decode c_AckBookModel_range 14 = .ok (.ifCond .lt (13), 3) := by decide +kernel
theorem d_AckBookModel_range_17 : decode c_AckBookModel_range 17 = .ok (.iload_n 2, 1) := by decide +kernel
theorem d_AckBookModel_range_18 : decode c_AckBookModel_range 18 = .ok (.aload_n 0, 1) := by decide +kernel
theorem d_AckBookModel_range_19 : decode c_AckBookModel_range 19 = .ok (.getfield 79, 3) := by decide +kernel
theorem d_AckBookModel_range_22 : decode c_AckBookModel_range 22 = .ok (.iload_n 1, 1) := by decide +kernel
theorem d_AckBookModel_range_23 : decode c_AckBookModel_range 23 = .ok (.iaload, 1) := by decide +kernel
theorem d_AckBookModel_range_24 : decode c_AckBookModel_range 24 = .ok (.if_icmp .lt (7), 3) := by decide +kernel
theorem d_AckBookModel_range_31 : decode c_AckBookModel_range 31 = .ok (.iconst (0), 1) := by decide +kernel
theorem d_AckBookModel_look_16 : decode c_AckBookModel_look 16 = .ok (.iconst (1), 1) := by decide +kernel
theorem d_AckBookModel_look_17 : decode c_AckBookModel_look 17 = .ok (.invokevirtual 146, 3) := by decide +kernel
theorem d_AckBookModel_look_20 : decode c_AckBookModel_look 20 = .ok (.ifCond .eq (5), 3) := by decide +kernel
theorem d_AckBookModel_look_25 : decode c_AckBookModel_look 25 = .ok (.iload_n 1, 1) := by decide +kernel
theorem d_AckBookModel_look_26 : decode c_AckBookModel_look 26 = .ok (.tableswitch (113) (0) (10) #[58, 63, 68, 73, 78, 83, 88, 93, 98, 103, 108], 58) := by decide +kernel
theorem d_AckBookModel_look_84 : decode c_AckBookModel_look 84 = .ok (.aload_n 0, 1) := by decide +kernel
theorem d_AckBookModel_look_85 : decode c_AckBookModel_look 85 = .ok (.getfield 150, 3) := by decide +kernel
theorem d_AckBookModel_look_88 : decode c_AckBookModel_look 88 = .ok (.ireturn, 1) := by decide +kernel
theorem d_AckBookModel_look_89 : decode c_AckBookModel_look 89 = .ok (.aload_n 0, 1) := by decide +kernel
theorem d_AckBookModel_look_90 : decode c_AckBookModel_look 90 = .ok (.invokevirtual 153, 3) := by decide +kernel
theorem d_AckBookModel_look_93 : decode c_AckBookModel_look 93 = .ok (.ireturn, 1) := by decide +kernel
theorem d_AckBookModel_look_94 : decode c_AckBookModel_look 94 = .ok (.aload_n 0, 1) := by decide +kernel
theorem d_AckBookModel_look_95 : decode c_AckBookModel_look 95 = .ok (.getfield 63, 3) := by decide +kernel
theorem d_AckBookModel_look_98 : decode c_AckBookModel_look 98 = .ok (.ireturn, 1) := by decide +kernel
theorem d_AckBookModel_look_99 : decode c_AckBookModel_look 99 = .ok (.aload_n 0, 1) := by decide +kernel
theorem d_AckBookModel_look_100 : decode c_AckBookModel_look 100 = .ok (.getfield 66, 3) := by decide +kernel
theorem d_AckBookModel_look_103 : decode c_AckBookModel_look 103 = .ok (.ireturn, 1) := by decide +kernel
theorem d_AckBookModel_look_104 : decode c_AckBookModel_look 104 = .ok (.aload_n 0, 1) := by decide +kernel
theorem d_AckBookModel_look_105 : decode c_AckBookModel_look 105 = .ok (.getfield 69, 3) := by decide +kernel
theorem d_AckBookModel_look_108 : decode c_AckBookModel_look 108 = .ok (.ireturn, 1) := by decide +kernel
theorem d_AckBookModel_look_109 : decode c_AckBookModel_look 109 = .ok (.aload_n 0, 1) := by decide +kernel
theorem d_AckBookModel_look_110 : decode c_AckBookModel_look 110 = .ok (.getfield 50, 3) := by decide +kernel
theorem d_AckBookModel_look_113 : decode c_AckBookModel_look 113 = .ok (.ireturn, 1) := by decide +kernel
theorem d_AckBookModel_look_114 : decode c_AckBookModel_look 114 = .ok (.aload_n 0, 1) := by decide +kernel
theorem d_AckBookModel_look_115 : decode c_AckBookModel_look 115 = .ok (.getfield 54, 3) := by decide +kernel
theorem d_AckBookModel_look_118 : decode c_AckBookModel_look 118 = .ok (.ireturn, 1) := by decide +kernel
theorem d_AckBookModel_look_119 : decode c_AckBookModel_look 119 = .ok (.aload_n 0, 1) := by decide +kernel
theorem d_AckBookModel_look_120 : decode c_AckBookModel_look 120 = .ok (.getfield 118, 3) := by decide +kernel
theorem d_AckBookModel_look_123 : decode c_AckBookModel_look 123 = .ok (.ireturn, 1) := by decide +kernel
theorem d_AckBookModel_look_124 : decode c_AckBookModel_look 124 = .ok (.aload_n 0, 1) := by decide +kernel
theorem d_AckBookModel_look_125 : decode c_AckBookModel_look 125 = .ok (.getfield 57, 3) := by decide +kernel
theorem d_AckBookModel_look_128 : decode c_AckBookModel_look 128 = .ok (.ireturn, 1) := by decide +kernel
theorem d_AckBookModel_look_129 : decode c_AckBookModel_look 129 = .ok (.aload_n 0, 1) := by decide +kernel
theorem d_AckBookModel_look_130 : decode c_AckBookModel_look 130 = .ok (.getfield 129, 3) := by decide +kernel
theorem d_AckBookModel_look_133 : decode c_AckBookModel_look 133 = .ok (.ireturn, 1) := by decide +kernel
theorem d_AckBookModel_look_134 : decode c_AckBookModel_look 134 = .ok (.aload_n 0, 1) := by decide +kernel
theorem d_AckBookModel_look_135 : decode c_AckBookModel_look 135 = .ok (.invokevirtual 186, 3) := by decide +kernel
theorem d_AckBookModel_look_138 : decode c_AckBookModel_look 138 = .ok (.ireturn, 1) := by decide +kernel
theorem d_AckBookModel_look_139 : decode c_AckBookModel_look 139 = .ok (.aload_n 0, 1) := by decide +kernel
theorem d_AckBookModel_look_140 : decode c_AckBookModel_look 140 = .ok (.getfield 63, 3) := by decide +kernel
theorem d_AckBookModel_look_143 : decode c_AckBookModel_look 143 = .ok (.aload_n 0, 1) := by decide +kernel
theorem d_AckBookModel_look_144 : decode c_AckBookModel_look 144 = .ok (.invokevirtual 153, 3) := by decide +kernel
theorem d_AckBookModel_look_147 : decode c_AckBookModel_look 147 = .ok (.isub, 1) := by decide +kernel
theorem d_AckBookModel_look_148 : decode c_AckBookModel_look 148 = .ok (.iconst (0), 1) := by decide +kernel
theorem d_AckBookModel_look_149 : decode c_AckBookModel_look 149 = .ok (.invokestatic 110, 3) := by decide +kernel
theorem d_AckBookModel_look_152 : decode c_AckBookModel_look 152 = .ok (.ireturn, 1) := by decide +kernel
theorem d_AckBookModel_look_23 : decode c_AckBookModel_look 23 = .ok (.iconst (0), 1) := by decide +kernel
theorem d_AckBookModel_look_24 : decode c_AckBookModel_look 24 = .ok (.ireturn, 1) := by decide +kernel
theorem d_AckBookModel_look_11 : decode c_AckBookModel_look 11 = .ok (.iconst (1), 1) := by decide +kernel
theorem d_AckBookModel_look_12 : decode c_AckBookModel_look 12 = .ok (.goto (4), 3) := by decide +kernel
theorem d_AckBookModel_look_0 : decode c_AckBookModel_look 0 = .ok (.aload_n 0, 1) := by decide +kernel
theorem d_AckBookModel_look_1 : decode c_AckBookModel_look 1 = .ok (.iload_n 1, 1) := by decide +kernel
theorem d_AckBookModel_look_2 : decode c_AckBookModel_look 2 = .ok (.ifCond .lt (9), 3) := by decide +kernel
theorem d_AckBookModel_look_5 : decode c_AckBookModel_look 5 = .ok (.iload_n 1, 1) := by decide +kernel
theorem d_AckBookModel_look_6 : decode c_AckBookModel_look 6 = .ok (.bipush (11), 2) := by decide +kernel
theorem d_AckBookModel_look_8 : decode c_AckBookModel_look 8 = .ok (.if_icmp .le (7), 3) := by decide +kernel
theorem d_AckBookModel_look_15 : decode c_AckBookModel_look 15 = .ok (.iconst (0), 1) := by decide +kernel
theorem d_AckBookModel_space_28 : decode c_AckBookModel_space 28 = .ok (.iconst (2), 1) := by decide +kernel
theorem d_AckBookModel_space_29 : decode c_AckBookModel_space 29 = .ok (.invokevirtual 146, 3) := by decide +kernel
theorem d_AckBookModel_space_32 : decode c_AckBookModel_space 32 = .ok (.ifCond .eq (5), 3) := by decide +kernel
theorem d_AckBookModel_space_37 : decode c_AckBookModel_space 37 = .ok (.iload_n 2, 1) := by decide +kernel
theorem d_AckBookModel_space_38 : decode c_AckBookModel_space 38 = .ok (.tableswitch (139) (0) (9) #[54, 62, 70, 78, 85, 93, 101, 109, 117, 124], 54) := by decide +kernel
theorem d_AckBookModel_space_92 : decode c_AckBookModel_space 92 = .ok (.aload_n 0, 1) := by decide +kernel
theorem d_AckBookModel_space_93 : decode c_AckBookModel_space 93 = .ok (.getfield 7, 3) := by decide +kernel
theorem d_AckBookModel_space_96 : decode c_AckBookModel_space 96 = .ok (.iload_n 1, 1) := by decide +kernel
theorem d_AckBookModel_space_97 : decode c_AckBookModel_space 97 = .ok (.iaload, 1) := by decide +kernel
theorem d_AckBookModel_space_98 : decode c_AckBookModel_space 98 = .ok (.i2l, 1) := by decide +kernel
theorem d_AckBookModel_space_99 : decode c_AckBookModel_space 99 = .ok (.lreturn, 1) := by decide +kernel
theorem d_AckBookModel_space_100 : decode c_AckBookModel_space 100 = .ok (.aload_n 0, 1) := by decide +kernel
theorem d_AckBookModel_space_101 : decode c_AckBookModel_space 101 = .ok (.getfield 35, 3) := by decide +kernel
