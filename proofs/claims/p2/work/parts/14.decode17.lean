theorem d_AckBook_space_6 : decode c_AckBook_space 6 = .ok (.iload_n 2, 1) := by decide +kernel
theorem d_AckBook_space_7 : decode c_AckBook_space 7 = .ok (.tableswitch (155) (0) (10) #[57, 66, 75, 84, 91, 100, 109, 118, 127, 134, 147], 57) := by decide +kernel
theorem d_AckBook_space_64 : decode c_AckBook_space 64 = .ok (.aload_n 3, 1) := by decide +kernel
theorem d_AckBook_space_65 : decode c_AckBook_space 65 = .ok (.getfield 56, 3) := by decide +kernel
theorem d_AckBook_space_68 : decode c_AckBook_space 68 = .ok (.invokevirtual 60, 3) := by decide +kernel
theorem d_AckBook_space_71 : decode c_AckBook_space 71 = .ok (.i2l, 1) := by decide +kernel
theorem d_AckBook_space_72 : decode c_AckBook_space 72 = .ok (.lreturn, 1) := by decide +kernel
theorem d_AckBook_space_73 : decode c_AckBook_space 73 = .ok (.aload_n 3, 1) := by decide +kernel
theorem d_AckBook_space_74 : decode c_AckBook_space 74 = .ok (.getfield 56, 3) := by decide +kernel
theorem d_AckBook_space_77 : decode c_AckBook_space 77 = .ok (.getfield 251, 3) := by decide +kernel
theorem d_AckBook_space_80 : decode c_AckBook_space 80 = .ok (.i2l, 1) := by decide +kernel
theorem d_AckBook_space_81 : decode c_AckBook_space 81 = .ok (.lreturn, 1) := by decide +kernel
theorem d_AckBook_space_82 : decode c_AckBook_space 82 = .ok (.aload_n 3, 1) := by decide +kernel
theorem d_AckBook_space_83 : decode c_AckBook_space 83 = .ok (.getfield 56, 3) := by decide +kernel
theorem d_AckBook_space_86 : decode c_AckBook_space 86 = .ok (.getfield 254, 3) := by decide +kernel
theorem d_AckBook_space_89 : decode c_AckBook_space 89 = .ok (.i2l, 1) := by decide +kernel
theorem d_AckBook_space_90 : decode c_AckBook_space 90 = .ok (.lreturn, 1) := by decide +kernel
theorem d_AckBook_space_91 : decode c_AckBook_space 91 = .ok (.aload_n 0, 1) := by decide +kernel
theorem d_AckBook_space_92 : decode c_AckBook_space 92 = .ok (.aload_n 3, 1) := by decide +kernel
theorem d_AckBook_space_93 : decode c_AckBook_space 93 = .ok (.invokevirtual 257, 3) := by decide +kernel
theorem d_AckBook_space_96 : decode c_AckBook_space 96 = .ok (.i2l, 1) := by decide +kernel
theorem d_AckBook_space_97 : decode c_AckBook_space 97 = .ok (.lreturn, 1) := by decide +kernel
theorem d_AckBook_space_98 : decode c_AckBook_space 98 = .ok (.aload_n 3, 1) := by decide +kernel
theorem d_AckBook_space_99 : decode c_AckBook_space 99 = .ok (.getfield 56, 3) := by decide +kernel
theorem d_AckBook_space_102 : decode c_AckBook_space 102 = .ok (.getfield 261, 3) := by decide +kernel
theorem d_AckBook_space_105 : decode c_AckBook_space 105 = .ok (.i2l, 1) := by decide +kernel
theorem d_AckBook_space_106 : decode c_AckBook_space 106 = .ok (.lreturn, 1) := by decide +kernel
theorem d_AckBook_space_107 : decode c_AckBook_space 107 = .ok (.aload_n 3, 1) := by decide +kernel
theorem d_AckBook_space_108 : decode c_AckBook_space 108 = .ok (.getfield 56, 3) := by decide +kernel
theorem d_AckBook_space_111 : decode c_AckBook_space 111 = .ok (.getfield 264, 3) := by decide +kernel
theorem d_AckBook_space_114 : decode c_AckBook_space 114 = .ok (.i2l, 1) := by decide +kernel
theorem d_AckBook_space_115 : decode c_AckBook_space 115 = .ok (.lreturn, 1) := by decide +kernel
theorem d_AckBook_space_116 : decode c_AckBook_space 116 = .ok (.aload_n 3, 1) := by decide +kernel
theorem d_AckBook_space_117 : decode c_AckBook_space 117 = .ok (.getfield 157, 3) := by decide +kernel
theorem d_AckBook_space_120 : decode c_AckBook_space 120 = .ok (.getfield 200, 3) := by decide +kernel
theorem d_AckBook_space_123 : decode c_AckBook_space 123 = .ok (.i2l, 1) := by decide +kernel
theorem d_AckBook_space_124 : decode c_AckBook_space 124 = .ok (.lreturn, 1) := by decide +kernel
theorem d_AckBook_space_125 : decode c_AckBook_space 125 = .ok (.aload_n 3, 1) := by decide +kernel
theorem d_AckBook_space_126 : decode c_AckBook_space 126 = .ok (.getfield 157, 3) := by decide +kernel
theorem d_AckBook_space_129 : decode c_AckBook_space 129 = .ok (.getfield 197, 3) := by decide +kernel
theorem d_AckBook_space_132 : decode c_AckBook_space 132 = .ok (.i2l, 1) := by decide +kernel
theorem d_AckBook_space_133 : decode c_AckBook_space 133 = .ok (.lreturn, 1) := by decide +kernel
theorem d_AckBook_space_134 : decode c_AckBook_space 134 = .ok (.aload_n 0, 1) := by decide +kernel
theorem d_AckBook_space_135 : decode c_AckBook_space 135 = .ok (.aload_n 3, 1) := by decide +kernel
theorem d_AckBook_space_136 : decode c_AckBook_space 136 = .ok (.invokevirtual 267, 3) := by decide +kernel
theorem d_AckBook_space_139 : decode c_AckBook_space 139 = .ok (.i2l, 1) := by decide +kernel
theorem d_AckBook_space_140 : decode c_AckBook_space 140 = .ok (.lreturn, 1) := by decide +kernel
theorem d_AckBook_space_141 : decode c_AckBook_space 141 = .ok (.aload_n 3, 1) := by decide +kernel
theorem d_AckBook_space_142 : decode c_AckBook_space 142 = .ok (.getfield 149, 3) := by decide +kernel
theorem d_AckBook_space_145 : decode c_AckBook_space 145 = .ok (.ifCond .eq (7), 3) := by decide +kernel
theorem d_AckBook_space_152 : decode c_AckBook_space 152 = .ok (.lconst 0, 1) := by decide +kernel
theorem d_AckBook_space_153 : decode c_AckBook_space 153 = .ok (.lreturn, 1) := by decide +kernel
theorem d_AckBook_space_148 : decode c_AckBook_space 148 = .ok (.lconst 1, 1) := by decide +kernel
theorem d_AckBook_space_149 : decode c_AckBook_space 149 = .ok (.goto (4), 3) := by decide +kernel
theorem d_AckBook_space_154 : decode c_AckBook_space 154 = .ok (.aload_n 3, 1) := by decide +kernel
theorem d_AckBook_space_155 : decode c_AckBook_space 155 = .ok (.getfield 157, 3) := by decide +kernel
theorem d_AckBook_space_158 : decode c_AckBook_space 158 = .ok (.getfield 270, 3) := by decide +kernel
theorem d_AckBook_space_161 : decode c_AckBook_space 161 = .ok (.lreturn, 1) := by decide +kernel
theorem d_AckBook_space_162 : decode c_AckBook_space 162 = .ok (.new 207, 3) := by decide +kernel
