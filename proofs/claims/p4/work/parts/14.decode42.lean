theorem d_AckBookLaw_law_20 : decode c_AckBookLaw_law 20 = .ok (.iconst (0), 1) := by decide +kernel
theorem d_AckBookLaw_law_21 : decode c_AckBookLaw_law 21 = .ok (.istore 4, 2) := by decide +kernel
