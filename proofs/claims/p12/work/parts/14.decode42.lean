theorem d_AckBookLaw_law_16 : decode c_AckBookLaw_law 16 = .ok (.iconst (1), 1) := by decide +kernel
theorem d_AckBookLaw_law_17 : decode c_AckBookLaw_law 17 = .ok (.newarray .long, 2) := by decide +kernel
theorem d_AckBookLaw_law_19 : decode c_AckBookLaw_law 19 = .ok (.astore_n 3, 1) := by decide +kernel
theorem d_AckBookLaw_law_20 : decode c_AckBookLaw_law 20 = .ok (.iconst (0), 1) := by decide +kernel
theorem d_AckBookLaw_law_21 : decode c_AckBookLaw_law 21 = .ok (.istore 4, 2) := by decide +kernel
