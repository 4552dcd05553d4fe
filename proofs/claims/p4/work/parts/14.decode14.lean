theorem d_AckBookLaw_state_1 : decode c_AckBookLaw_state 1 = .ok (.iconst (0), 1) := by decide +kernel
theorem d_AckBookLaw_state_2 : decode c_AckBookLaw_state 2 = .ok (.aload_n 0, 1) := by decide +kernel
theorem d_AckBookLaw_state_3 : decode c_AckBookLaw_state 3 = .ok (.iload_n 1, 1) := by decide +kernel
theorem d_AckBookLaw_state_4 : decode c_AckBookLaw_state 4 = .ok (.iload_n 2, 1) := by decide +kernel
theorem d_AckBookLaw_state_5 : decode c_AckBookLaw_state 5 = .ok (.invokevirtual 33, 3) := by decide +kernel
theorem d_AckBookLaw_state_8 : decode c_AckBookLaw_state 8 = .ok (.i2l, 1) := by decide +kernel
theorem d_AckBookLaw_state_9 : decode c_AckBookLaw_state 9 = .ok (.lastore, 1) := by decide +kernel
theorem d_AckBookLaw_state_10 : decode c_AckBookLaw_state 10 = .ok (.goto (7), 3) := by decide +kernel
theorem d_AckBookLaw_state_17 : decode c_AckBookLaw_state 17 = .ok (.iconst (0), 1) := by decide +kernel
theorem d_AckBookLaw_state_18 : decode c_AckBookLaw_state 18 = .ok (.ireturn, 1) := by decide +kernel
theorem d_AckBookLaw_state_13 : decode c_AckBookLaw_state 13 = .ok (.astore 4, 2) := by decide +kernel
theorem d_AckBookLaw_state_15 : decode c_AckBookLaw_state 15 = .ok (.iconst (1), 1) := by decide +kernel
theorem d_AckBookLaw_state_16 : decode c_AckBookLaw_state 16 = .ok (.ireturn, 1) := by decide +kernel
theorem d_AckBook_Arrivals_firstNotAbove_2 : decode c_AckBook_Arrivals_firstNotAbove 2 = .ok (.iload_n 3, 1) := by decide +kernel
theorem d_AckBook_Arrivals_firstNotAbove_3 : decode c_AckBook_Arrivals_firstNotAbove 3 = .ok (.aload_n 0, 1) := by decide +kernel
theorem d_AckBook_Arrivals_firstNotAbove_4 : decode c_AckBook_Arrivals_firstNotAbove 4 = .ok (.getfield 26, 3) := by decide +kernel
theorem d_AckBook_Arrivals_firstNotAbove_7 : decode c_AckBook_Arrivals_firstNotAbove 7 = .ok (.if_icmp .ge (31), 3) := by decide +kernel
theorem d_AckBook_Arrivals_firstNotAbove_38 : decode c_AckBook_Arrivals_firstNotAbove 38 = .ok (.aload_n 0, 1) := by decide +kernel
theorem d_AckBook_Arrivals_firstNotAbove_39 : decode c_AckBook_Arrivals_firstNotAbove 39 = .ok (.getfield 26, 3) := by decide +kernel
theorem d_AckBook_Arrivals_firstNotAbove_42 : decode c_AckBook_Arrivals_firstNotAbove 42 = .ok (.ireturn, 1) := by decide +kernel
theorem d_AckBook_Arrivals_firstNotAbove_10 : decode c_AckBook_Arrivals_firstNotAbove 10 = .ok (.iload_n 3, 1) := by decide +kernel
theorem d_AckBook_Arrivals_firstNotAbove_11 : decode c_AckBook_Arrivals_firstNotAbove 11 = .ok (.aload_n 0, 1) := by decide +kernel
theorem d_AckBook_Arrivals_firstNotAbove_12 : decode c_AckBook_Arrivals_firstNotAbove 12 = .ok (.getfield 9, 3) := by decide +kernel
theorem d_AckBook_Arrivals_firstNotAbove_15 : decode c_AckBook_Arrivals_firstNotAbove 15 = .ok (.arraylength, 1) := by decide +kernel
theorem d_AckBook_Arrivals_firstNotAbove_16 : decode c_AckBook_Arrivals_firstNotAbove 16 = .ok (.if_icmp .ge (22), 3) := by decide +kernel
theorem d_AckBook_Arrivals_firstNotAbove_19 : decode c_AckBook_Arrivals_firstNotAbove 19 = .ok (.aload_n 0, 1) := by decide +kernel
theorem d_AckBook_Arrivals_firstNotAbove_20 : decode c_AckBook_Arrivals_firstNotAbove 20 = .ok (.getfield 9, 3) := by decide +kernel
theorem d_AckBook_Arrivals_firstNotAbove_23 : decode c_AckBook_Arrivals_firstNotAbove 23 = .ok (.iload_n 3, 1) := by decide +kernel
theorem d_AckBook_Arrivals_firstNotAbove_24 : decode c_AckBook_Arrivals_firstNotAbove 24 = .ok (.laload, 1) := by decide +kernel
theorem d_AckBook_Arrivals_firstNotAbove_25 : decode c_AckBook_Arrivals_firstNotAbove 25 = .ok (.lload_n 1, 1) := by decide +kernel
theorem d_AckBook_Arrivals_firstNotAbove_26 : decode c_AckBook_Arrivals_firstNotAbove 26 = .ok (.lcmp, 1) := by decide +kernel
theorem d_AckBook_Arrivals_firstNotAbove_27 : decode c_AckBook_Arrivals_firstNotAbove 27 = .ok (.ifCond .gt (5), 3) := by decide +kernel
theorem d_AckBook_Arrivals_firstNotAbove_32 : decode c_AckBook_Arrivals_firstNotAbove 32 = .ok (.iinc 3 (1), 3) := by decide +kernel
theorem d_AckBook_Arrivals_firstNotAbove_35 : decode c_AckBook_Arrivals_firstNotAbove 35 = .ok (.goto (-33), 3) := by decide +kernel
theorem d_AckBook_Arrivals_firstNotAbove_30 : decode c_AckBook_Arrivals_firstNotAbove 30 = .ok (.iload_n 3, 1) := by decide +kernel
theorem d_AckBook_Arrivals_firstNotAbove_31 : decode c_AckBook_Arrivals_firstNotAbove 31 = .ok (.ireturn, 1) := by decide +kernel
theorem d_AckBook_Arrivals_firstNotAbove_0 : decode c_AckBook_Arrivals_firstNotAbove 0 = .ok (.iconst (0), 1) := by decide +kernel
theorem d_AckBook_Arrivals_firstNotAbove_1 : decode c_AckBook_Arrivals_firstNotAbove 1 = .ok (.istore_n 3, 1) := by decide +kernel
theorem d_AckBook_Arrivals_remove_12 : decode c_AckBook_Arrivals_remove 12 = .ok (.iload_n 2, 1) := by decide +kernel
theorem d_AckBook_Arrivals_remove_13 : decode c_AckBook_Arrivals_remove 13 = .ok (.aload_n 0, 1) := by decide +kernel
theorem d_AckBook_Arrivals_remove_14 : decode c_AckBook_Arrivals_remove 14 = .ok (.getfield 26, 3) := by decide +kernel
theorem d_AckBook_Arrivals_remove_17 : decode c_AckBook_Arrivals_remove 17 = .ok (.if_icmp .ge (37), 3) := by decide +kernel
theorem d_AckBook_Arrivals_remove_54 : decode c_AckBook_Arrivals_remove 54 = .ok (.return_, 1) := by decide +kernel
theorem d_AckBook_Arrivals_remove_20 : decode c_AckBook_Arrivals_remove 20 = .ok (.aload_n 0, 1) := by decide +kernel
theorem d_AckBook_Arrivals_remove_21 : decode c_AckBook_Arrivals_remove 21 = .ok (.getfield 9, 3) := by decide +kernel
theorem d_AckBook_Arrivals_remove_24 : decode c_AckBook_Arrivals_remove 24 = .ok (.iload_n 2, 1) := by decide +kernel
theorem d_AckBook_Arrivals_remove_25 : decode c_AckBook_Arrivals_remove 25 = .ok (.aload_n 0, 1) := by decide +kernel
theorem d_AckBook_Arrivals_remove_26 : decode c_AckBook_Arrivals_remove 26 = .ok (.getfield 9, 3) := by decide +kernel
theorem d_AckBook_Arrivals_remove_29 : decode c_AckBook_Arrivals_remove 29 = .ok (.iload_n 2, 1) := by decide +kernel
theorem d_AckBook_Arrivals_remove_30 : decode c_AckBook_Arrivals_remove 30 = .ok (.iconst (1), 1) := by decide +kernel
theorem d_AckBook_Arrivals_remove_31 : decode c_AckBook_Arrivals_remove 31 = .ok (.iadd, 1) := by decide +kernel
theorem d_AckBook_Arrivals_remove_32 : decode c_AckBook_Arrivals_remove 32 = .ok (.laload, 1) := by decide +kernel
theorem d_AckBook_Arrivals_remove_33 : decode c_AckBook_Arrivals_remove 33 = .ok (.lastore, 1) := by decide +kernel
theorem d_AckBook_Arrivals_remove_34 : decode c_AckBook_Arrivals_remove 34 = .ok (.aload_n 0, 1) := by decide +kernel
theorem d_AckBook_Arrivals_remove_35 : decode c_AckBook_Arrivals_remove 35 = .ok (.getfield 15, 3) := by decide +kernel
theorem d_AckBook_Arrivals_remove_38 : decode c_AckBook_Arrivals_remove 38 = .ok (.iload_n 2, 1) := by decide +kernel
theorem d_AckBook_Arrivals_remove_39 : decode c_AckBook_Arrivals_remove 39 = .ok (.aload_n 0, 1) := by decide +kernel
theorem d_AckBook_Arrivals_remove_40 : decode c_AckBook_Arrivals_remove 40 = .ok (.getfield 15, 3) := by decide +kernel
theorem d_AckBook_Arrivals_remove_43 : decode c_AckBook_Arrivals_remove 43 = .ok (.iload_n 2, 1) := by decide +kernel
theorem d_AckBook_Arrivals_remove_44 : decode c_AckBook_Arrivals_remove 44 = .ok (.iconst (1), 1) := by decide +kernel
theorem d_AckBook_Arrivals_remove_45 : decode c_AckBook_Arrivals_remove 45 = .ok (.iadd, 1) := by decide +kernel
theorem d_AckBook_Arrivals_remove_46 : decode c_AckBook_Arrivals_remove 46 = .ok (.laload, 1) := by decide +kernel
theorem d_AckBook_Arrivals_remove_47 : decode c_AckBook_Arrivals_remove 47 = .ok (.lastore, 1) := by decide +kernel
theorem d_AckBook_Arrivals_remove_48 : decode c_AckBook_Arrivals_remove 48 = .ok (.iinc 2 (1), 3) := by decide +kernel
theorem d_AckBook_Arrivals_remove_51 : decode c_AckBook_Arrivals_remove 51 = .ok (.goto (-39), 3) := by decide +kernel
theorem d_AckBook_Arrivals_remove_0 : decode c_AckBook_Arrivals_remove 0 = .ok (.aload_n 0, 1) := by decide +kernel
theorem d_AckBook_Arrivals_remove_1 : decode c_AckBook_Arrivals_remove 1 = .ok (.dup, 1) := by decide +kernel
theorem d_AckBook_Arrivals_remove_2 : decode c_AckBook_Arrivals_remove 2 = .ok (.getfield 26, 3) := by decide +kernel
theorem d_AckBook_Arrivals_remove_5 : decode c_AckBook_Arrivals_remove 5 = .ok (.iconst (1), 1) := by decide +kernel
theorem d_AckBook_Arrivals_remove_6 : decode c_AckBook_Arrivals_remove 6 = .ok (.isub, 1) := by decide +kernel
theorem d_AckBook_Arrivals_remove_7 : decode c_AckBook_Arrivals_remove 7 = .ok (.putfield 26, 3) := by decide +kernel
theorem d_AckBook_Arrivals_remove_10 : decode c_AckBook_Arrivals_remove 10 = .ok (.iload_n 1, 1) := by decide +kernel
theorem d_AckBook_Arrivals_remove_11 : decode c_AckBook_Arrivals_remove 11 = .ok (.istore_n 2, 1) := by decide +kernel
theorem d_AckBook_Arrivals_insert_6 : decode c_AckBook_Arrivals_insert 6 = .ok (.iload 4, 2) := by decide +kernel
theorem d_AckBook_Arrivals_insert_8 : decode c_AckBook_Arrivals_insert 8 = .ok (.iload_n 3, 1) := by decide +kernel
theorem d_AckBook_Arrivals_insert_9 : decode c_AckBook_Arrivals_insert 9 = .ok (.if_icmp .le (41), 3) := by decide +kernel
theorem d_AckBook_Arrivals_insert_50 : decode c_AckBook_Arrivals_insert 50 = .ok (.aload_n 0, 1) := by decide +kernel
theorem d_AckBook_Arrivals_insert_51 : decode c_AckBook_Arrivals_insert 51 = .ok (.getfield 9, 3) := by decide +kernel
theorem d_AckBook_Arrivals_insert_54 : decode c_AckBook_Arrivals_insert 54 = .ok (.iload_n 3, 1) := by decide +kernel
theorem d_AckBook_Arrivals_insert_55 : decode c_AckBook_Arrivals_insert 55 = .ok (.lload_n 1, 1) := by decide +kernel
theorem d_AckBook_Arrivals_insert_56 : decode c_AckBook_Arrivals_insert 56 = .ok (.lastore, 1) := by decide +kernel
theorem d_AckBook_Arrivals_insert_57 : decode c_AckBook_Arrivals_insert 57 = .ok (.aload_n 0, 1) := by decide +kernel
theorem d_AckBook_Arrivals_insert_58 : decode c_AckBook_Arrivals_insert 58 = .ok (.getfield 15, 3) := by decide +kernel
theorem d_AckBook_Arrivals_insert_61 : decode c_AckBook_Arrivals_insert 61 = .ok (.iload_n 3, 1) := by decide +kernel
theorem d_AckBook_Arrivals_insert_62 : decode c_AckBook_Arrivals_insert 62 = .ok (.lload_n 1, 1) := by decide +kernel
theorem d_AckBook_Arrivals_insert_63 : decode c_AckBook_Arrivals_insert 63 = .ok (.lastore, 1) := by decide +kernel
theorem d_AckBook_Arrivals_insert_64 : decode c_AckBook_Arrivals_insert 64 = .ok (.aload_n 0, 1) := by decide +kernel
theorem d_AckBook_Arrivals_insert_65 : decode c_AckBook_Arrivals_insert 65 = .ok (.dup, 1) := by decide +kernel
theorem d_AckBook_Arrivals_insert_66 : decode c_AckBook_Arrivals_insert 66 = .ok (.getfield 26, 3) := by decide +kernel
theorem d_AckBook_Arrivals_insert_69 : decode c_AckBook_Arrivals_insert 69 = .ok (.iconst (1), 1) := by decide +kernel
theorem d_AckBook_Arrivals_insert_70 : decode c_AckBook_Arrivals_insert 70 = .ok (.iadd, 1) := by decide +kernel
theorem d_AckBook_Arrivals_insert_71 : decode c_AckBook_Arrivals_insert 71 = .ok (.putfield 26, 3) := by decide +kernel
theorem d_AckBook_Arrivals_insert_74 : decode c_AckBook_Arrivals_insert 74 = .ok (.aload_n 0, 1) := by decide +kernel
theorem d_AckBook_Arrivals_insert_75 : decode c_AckBook_Arrivals_insert 75 = .ok (.getfield 26, 3) := by decide +kernel
theorem d_AckBook_Arrivals_insert_78 : decode c_AckBook_Arrivals_insert 78 = .ok (.bipush (64), 2) := by decide +kernel
theorem d_AckBook_Arrivals_insert_80 : decode c_AckBook_Arrivals_insert 80 = .ok (.if_icmp .le (28), 3) := by decide +kernel
theorem d_AckBook_Arrivals_insert_108 : decode c_AckBook_Arrivals_insert 108 = .ok (.return_, 1) := by decide +kernel
theorem d_AckBook_Arrivals_insert_83 : decode c_AckBook_Arrivals_insert 83 = .ok (.aload_n 0, 1) := by decide +kernel
theorem d_AckBook_Arrivals_insert_84 : decode c_AckBook_Arrivals_insert 84 = .ok (.dup, 1) := by decide +kernel
theorem d_AckBook_Arrivals_insert_85 : decode c_AckBook_Arrivals_insert 85 = .ok (.getfield 26, 3) := by decide +kernel
theorem d_AckBook_Arrivals_insert_88 : decode c_AckBook_Arrivals_insert 88 = .ok (.iconst (1), 1) := by decide +kernel
theorem d_AckBook_Arrivals_insert_89 : decode c_AckBook_Arrivals_insert 89 = .ok (.isub, 1) := by decide +kernel
theorem d_AckBook_Arrivals_insert_90 : decode c_AckBook_Arrivals_insert 90 = .ok (.putfield 26, 3) := by decide +kernel
theorem d_AckBook_Arrivals_insert_93 : decode c_AckBook_Arrivals_insert 93 = .ok (.aload_n 0, 1) := by decide +kernel
theorem d_AckBook_Arrivals_insert_94 : decode c_AckBook_Arrivals_insert 94 = .ok (.aload_n 0, 1) := by decide +kernel
theorem d_AckBook_Arrivals_insert_95 : decode c_AckBook_Arrivals_insert 95 = .ok (.getfield 15, 3) := by decide +kernel
theorem d_AckBook_Arrivals_insert_98 : decode c_AckBook_Arrivals_insert 98 = .ok (.aload_n 0, 1) := by decide +kernel
theorem d_AckBook_Arrivals_insert_99 : decode c_AckBook_Arrivals_insert 99 = .ok (.getfield 26, 3) := by decide +kernel
theorem d_AckBook_Arrivals_insert_102 : decode c_AckBook_Arrivals_insert 102 = .ok (.laload, 1) := by decide +kernel
theorem d_AckBook_Arrivals_insert_103 : decode c_AckBook_Arrivals_insert 103 = .ok (.lconst 1, 1) := by decide +kernel
theorem d_AckBook_Arrivals_insert_104 : decode c_AckBook_Arrivals_insert 104 = .ok (.ladd, 1) := by decide +kernel
theorem d_AckBook_Arrivals_insert_105 : decode c_AckBook_Arrivals_insert 105 = .ok (.putfield 22, 3) := by decide +kernel
theorem d_AckBook_Arrivals_insert_12 : decode c_AckBook_Arrivals_insert 12 = .ok (.aload_n 0, 1) := by decide +kernel
theorem d_AckBook_Arrivals_insert_13 : decode c_AckBook_Arrivals_insert 13 = .ok (.getfield 9, 3) := by decide +kernel
theorem d_AckBook_Arrivals_insert_16 : decode c_AckBook_Arrivals_insert 16 = .ok (.iload 4, 2) := by decide +kernel
theorem d_AckBook_Arrivals_insert_18 : decode c_AckBook_Arrivals_insert 18 = .ok (.aload_n 0, 1) := by decide +kernel
theorem d_AckBook_Arrivals_insert_19 : decode c_AckBook_Arrivals_insert 19 = .ok (.getfield 9, 3) := by decide +kernel
theorem d_AckBook_Arrivals_insert_22 : decode c_AckBook_Arrivals_insert 22 = .ok (.iload 4, 2) := by decide +kernel
theorem d_AckBook_Arrivals_insert_24 : decode c_AckBook_Arrivals_insert 24 = .ok (.iconst (1), 1) := by decide +kernel
theorem d_AckBook_Arrivals_insert_25 : decode c_AckBook_Arrivals_insert 25 = .ok (.isub, 1) := by decide +kernel
