theorem d_AckBookModel_discard_38 : decode c_AckBookModel_discard 38 = .ok (.iload_n 1, 1) := by decide +kernel
theorem d_AckBookModel_discard_39 : decode c_AckBookModel_discard 39 = .ok (.iconst (-1), 1) := by decide +kernel
theorem d_AckBookModel_discard_40 : decode c_AckBookModel_discard 40 = .ok (.iastore, 1) := by decide +kernel
theorem d_AckBookModel_discard_41 : decode c_AckBookModel_discard 41 = .ok (.aload_n 0, 1) := by decide +kernel
theorem d_AckBookModel_discard_42 : decode c_AckBookModel_discard 42 = .ok (.getfield 47, 3) := by decide +kernel
theorem d_AckBookModel_discard_45 : decode c_AckBookModel_discard 45 = .ok (.iconst (2), 1) := by decide +kernel
theorem d_AckBookModel_discard_46 : decode c_AckBookModel_discard 46 = .ok (.iload_n 1, 1) := by decide +kernel
theorem d_AckBookModel_discard_47 : decode c_AckBookModel_discard 47 = .ok (.imul, 1) := by decide +kernel
theorem d_AckBookModel_discard_48 : decode c_AckBookModel_discard 48 = .ok (.aload_n 0, 1) := by decide +kernel
theorem d_AckBookModel_discard_49 : decode c_AckBookModel_discard 49 = .ok (.getfield 44, 3) := by decide +kernel
theorem d_AckBookModel_discard_52 : decode c_AckBookModel_discard 52 = .ok (.iconst (2), 1) := by decide +kernel
theorem d_AckBookModel_discard_53 : decode c_AckBookModel_discard 53 = .ok (.iload_n 1, 1) := by decide +kernel
theorem d_AckBookModel_discard_54 : decode c_AckBookModel_discard 54 = .ok (.imul, 1) := by decide +kernel
theorem d_AckBookModel_discard_55 : decode c_AckBookModel_discard 55 = .ok (.iaload, 1) := by decide +kernel
theorem d_AckBookModel_discard_56 : decode c_AckBookModel_discard 56 = .ok (.iastore, 1) := by decide +kernel
theorem d_AckBookModel_discard_57 : decode c_AckBookModel_discard 57 = .ok (.aload_n 0, 1) := by decide +kernel
theorem d_AckBookModel_discard_58 : decode c_AckBookModel_discard 58 = .ok (.getfield 47, 3) := by decide +kernel
theorem d_AckBookModel_discard_61 : decode c_AckBookModel_discard 61 = .ok (.iconst (2), 1) := by decide +kernel
theorem d_AckBookModel_discard_62 : decode c_AckBookModel_discard 62 = .ok (.iload_n 1, 1) := by decide +kernel
theorem d_AckBookModel_discard_63 : decode c_AckBookModel_discard 63 = .ok (.imul, 1) := by decide +kernel
theorem d_AckBookModel_discard_64 : decode c_AckBookModel_discard 64 = .ok (.iconst (1), 1) := by decide +kernel
theorem d_AckBookModel_discard_65 : decode c_AckBookModel_discard 65 = .ok (.iadd, 1) := by decide +kernel
theorem d_AckBookModel_discard_66 : decode c_AckBookModel_discard 66 = .ok (.aload_n 0, 1) := by decide +kernel
theorem d_AckBookModel_discard_67 : decode c_AckBookModel_discard 67 = .ok (.getfield 44, 3) := by decide +kernel
theorem d_AckBookModel_discard_70 : decode c_AckBookModel_discard 70 = .ok (.iconst (2), 1) := by decide +kernel
theorem d_AckBookModel_discard_71 : decode c_AckBookModel_discard 71 = .ok (.iload_n 1, 1) := by decide +kernel
theorem d_AckBookModel_discard_72 : decode c_AckBookModel_discard 72 = .ok (.imul, 1) := by decide +kernel
theorem d_AckBookModel_discard_73 : decode c_AckBookModel_discard 73 = .ok (.iconst (1), 1) := by decide +kernel
theorem d_AckBookModel_discard_74 : decode c_AckBookModel_discard 74 = .ok (.iadd, 1) := by decide +kernel
theorem d_AckBookModel_discard_75 : decode c_AckBookModel_discard 75 = .ok (.iaload, 1) := by decide +kernel
theorem d_AckBookModel_discard_76 : decode c_AckBookModel_discard 76 = .ok (.iastore, 1) := by decide +kernel
theorem d_AckBookModel_discard_77 : decode c_AckBookModel_discard 77 = .ok (.aload_n 0, 1) := by decide +kernel
theorem d_AckBookModel_discard_78 : decode c_AckBookModel_discard 78 = .ok (.getfield 79, 3) := by decide +kernel
theorem d_AckBookModel_discard_81 : decode c_AckBookModel_discard 81 = .ok (.iload_n 1, 1) := by decide +kernel
theorem d_AckBookModel_discard_82 : decode c_AckBookModel_discard 82 = .ok (.iconst (0), 1) := by decide +kernel
theorem d_AckBookModel_discard_83 : decode c_AckBookModel_discard 83 = .ok (.iastore, 1) := by decide +kernel
theorem d_AckBookModel_discard_84 : decode c_AckBookModel_discard 84 = .ok (.aload_n 0, 1) := by decide +kernel
theorem d_AckBookModel_discard_85 : decode c_AckBookModel_discard 85 = .ok (.getfield 88, 3) := by decide +kernel
theorem d_AckBookModel_discard_88 : decode c_AckBookModel_discard 88 = .ok (.iload_n 1, 1) := by decide +kernel
theorem d_AckBookModel_discard_89 : decode c_AckBookModel_discard 89 = .ok (.lconst 0, 1) := by decide +kernel
theorem d_AckBookModel_discard_90 : decode c_AckBookModel_discard 90 = .ok (.lastore, 1) := by decide +kernel
theorem d_AckBookModel_discard_91 : decode c_AckBookModel_discard 91 = .ok (.aload_n 0, 1) := by decide +kernel
theorem d_AckBookModel_discard_92 : decode c_AckBookModel_discard 92 = .ok (.getfield 94, 3) := by decide +kernel
theorem d_AckBookModel_discard_95 : decode c_AckBookModel_discard 95 = .ok (.iload_n 1, 1) := by decide +kernel
theorem d_AckBookModel_discard_96 : decode c_AckBookModel_discard 96 = .ok (.iconst (0), 1) := by decide +kernel
theorem d_AckBookModel_discard_97 : decode c_AckBookModel_discard 97 = .ok (.iastore, 1) := by decide +kernel
theorem d_AckBookModel_discard_98 : decode c_AckBookModel_discard 98 = .ok (.aload_n 0, 1) := by decide +kernel
theorem d_AckBookModel_discard_99 : decode c_AckBookModel_discard 99 = .ok (.getfield 100, 3) := by decide +kernel
theorem d_AckBookModel_discard_102 : decode c_AckBookModel_discard 102 = .ok (.iload_n 1, 1) := by decide +kernel
theorem d_AckBookModel_discard_103 : decode c_AckBookModel_discard 103 = .ok (.iconst (0), 1) := by decide +kernel
theorem d_AckBookModel_discard_104 : decode c_AckBookModel_discard 104 = .ok (.bastore, 1) := by decide +kernel
theorem d_AckBookModel_discard_105 : decode c_AckBookModel_discard 105 = .ok (.aload_n 0, 1) := by decide +kernel
theorem d_AckBookModel_discard_106 : decode c_AckBookModel_discard 106 = .ok (.iconst (0), 1) := by decide +kernel
theorem d_AckBookModel_discard_107 : decode c_AckBookModel_discard 107 = .ok (.putfield 129, 3) := by decide +kernel
theorem d_AckBookModel_discard_110 : decode c_AckBookModel_discard 110 = .ok (.return_, 1) := by decide +kernel
theorem d_AckBookModel_discard_26 : decode c_AckBookModel_discard 26 = .ok (.return_, 1) := by decide +kernel
theorem d_AckBookModel_confirm_0 : decode c_AckBookModel_confirm 0 = .ok (.aload_n 0, 1) := by decide +kernel
theorem d_AckBookModel_confirm_1 : decode c_AckBookModel_confirm 1 = .ok (.iconst (0), 1) := by decide +kernel
theorem d_AckBookModel_confirm_2 : decode c_AckBookModel_confirm 2 = .ok (.putfield 103, 3) := by decide +kernel
theorem d_AckBookModel_confirm_5 : decode c_AckBookModel_confirm 5 = .ok (.aload_n 0, 1) := by decide +kernel
theorem d_AckBookModel_confirm_6 : decode c_AckBookModel_confirm 6 = .ok (.iconst (1), 1) := by decide +kernel
theorem d_AckBookModel_confirm_7 : decode c_AckBookModel_confirm 7 = .ok (.putfield 114, 3) := by decide +kernel
theorem d_AckBookModel_confirm_10 : decode c_AckBookModel_confirm 10 = .ok (.return_, 1) := by decide +kernel
theorem d_AckBookModel_anxious_0 : decode c_AckBookModel_anxious 0 = .ok (.aload_n 0, 1) := by decide +kernel
theorem d_AckBookModel_anxious_1 : decode c_AckBookModel_anxious 1 = .ok (.iconst (0), 1) := by decide +kernel
theorem d_AckBookModel_anxious_2 : decode c_AckBookModel_anxious 2 = .ok (.putfield 103, 3) := by decide +kernel
theorem d_AckBookModel_anxious_5 : decode c_AckBookModel_anxious 5 = .ok (.aload_n 0, 1) := by decide +kernel
theorem d_AckBookModel_anxious_6 : decode c_AckBookModel_anxious 6 = .ok (.iload_n 1, 1) := by decide +kernel
theorem d_AckBookModel_anxious_7 : decode c_AckBookModel_anxious 7 = .ok (.putfield 132, 3) := by decide +kernel
theorem d_AckBookModel_anxious_10 : decode c_AckBookModel_anxious 10 = .ok (.return_, 1) := by decide +kernel
theorem d_AckBookModel_next_26 : decode c_AckBookModel_next 26 = .ok (.iadd, 1) := by decide +kernel
theorem d_AckBookModel_next_27 : decode c_AckBookModel_next 27 = .ok (.istore_n 3, 1) := by decide +kernel
theorem d_AckBookModel_next_28 : decode c_AckBookModel_next 28 = .ok (.aload_n 0, 1) := by decide +kernel
theorem d_AckBookModel_next_29 : decode c_AckBookModel_next 29 = .ok (.getfield 47, 3) := by decide +kernel
theorem d_AckBookModel_next_32 : decode c_AckBookModel_next 32 = .ok (.iload_n 3, 1) := by decide +kernel
theorem d_AckBookModel_next_33 : decode c_AckBookModel_next 33 = .ok (.iaload, 1) := by decide +kernel
theorem d_AckBookModel_next_34 : decode c_AckBookModel_next 34 = .ok (.aload_n 0, 1) := by decide +kernel
theorem d_AckBookModel_next_35 : decode c_AckBookModel_next 35 = .ok (.getfield 44, 3) := by decide +kernel
theorem d_AckBookModel_next_38 : decode c_AckBookModel_next 38 = .ok (.iload_n 3, 1) := by decide +kernel
theorem d_AckBookModel_next_39 : decode c_AckBookModel_next 39 = .ok (.iaload, 1) := by decide +kernel
theorem d_AckBookModel_next_40 : decode c_AckBookModel_next 40 = .ok (.if_icmp .ne (5), 3) := by decide +kernel
theorem d_AckBookModel_next_43 : decode c_AckBookModel_next 43 = .ok (.iconst (-1), 1) := by decide +kernel
theorem d_AckBookModel_next_44 : decode c_AckBookModel_next 44 = .ok (.ireturn, 1) := by decide +kernel
theorem d_AckBookModel_next_45 : decode c_AckBookModel_next 45 = .ok (.aload_n 0, 1) := by decide +kernel
theorem d_AckBookModel_next_46 : decode c_AckBookModel_next 46 = .ok (.getfield 47, 3) := by decide +kernel
theorem d_AckBookModel_next_49 : decode c_AckBookModel_next 49 = .ok (.iload_n 3, 1) := by decide +kernel
theorem d_AckBookModel_next_50 : decode c_AckBookModel_next 50 = .ok (.dup2, 1) := by decide +kernel
theorem d_AckBookModel_next_51 : decode c_AckBookModel_next 51 = .ok (.iaload, 1) := by decide +kernel
theorem d_AckBookModel_next_52 : decode c_AckBookModel_next 52 = .ok (.iconst (1), 1) := by decide +kernel
theorem d_AckBookModel_next_53 : decode c_AckBookModel_next 53 = .ok (.iadd, 1) := by decide +kernel
theorem d_AckBookModel_next_54 : decode c_AckBookModel_next 54 = .ok (.iastore, 1) := by decide +kernel
theorem d_AckBookModel_next_55 : decode c_AckBookModel_next 55 = .ok (.aload_n 0, 1) := by decide +kernel
theorem d_AckBookModel_next_56 : decode c_AckBookModel_next 56 = .ok (.getfield 41, 3) := by decide +kernel
theorem d_AckBookModel_next_59 : decode c_AckBookModel_next 59 = .ok (.sipush (4096), 3) := by decide +kernel
theorem d_AckBookModel_next_62 : decode c_AckBookModel_next 62 = .ok (.iload_n 3, 1) := by decide +kernel
theorem d_AckBookModel_next_63 : decode c_AckBookModel_next 63 = .ok (.imul, 1) := by decide +kernel
theorem d_AckBookModel_next_64 : decode c_AckBookModel_next 64 = .ok (.aload_n 0, 1) := by decide +kernel
theorem d_AckBookModel_next_65 : decode c_AckBookModel_next 65 = .ok (.getfield 47, 3) := by decide +kernel
theorem d_AckBookModel_next_68 : decode c_AckBookModel_next 68 = .ok (.iload_n 3, 1) := by decide +kernel
theorem d_AckBookModel_next_69 : decode c_AckBookModel_next 69 = .ok (.iaload, 1) := by decide +kernel
theorem d_AckBookModel_next_70 : decode c_AckBookModel_next 70 = .ok (.iadd, 1) := by decide +kernel
theorem d_AckBookModel_next_71 : decode c_AckBookModel_next 71 = .ok (.iconst (1), 1) := by decide +kernel
theorem d_AckBookModel_next_72 : decode c_AckBookModel_next 72 = .ok (.isub, 1) := by decide +kernel
theorem d_AckBookModel_next_73 : decode c_AckBookModel_next 73 = .ok (.iaload, 1) := by decide +kernel
theorem d_AckBookModel_next_74 : decode c_AckBookModel_next 74 = .ok (.ireturn, 1) := by decide +kernel
theorem d_AckBookModel_next_0 : decode c_AckBookModel_next 0 = .ok (.aload_n 0, 1) := by decide +kernel
theorem d_AckBookModel_next_1 : decode c_AckBookModel_next 1 = .ok (.iload_n 1, 1) := by decide +kernel
theorem d_AckBookModel_next_2 : decode c_AckBookModel_next 2 = .ok (.invokestatic 142, 3) := by decide +kernel
theorem d_AckBookModel_next_5 : decode c_AckBookModel_next 5 = .ok (.iconst (1), 1) := by decide +kernel
theorem d_AckBookModel_next_6 : decode c_AckBookModel_next 6 = .ok (.invokevirtual 146, 3) := by decide +kernel
theorem d_AckBookModel_next_9 : decode c_AckBookModel_next 9 = .ok (.ifCond .eq (5), 3) := by decide +kernel
theorem d_AckBookModel_next_14 : decode c_AckBookModel_next 14 = .ok (.iconst (2), 1) := by decide +kernel
theorem d_AckBookModel_next_15 : decode c_AckBookModel_next 15 = .ok (.iload_n 1, 1) := by decide +kernel
theorem d_AckBookModel_next_16 : decode c_AckBookModel_next 16 = .ok (.imul, 1) := by decide +kernel
theorem d_AckBookModel_next_17 : decode c_AckBookModel_next 17 = .ok (.iload_n 2, 1) := by decide +kernel
theorem d_AckBookModel_next_18 : decode c_AckBookModel_next 18 = .ok (.ifCond .eq (7), 3) := by decide +kernel
theorem d_AckBookModel_next_25 : decode c_AckBookModel_next 25 = .ok (.iconst (0), 1) := by decide +kernel
theorem d_AckBookModel_next_21 : decode c_AckBookModel_next 21 = .ok (.iconst (1), 1) := by decide +kernel
theorem d_AckBookModel_next_22 : decode c_AckBookModel_next 22 = .ok (.goto (4), 3) := by decide +kernel
theorem d_AckBookModel_next_12 : decode c_AckBookModel_next 12 = .ok (.iconst (0), 1) := by decide +kernel
