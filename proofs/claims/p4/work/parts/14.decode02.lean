theorem d_AckBook_probeTime_53 : decode c_AckBook_probeTime 53 = .ok (.iadd, 1) := by decide +kernel
theorem d_AckBook_probeTime_54 : decode c_AckBook_probeTime 54 = .ok (.ireturn, 1) := by decide +kernel
theorem d_AckBook_probeTime_0 : decode c_AckBook_probeTime 0 = .ok (.aload_n 1, 1) := by decide +kernel
theorem d_AckBook_probeTime_1 : decode c_AckBook_probeTime 1 = .ok (.getfield 149, 3) := by decide +kernel
theorem d_AckBook_probeTime_4 : decode c_AckBook_probeTime 4 = .ok (.ifCond .ne (18), 3) := by decide +kernel
theorem d_AckBook_probeTime_7 : decode c_AckBook_probeTime 7 = .ok (.aload_n 1, 1) := by decide +kernel
theorem d_AckBook_probeTime_8 : decode c_AckBook_probeTime 8 = .ok (.getfield 146, 3) := by decide +kernel
theorem d_AckBook_probeTime_11 : decode c_AckBook_probeTime 11 = .ok (.iconst (2), 1) := by decide +kernel
theorem d_AckBook_probeTime_12 : decode c_AckBook_probeTime 12 = .ok (.if_icmp .ne (12), 3) := by decide +kernel
theorem d_AckBook_probeTime_15 : decode c_AckBook_probeTime 15 = .ok (.aload_n 0, 1) := by decide +kernel
theorem d_AckBook_probeTime_16 : decode c_AckBook_probeTime 16 = .ok (.getfield 165, 3) := by decide +kernel
theorem d_AckBook_probeTime_19 : decode c_AckBook_probeTime 19 = .ok (.ifCond .ne (5), 3) := by decide +kernel
theorem d_AckBook_probeTime_22 : decode c_AckBook_probeTime 22 = .ok (.iconst (-1), 1) := by decide +kernel
theorem d_AckBook_probeTime_23 : decode c_AckBook_probeTime 23 = .ok (.ireturn, 1) := by decide +kernel
theorem d_AckBook_earliest_89 : decode c_AckBook_earliest 89 = .ok (.aload 5, 2) := by decide +kernel
theorem d_AckBook_earliest_91 : decode c_AckBook_earliest 91 = .ok (.astore_n 2, 1) := by decide +kernel
theorem d_AckBook_earliest_92 : decode c_AckBook_earliest 92 = .ok (.iload 6, 2) := by decide +kernel
theorem d_AckBook_earliest_94 : decode c_AckBook_earliest 94 = .ok (.istore_n 3, 1) := by decide +kernel
theorem d_AckBook_earliest_95 : decode c_AckBook_earliest 95 = .ok (.iinc 4 (1), 3) := by decide +kernel
theorem d_AckBook_earliest_98 : decode c_AckBook_earliest 98 = .ok (.goto (-88), 3) := by decide +kernel
theorem d_AckBook_earliest_72 : decode c_AckBook_earliest 72 = .ok (.istore 7, 2) := by decide +kernel
theorem d_AckBook_earliest_74 : decode c_AckBook_earliest 74 = .ok (.iload 7, 2) := by decide +kernel
theorem d_AckBook_earliest_76 : decode c_AckBook_earliest 76 = .ok (.ifCond .eq (19), 3) := by decide +kernel
theorem d_AckBook_earliest_79 : decode c_AckBook_earliest 79 = .ok (.aload_n 2, 1) := by decide +kernel
theorem d_AckBook_earliest_80 : decode c_AckBook_earliest 80 = .ok (.ifnull (9), 3) := by decide +kernel
theorem d_AckBook_earliest_83 : decode c_AckBook_earliest 83 = .ok (.iload 6, 2) := by decide +kernel
theorem d_AckBook_earliest_85 : decode c_AckBook_earliest 85 = .ok (.iload_n 3, 1) := by decide +kernel
theorem d_AckBook_earliest_86 : decode c_AckBook_earliest 86 = .ok (.if_icmp .ge (9), 3) := by decide +kernel
theorem d_AckBook_earliest_71 : decode c_AckBook_earliest 71 = .ok (.iconst (0), 1) := by decide +kernel
theorem d_AckBook_earliest_50 : decode c_AckBook_earliest 50 = .ok (.istore 6, 2) := by decide +kernel
theorem d_AckBook_earliest_52 : decode c_AckBook_earliest 52 = .ok (.iload 6, 2) := by decide +kernel
theorem d_AckBook_earliest_54 : decode c_AckBook_earliest 54 = .ok (.iconst (-1), 1) := by decide +kernel
theorem d_AckBook_earliest_55 : decode c_AckBook_earliest 55 = .ok (.if_icmp .eq (16), 3) := by decide +kernel
theorem d_AckBook_earliest_58 : decode c_AckBook_earliest 58 = .ok (.iload 6, 2) := by decide +kernel
theorem d_AckBook_earliest_60 : decode c_AckBook_earliest 60 = .ok (.aload_n 0, 1) := by decide +kernel
theorem d_AckBook_earliest_61 : decode c_AckBook_earliest 61 = .ok (.getfield 73, 3) := by decide +kernel
theorem d_AckBook_earliest_64 : decode c_AckBook_earliest 64 = .ok (.if_icmp .gt (7), 3) := by decide +kernel
theorem d_AckBook_earliest_67 : decode c_AckBook_earliest 67 = .ok (.iconst (1), 1) := by decide +kernel
theorem d_AckBook_earliest_68 : decode c_AckBook_earliest 68 = .ok (.goto (4), 3) := by decide +kernel
theorem d_AckBook_earliest_10 : decode c_AckBook_earliest 10 = .ok (.iload 4, 2) := by decide +kernel
theorem d_AckBook_earliest_12 : decode c_AckBook_earliest 12 = .ok (.aload_n 0, 1) := by decide +kernel
theorem d_AckBook_earliest_13 : decode c_AckBook_earliest 13 = .ok (.getfield 11, 3) := by decide +kernel
theorem d_AckBook_earliest_16 : decode c_AckBook_earliest 16 = .ok (.arraylength, 1) := by decide +kernel
theorem d_AckBook_earliest_17 : decode c_AckBook_earliest 17 = .ok (.if_icmp .ge (84), 3) := by decide +kernel
theorem d_AckBook_earliest_101 : decode c_AckBook_earliest 101 = .ok (.aload_n 2, 1) := by decide +kernel
theorem d_AckBook_earliest_102 : decode c_AckBook_earliest 102 = .ok (.areturn, 1) := by decide +kernel
theorem d_AckBook_earliest_20 : decode c_AckBook_earliest 20 = .ok (.aload_n 0, 1) := by decide +kernel
theorem d_AckBook_earliest_21 : decode c_AckBook_earliest 21 = .ok (.getfield 11, 3) := by decide +kernel
theorem d_AckBook_earliest_24 : decode c_AckBook_earliest 24 = .ok (.iload 4, 2) := by decide +kernel
theorem d_AckBook_earliest_26 : decode c_AckBook_earliest 26 = .ok (.aaload, 1) := by decide +kernel
theorem d_AckBook_earliest_27 : decode c_AckBook_earliest 27 = .ok (.astore 5, 2) := by decide +kernel
theorem d_AckBook_earliest_29 : decode c_AckBook_earliest 29 = .ok (.iload_n 1, 1) := by decide +kernel
theorem d_AckBook_earliest_30 : decode c_AckBook_earliest 30 = .ok (.ifCond .eq (12), 3) := by decide +kernel
theorem d_AckBook_earliest_42 : decode c_AckBook_earliest 42 = .ok (.aload 5, 2) := by decide +kernel
theorem d_AckBook_earliest_44 : decode c_AckBook_earliest 44 = .ok (.getfield 56, 3) := by decide +kernel
theorem d_AckBook_earliest_47 : decode c_AckBook_earliest 47 = .ok (.getfield 254, 3) := by decide +kernel
theorem d_AckBook_earliest_33 : decode c_AckBook_earliest 33 = .ok (.aload_n 0, 1) := by decide +kernel
theorem d_AckBook_earliest_34 : decode c_AckBook_earliest 34 = .ok (.aload 5, 2) := by decide +kernel
theorem d_AckBook_earliest_36 : decode c_AckBook_earliest 36 = .ok (.invokevirtual 257, 3) := by decide +kernel
theorem d_AckBook_earliest_39 : decode c_AckBook_earliest 39 = .ok (.goto (11), 3) := by decide +kernel
theorem d_AckBook_earliest_0 : decode c_AckBook_earliest 0 = .ok (.aconst_null, 1) := by decide +kernel
theorem d_AckBook_earliest_1 : decode c_AckBook_earliest 1 = .ok (.astore_n 2, 1) := by decide +kernel
theorem d_AckBook_earliest_2 : decode c_AckBook_earliest 2 = .ok (.aload_n 0, 1) := by decide +kernel
theorem d_AckBook_earliest_3 : decode c_AckBook_earliest 3 = .ok (.getfield 73, 3) := by decide +kernel
theorem d_AckBook_earliest_6 : decode c_AckBook_earliest 6 = .ok (.istore_n 3, 1) := by decide +kernel
theorem d_AckBook_earliest_7 : decode c_AckBook_earliest 7 = .ok (.iconst (0), 1) := by decide +kernel
theorem d_AckBook_earliest_8 : decode c_AckBook_earliest 8 = .ok (.istore 4, 2) := by decide +kernel
theorem d_AckBook_Way_limit_0 : decode c_AckBook_Way_limit 0 = .ok (.bipush (9), 2) := by decide +kernel
theorem d_AckBook_Way_limit_2 : decode c_AckBook_Way_limit 2 = .ok (.aload_n 0, 1) := by decide +kernel
theorem d_AckBook_Way_limit_3 : decode c_AckBook_Way_limit 3 = .ok (.getfield 9, 3) := by decide +kernel
theorem d_AckBook_Way_limit_6 : decode c_AckBook_Way_limit 6 = .ok (.bipush (8), 2) := by decide +kernel
theorem d_AckBook_Way_limit_8 : decode c_AckBook_Way_limit 8 = .ok (.idiv, 1) := by decide +kernel
theorem d_AckBook_Way_limit_9 : decode c_AckBook_Way_limit 9 = .ok (.aload_n 0, 1) := by decide +kernel
theorem d_AckBook_Way_limit_10 : decode c_AckBook_Way_limit 10 = .ok (.getfield 24, 3) := by decide +kernel
theorem d_AckBook_Way_limit_13 : decode c_AckBook_Way_limit 13 = .ok (.invokestatic 37, 3) := by decide +kernel
theorem d_AckBook_Way_limit_16 : decode c_AckBook_Way_limit 16 = .ok (.imul, 1) := by decide +kernel
theorem d_AckBook_Way_limit_17 : decode c_AckBook_Way_limit 17 = .ok (.bipush (8), 2) := by decide +kernel
theorem d_AckBook_Way_limit_19 : decode c_AckBook_Way_limit 19 = .ok (.idiv, 1) := by decide +kernel
theorem d_AckBook_Way_limit_20 : decode c_AckBook_Way_limit 20 = .ok (.iconst (1), 1) := by decide +kernel
theorem d_AckBook_Way_limit_21 : decode c_AckBook_Way_limit 21 = .ok (.invokestatic 37, 3) := by decide +kernel
theorem d_AckBook_Way_limit_24 : decode c_AckBook_Way_limit 24 = .ok (.ireturn, 1) := by decide +kernel
theorem d_ArrayList_size_0 : decode c_ArrayList_size 0 = .ok (.aload_n 0, 1) := by decide +kernel
theorem d_ArrayList_size_1 : decode c_ArrayList_size 1 = .ok (.getfield 48, 3) := by decide +kernel
theorem d_ArrayList_size_4 : decode c_ArrayList_size 4 = .ok (.ireturn, 1) := by decide +kernel
theorem d_Preconditions_checkIndex_9 : decode c_Preconditions_checkIndex 9 = .ok (.aload_n 2, 1) := by decide +kernel
theorem d_Preconditions_checkIndex_10 : decode c_Preconditions_checkIndex 10 = .ok (.iload_n 0, 1) := by decide +kernel
theorem d_Preconditions_checkIndex_11 : decode c_Preconditions_checkIndex 11 = .ok (.iload_n 1, 1) := by decide +kernel
theorem d_Preconditions_checkIndex_12 : decode c_Preconditions_checkIndex 12 = .ok (.invokestatic 95, 3) := by decide +kernel
theorem d_Preconditions_checkIndex_0 : decode c_Preconditions_checkIndex 0 = .ok (.iload_n 0, 1) := by decide +kernel
theorem d_Preconditions_checkIndex_1 : decode c_Preconditions_checkIndex 1 = .ok (.ifCond .lt (8), 3) := by decide +kernel
theorem d_Preconditions_checkIndex_4 : decode c_Preconditions_checkIndex 4 = .ok (.iload_n 0, 1) := by decide +kernel
theorem d_Preconditions_checkIndex_5 : decode c_Preconditions_checkIndex 5 = .ok (.iload_n 1, 1) := by decide +kernel
theorem d_Preconditions_checkIndex_6 : decode c_Preconditions_checkIndex 6 = .ok (.if_icmp .lt (10), 3) := by decide +kernel
theorem d_Preconditions_checkIndex_16 : decode c_Preconditions_checkIndex 16 = .ok (.iload_n 0, 1) := by decide +kernel
theorem d_Preconditions_checkIndex_17 : decode c_Preconditions_checkIndex 17 = .ok (.ireturn, 1) := by decide +kernel
theorem d_Objects_checkIndex_0 : decode c_Objects_checkIndex 0 = .ok (.iload_n 0, 1) := by decide +kernel
theorem d_Objects_checkIndex_1 : decode c_Objects_checkIndex 1 = .ok (.iload_n 1, 1) := by decide +kernel
theorem d_Objects_checkIndex_2 : decode c_Objects_checkIndex 2 = .ok (.aconst_null, 1) := by decide +kernel
theorem d_Objects_checkIndex_3 : decode c_Objects_checkIndex 3 = .ok (.invokestatic 105, 3) := by decide +kernel
theorem d_Objects_checkIndex_6 : decode c_Objects_checkIndex 6 = .ok (.ireturn, 1) := by decide +kernel
theorem d_ArrayList_elementData_0 : decode c_ArrayList_elementData 0 = .ok (.aload_n 0, 1) := by decide +kernel
theorem d_ArrayList_elementData_1 : decode c_ArrayList_elementData 1 = .ok (.getfield 9, 3) := by decide +kernel
theorem d_ArrayList_elementData_4 : decode c_ArrayList_elementData 4 = .ok (.iload_n 1, 1) := by decide +kernel
theorem d_ArrayList_elementData_5 : decode c_ArrayList_elementData 5 = .ok (.aaload, 1) := by decide +kernel
theorem d_ArrayList_elementData_6 : decode c_ArrayList_elementData 6 = .ok (.areturn, 1) := by decide +kernel
theorem d_ArrayList_get_0 : decode c_ArrayList_get 0 = .ok (.iload_n 1, 1) := by decide +kernel
theorem d_ArrayList_get_1 : decode c_ArrayList_get 1 = .ok (.aload_n 0, 1) := by decide +kernel
theorem d_ArrayList_get_2 : decode c_ArrayList_get 2 = .ok (.getfield 48, 3) := by decide +kernel
theorem d_ArrayList_get_5 : decode c_ArrayList_get 5 = .ok (.invokestatic 118, 3) := by decide +kernel
theorem d_ArrayList_get_8 : decode c_ArrayList_get 8 = .ok (.pop, 1) := by decide +kernel
theorem d_ArrayList_get_9 : decode c_ArrayList_get 9 = .ok (.aload_n 0, 1) := by decide +kernel
theorem d_ArrayList_get_10 : decode c_ArrayList_get 10 = .ok (.iload_n 1, 1) := by decide +kernel
theorem d_ArrayList_get_11 : decode c_ArrayList_get 11 = .ok (.invokevirtual 123, 3) := by decide +kernel
theorem d_ArrayList_get_14 : decode c_ArrayList_get 14 = .ok (.areturn, 1) := by decide +kernel
theorem d_AckBook_Chain_append_14 : decode c_AckBook_Chain_append 14 = .ok (.aload_n 0, 1) := by decide +kernel
theorem d_AckBook_Chain_append_15 : decode c_AckBook_Chain_append 15 = .ok (.aload_n 1, 1) := by decide +kernel
theorem d_AckBook_Chain_append_16 : decode c_AckBook_Chain_append 16 = .ok (.putfield 9, 3) := by decide +kernel
theorem d_AckBook_Chain_append_19 : decode c_AckBook_Chain_append 19 = .ok (.goto (11), 3) := by decide +kernel
theorem d_AckBook_Chain_append_30 : decode c_AckBook_Chain_append 30 = .ok (.aload_n 0, 1) := by decide +kernel
theorem d_AckBook_Chain_append_31 : decode c_AckBook_Chain_append 31 = .ok (.aload_n 1, 1) := by decide +kernel
