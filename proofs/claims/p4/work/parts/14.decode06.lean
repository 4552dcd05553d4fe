theorem d_AckBook_refuseDiscarded_10 : decode c_AckBook_refuseDiscarded 10 = .ok (.dup, 1) := by decide +kernel
theorem d_AckBook_refuseDiscarded_11 : decode c_AckBook_refuseDiscarded 11 = .ok (.ldc_w 276, 3) := by decide +kernel
theorem d_AckBook_refuseDiscarded_14 : decode c_AckBook_refuseDiscarded 14 = .ok (.invokespecial 70, 3) := by decide +kernel
theorem d_AckBook_refuseDiscarded_17 : decode c_AckBook_refuseDiscarded 17 = .ok (.athrow, 1) := by decide +kernel
theorem d_AckBook_Sent_count_0 : decode c_AckBook_Sent_count 0 = .ok (.aload_n 0, 1) := by decide +kernel
theorem d_AckBook_Sent_count_1 : decode c_AckBook_Sent_count 1 = .ok (.getfield 24, 3) := by decide +kernel
theorem d_AckBook_Sent_count_4 : decode c_AckBook_Sent_count 4 = .ok (.invokevirtual 35, 3) := by decide +kernel
theorem d_AckBook_Sent_count_7 : decode c_AckBook_Sent_count 7 = .ok (.ireturn, 1) := by decide +kernel
theorem d_AckBook_Packet_init_0 : decode c_AckBook_Packet_init 0 = .ok (.aload_n 0, 1) := by decide +kernel
theorem d_AckBook_Packet_init_1 : decode c_AckBook_Packet_init 1 = .ok (.invokespecial 3, 3) := by decide +kernel
theorem d_AckBook_Packet_init_4 : decode c_AckBook_Packet_init 4 = .ok (.aload_n 0, 1) := by decide +kernel
theorem d_AckBook_Packet_init_5 : decode c_AckBook_Packet_init 5 = .ok (.iload_n 1, 1) := by decide +kernel
theorem d_AckBook_Packet_init_6 : decode c_AckBook_Packet_init 6 = .ok (.putfield 9, 3) := by decide +kernel
theorem d_AckBook_Packet_init_9 : decode c_AckBook_Packet_init 9 = .ok (.aload_n 0, 1) := by decide +kernel
theorem d_AckBook_Packet_init_10 : decode c_AckBook_Packet_init 10 = .ok (.iload_n 2, 1) := by decide +kernel
theorem d_AckBook_Packet_init_11 : decode c_AckBook_Packet_init 11 = .ok (.putfield 15, 3) := by decide +kernel
theorem d_AckBook_Packet_init_14 : decode c_AckBook_Packet_init 14 = .ok (.aload_n 0, 1) := by decide +kernel
theorem d_AckBook_Packet_init_15 : decode c_AckBook_Packet_init 15 = .ok (.iload_n 3, 1) := by decide +kernel
theorem d_AckBook_Packet_init_16 : decode c_AckBook_Packet_init 16 = .ok (.putfield 18, 3) := by decide +kernel
theorem d_AckBook_Packet_init_19 : decode c_AckBook_Packet_init 19 = .ok (.aload_n 0, 1) := by decide +kernel
theorem d_AckBook_Packet_init_20 : decode c_AckBook_Packet_init 20 = .ok (.iload 4, 2) := by decide +kernel
theorem d_AckBook_Packet_init_22 : decode c_AckBook_Packet_init 22 = .ok (.putfield 21, 3) := by decide +kernel
theorem d_AckBook_Packet_init_25 : decode c_AckBook_Packet_init 25 = .ok (.aload_n 0, 1) := by decide +kernel
theorem d_AckBook_Packet_init_26 : decode c_AckBook_Packet_init 26 = .ok (.iload 5, 2) := by decide +kernel
theorem d_AckBook_Packet_init_28 : decode c_AckBook_Packet_init 28 = .ok (.putfield 25, 3) := by decide +kernel
theorem d_AckBook_Packet_init_31 : decode c_AckBook_Packet_init 31 = .ok (.aload_n 0, 1) := by decide +kernel
theorem d_AckBook_Packet_init_32 : decode c_AckBook_Packet_init 32 = .ok (.iconst (0), 1) := by decide +kernel
theorem d_AckBook_Packet_init_33 : decode c_AckBook_Packet_init 33 = .ok (.putfield 28, 3) := by decide +kernel
theorem d_AckBook_Packet_init_36 : decode c_AckBook_Packet_init 36 = .ok (.return_, 1) := by decide +kernel
theorem d_ArraysSupport_hugeLength_0 : decode c_ArraysSupport_hugeLength 0 = .ok (.iload_n 0, 1) := by decide +kernel
theorem d_ArraysSupport_hugeLength_1 : decode c_ArraysSupport_hugeLength 1 = .ok (.iload_n 1, 1) := by decide +kernel
theorem d_ArraysSupport_hugeLength_2 : decode c_ArraysSupport_hugeLength 2 = .ok (.iadd, 1) := by decide +kernel
theorem d_ArraysSupport_hugeLength_3 : decode c_ArraysSupport_hugeLength 3 = .ok (.istore_n 2, 1) := by decide +kernel
theorem d_ArraysSupport_hugeLength_4 : decode c_ArraysSupport_hugeLength 4 = .ok (.iload_n 2, 1) := by decide +kernel
theorem d_ArraysSupport_hugeLength_5 : decode c_ArraysSupport_hugeLength 5 = .ok (.ifCond .ge (44), 3) := by decide +kernel
theorem d_ArraysSupport_hugeLength_49 : decode c_ArraysSupport_hugeLength 49 = .ok (.iload_n 2, 1) := by decide +kernel
theorem d_ArraysSupport_hugeLength_50 : decode c_ArraysSupport_hugeLength 50 = .ok (.ldc 200, 2) := by decide +kernel
theorem d_ArraysSupport_hugeLength_52 : decode c_ArraysSupport_hugeLength 52 = .ok (.if_icmp .gt (6), 3) := by decide +kernel
theorem d_ArraysSupport_hugeLength_58 : decode c_ArraysSupport_hugeLength 58 = .ok (.iload_n 2, 1) := by decide +kernel
theorem d_ArraysSupport_hugeLength_59 : decode c_ArraysSupport_hugeLength 59 = .ok (.ireturn, 1) := by decide +kernel
theorem d_ArraysSupport_hugeLength_55 : decode c_ArraysSupport_hugeLength 55 = .ok (.ldc 200, 2) := by decide +kernel
theorem d_ArraysSupport_hugeLength_57 : decode c_ArraysSupport_hugeLength 57 = .ok (.ireturn, 1) := by decide +kernel
theorem d_ArraysSupport_hugeLength_8 : decode c_ArraysSupport_hugeLength 8 = .ok (.new 204, 3) := by decide +kernel
theorem d_ArraysSupport_newLength_21 : decode c_ArraysSupport_newLength 21 = .ok (.iload_n 0, 1) := by decide +kernel
theorem d_ArraysSupport_newLength_22 : decode c_ArraysSupport_newLength 22 = .ok (.iload_n 1, 1) := by decide +kernel
theorem d_ArraysSupport_newLength_23 : decode c_ArraysSupport_newLength 23 = .ok (.invokestatic 201, 3) := by decide +kernel
theorem d_ArraysSupport_newLength_26 : decode c_ArraysSupport_newLength 26 = .ok (.ireturn, 1) := by decide +kernel
theorem d_ArraysSupport_newLength_0 : decode c_ArraysSupport_newLength 0 = .ok (.iload_n 0, 1) := by decide +kernel
theorem d_ArraysSupport_newLength_1 : decode c_ArraysSupport_newLength 1 = .ok (.iload_n 1, 1) := by decide +kernel
theorem d_ArraysSupport_newLength_2 : decode c_ArraysSupport_newLength 2 = .ok (.iload_n 2, 1) := by decide +kernel
theorem d_ArraysSupport_newLength_3 : decode c_ArraysSupport_newLength 3 = .ok (.invokestatic 194, 3) := by decide +kernel
theorem d_ArraysSupport_newLength_6 : decode c_ArraysSupport_newLength 6 = .ok (.iadd, 1) := by decide +kernel
theorem d_ArraysSupport_newLength_7 : decode c_ArraysSupport_newLength 7 = .ok (.istore_n 3, 1) := by decide +kernel
theorem d_ArraysSupport_newLength_8 : decode c_ArraysSupport_newLength 8 = .ok (.iconst (0), 1) := by decide +kernel
theorem d_ArraysSupport_newLength_9 : decode c_ArraysSupport_newLength 9 = .ok (.iload_n 3, 1) := by decide +kernel
theorem d_ArraysSupport_newLength_10 : decode c_ArraysSupport_newLength 10 = .ok (.if_icmp .ge (11), 3) := by decide +kernel
theorem d_ArraysSupport_newLength_13 : decode c_ArraysSupport_newLength 13 = .ok (.iload_n 3, 1) := by decide +kernel
theorem d_ArraysSupport_newLength_14 : decode c_ArraysSupport_newLength 14 = .ok (.ldc 200, 2) := by decide +kernel
theorem d_ArraysSupport_newLength_16 : decode c_ArraysSupport_newLength 16 = .ok (.if_icmp .gt (5), 3) := by decide +kernel
theorem d_ArraysSupport_newLength_19 : decode c_ArraysSupport_newLength 19 = .ok (.iload_n 3, 1) := by decide +kernel
theorem d_ArraysSupport_newLength_20 : decode c_ArraysSupport_newLength 20 = .ok (.ireturn, 1) := by decide +kernel
theorem d_Arrays_copyOf_24 : decode c_Arrays_copyOf 24 = .ok (.astore_n 3, 1) := by decide +kernel
theorem d_Arrays_copyOf_25 : decode c_Arrays_copyOf 25 = .ok (.aload_n 0, 1) := by decide +kernel
theorem d_Arrays_copyOf_26 : decode c_Arrays_copyOf 26 = .ok (.iconst (0), 1) := by decide +kernel
theorem d_Arrays_copyOf_27 : decode c_Arrays_copyOf 27 = .ok (.aload_n 3, 1) := by decide +kernel
theorem d_Arrays_copyOf_28 : decode c_Arrays_copyOf 28 = .ok (.iconst (0), 1) := by decide +kernel
theorem d_Arrays_copyOf_29 : decode c_Arrays_copyOf 29 = .ok (.aload_n 0, 1) := by decide +kernel
theorem d_Arrays_copyOf_30 : decode c_Arrays_copyOf 30 = .ok (.arraylength, 1) := by decide +kernel
theorem d_Arrays_copyOf_31 : decode c_Arrays_copyOf 31 = .ok (.iload_n 1, 1) := by decide +kernel
theorem d_Arrays_copyOf_32 : decode c_Arrays_copyOf 32 = .ok (.invokestatic 304, 3) := by decide +kernel
theorem d_Arrays_copyOf_35 : decode c_Arrays_copyOf 35 = .ok (.invokestatic 150, 3) := by decide +kernel
theorem d_Arrays_copyOf_38 : decode c_Arrays_copyOf 38 = .ok (.aload_n 3, 1) := by decide +kernel
theorem d_Arrays_copyOf_39 : decode c_Arrays_copyOf 39 = .ok (.areturn, 1) := by decide +kernel
theorem d_Arrays_copyOf_0 : decode c_Arrays_copyOf 0 = .ok (.aload_n 2, 1) := by decide +kernel
theorem d_Arrays_copyOf_1 : decode c_Arrays_copyOf 1 = .ok (.ldc 110, 2) := by decide +kernel
theorem d_Arrays_copyOf_3 : decode c_Arrays_copyOf 3 = .ok (.if_acmp .ne (10), 3) := by decide +kernel
theorem d_Arrays_copyOf_6 : decode c_Arrays_copyOf 6 = .ok (.iload_n 1, 1) := by decide +kernel
theorem d_Arrays_copyOf_7 : decode c_Arrays_copyOf 7 = .ok (.anewarray 2, 3) := by decide +kernel
theorem d_Arrays_copyOf_10 : decode c_Arrays_copyOf 10 = .ok (.goto (14), 3) := by decide +kernel
theorem d_Arrays_copyOf2_0 : decode c_Arrays_copyOf2 0 = .ok (.aload_n 0, 1) := by decide +kernel
theorem d_Arrays_copyOf2_1 : decode c_Arrays_copyOf2 1 = .ok (.iload_n 1, 1) := by decide +kernel
theorem d_Arrays_copyOf2_2 : decode c_Arrays_copyOf2 2 = .ok (.aload_n 0, 1) := by decide +kernel
theorem d_Arrays_copyOf2_3 : decode c_Arrays_copyOf2 3 = .ok (.invokevirtual 86, 3) := by decide +kernel
theorem d_Arrays_copyOf2_6 : decode c_Arrays_copyOf2 6 = .ok (.invokestatic 300, 3) := by decide +kernel
theorem d_Arrays_copyOf2_9 : decode c_Arrays_copyOf2 9 = .ok (.areturn, 1) := by decide +kernel
theorem d_ArrayList_grow_20 : decode c_ArrayList_grow 20 = .ok (.iload_n 2, 1) := by decide +kernel
theorem d_ArrayList_grow_21 : decode c_ArrayList_grow 21 = .ok (.iload_n 1, 1) := by decide +kernel
theorem d_ArrayList_grow_22 : decode c_ArrayList_grow 22 = .ok (.iload_n 2, 1) := by decide +kernel
theorem d_ArrayList_grow_23 : decode c_ArrayList_grow 23 = .ok (.isub, 1) := by decide +kernel
theorem d_ArrayList_grow_24 : decode c_ArrayList_grow 24 = .ok (.iload_n 2, 1) := by decide +kernel
theorem d_ArrayList_grow_25 : decode c_ArrayList_grow 25 = .ok (.iconst (1), 1) := by decide +kernel
theorem d_ArrayList_grow_26 : decode c_ArrayList_grow 26 = .ok (.ishr, 1) := by decide +kernel
theorem d_ArrayList_grow_27 : decode c_ArrayList_grow 27 = .ok (.invokestatic 73, 3) := by decide +kernel
theorem d_ArrayList_grow_30 : decode c_ArrayList_grow 30 = .ok (.istore_n 3, 1) := by decide +kernel
theorem d_ArrayList_grow_31 : decode c_ArrayList_grow 31 = .ok (.aload_n 0, 1) := by decide +kernel
theorem d_ArrayList_grow_32 : decode c_ArrayList_grow 32 = .ok (.aload_n 0, 1) := by decide +kernel
theorem d_ArrayList_grow_33 : decode c_ArrayList_grow 33 = .ok (.getfield 9, 3) := by decide +kernel
theorem d_ArrayList_grow_36 : decode c_ArrayList_grow 36 = .ok (.iload_n 3, 1) := by decide +kernel
theorem d_ArrayList_grow_37 : decode c_ArrayList_grow 37 = .ok (.invokestatic 66, 3) := by decide +kernel
theorem d_ArrayList_grow_40 : decode c_ArrayList_grow 40 = .ok (.dup_x1, 1) := by decide +kernel
theorem d_ArrayList_grow_41 : decode c_ArrayList_grow 41 = .ok (.putfield 9, 3) := by decide +kernel
theorem d_ArrayList_grow_44 : decode c_ArrayList_grow 44 = .ok (.areturn, 1) := by decide +kernel
theorem d_ArrayList_grow_0 : decode c_ArrayList_grow 0 = .ok (.aload_n 0, 1) := by decide +kernel
theorem d_ArrayList_grow_1 : decode c_ArrayList_grow 1 = .ok (.getfield 9, 3) := by decide +kernel
theorem d_ArrayList_grow_4 : decode c_ArrayList_grow 4 = .ok (.arraylength, 1) := by decide +kernel
theorem d_ArrayList_grow_5 : decode c_ArrayList_grow 5 = .ok (.istore_n 2, 1) := by decide +kernel
theorem d_ArrayList_grow_6 : decode c_ArrayList_grow 6 = .ok (.iload_n 2, 1) := by decide +kernel
theorem d_ArrayList_grow_7 : decode c_ArrayList_grow 7 = .ok (.ifCond .gt (13), 3) := by decide +kernel
theorem d_ArrayList_grow_10 : decode c_ArrayList_grow 10 = .ok (.aload_n 0, 1) := by decide +kernel
theorem d_ArrayList_grow_11 : decode c_ArrayList_grow 11 = .ok (.getfield 9, 3) := by decide +kernel
theorem d_ArrayList_grow_14 : decode c_ArrayList_grow 14 = .ok (.getstatic 39, 3) := by decide +kernel
theorem d_ArrayList_grow_17 : decode c_ArrayList_grow 17 = .ok (.if_acmp .eq (28), 3) := by decide +kernel
theorem d_ArrayList_grow_45 : decode c_ArrayList_grow 45 = .ok (.aload_n 0, 1) := by decide +kernel
theorem d_ArrayList_grow_46 : decode c_ArrayList_grow 46 = .ok (.bipush (10), 2) := by decide +kernel
theorem d_ArrayList_grow_48 : decode c_ArrayList_grow 48 = .ok (.iload_n 1, 1) := by decide +kernel
theorem d_ArrayList_grow_49 : decode c_ArrayList_grow 49 = .ok (.invokestatic 79, 3) := by decide +kernel
theorem d_ArrayList_grow_52 : decode c_ArrayList_grow 52 = .ok (.anewarray 7, 3) := by decide +kernel
theorem d_ArrayList_grow_55 : decode c_ArrayList_grow 55 = .ok (.dup_x1, 1) := by decide +kernel
theorem d_ArrayList_grow_56 : decode c_ArrayList_grow 56 = .ok (.putfield 9, 3) := by decide +kernel
theorem d_ArrayList_grow_59 : decode c_ArrayList_grow 59 = .ok (.areturn, 1) := by decide +kernel
