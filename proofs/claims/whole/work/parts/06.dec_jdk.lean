theorem d_Ar_fill_2J_0 : decode b_Ar_fill_2J 0 = .ok (.iconst 0, 1) := by decide +kernel
theorem d_Ar_fill_2J_1 : decode b_Ar_fill_2J 1 = .ok (.istore_n 3, 1) := by decide +kernel
theorem d_Ar_fill_2J_2 : decode b_Ar_fill_2J 2 = .ok (.aload_n 0, 1) := by decide +kernel
theorem d_Ar_fill_2J_3 : decode b_Ar_fill_2J 3 = .ok (.arraylength, 1) := by decide +kernel
theorem d_Ar_fill_2J_4 : decode b_Ar_fill_2J 4 = .ok (.istore 4, 2) := by decide +kernel
theorem d_Ar_fill_2J_6 : decode b_Ar_fill_2J 6 = .ok (.iload_n 3, 1) := by decide +kernel
theorem d_Ar_fill_2J_7 : decode b_Ar_fill_2J 7 = .ok (.iload 4, 2) := by decide +kernel
theorem d_Ar_fill_2J_9 : decode b_Ar_fill_2J 9 = .ok (.if_icmp .ge (13), 3) := by decide +kernel
theorem d_Ar_fill_2J_12 : decode b_Ar_fill_2J 12 = .ok (.aload_n 0, 1) := by decide +kernel
theorem d_Ar_fill_2J_13 : decode b_Ar_fill_2J 13 = .ok (.iload_n 3, 1) := by decide +kernel
theorem d_Ar_fill_2J_14 : decode b_Ar_fill_2J 14 = .ok (.lload_n 1, 1) := by decide +kernel
theorem d_Ar_fill_2J_15 : decode b_Ar_fill_2J 15 = .ok (.lastore, 1) := by decide +kernel
theorem d_Ar_fill_2J_16 : decode b_Ar_fill_2J 16 = .ok (.iinc 3 (1), 3) := by decide +kernel
theorem d_Ar_fill_2J_19 : decode b_Ar_fill_2J 19 = .ok (.goto (-13), 3) := by decide +kernel
theorem d_Ar_fill_2J_22 : decode b_Ar_fill_2J 22 = .ok (.return_, 1) := by decide +kernel
theorem d_Al_init_0 : decode b_Al_init 0 = .ok (.aload_n 0, 1) := by decide +kernel
theorem d_Al_init_1 : decode b_Al_init 1 = .ok (.invokespecial 1, 3) := by decide +kernel
theorem d_Al_init_4 : decode b_Al_init 4 = .ok (.aload_n 0, 1) := by decide +kernel
theorem d_Al_init_5 : decode b_Al_init 5 = .ok (.getstatic 39, 3) := by decide +kernel
theorem d_Al_init_8 : decode b_Al_init 8 = .ok (.putfield 9, 3) := by decide +kernel
theorem d_Al_init_11 : decode b_Al_init 11 = .ok (.return_, 1) := by decide +kernel
theorem d_Ab_init_0 : decode b_Ab_init 0 = .ok (.aload_n 0, 1) := by decide +kernel
theorem d_Ab_init_1 : decode b_Ab_init 1 = .ok (.invokespecial 1, 3) := by decide +kernel
theorem d_Ab_init_4 : decode b_Ab_init 4 = .ok (.aload_n 0, 1) := by decide +kernel
theorem d_Ab_init_5 : decode b_Ab_init 5 = .ok (.iconst 0, 1) := by decide +kernel
theorem d_Ab_init_6 : decode b_Ab_init 6 = .ok (.putfield 7, 3) := by decide +kernel
theorem d_Ab_init_9 : decode b_Ab_init 9 = .ok (.return_, 1) := by decide +kernel
theorem d_Ac_init_0 : decode b_Ac_init 0 = .ok (.aload_n 0, 1) := by decide +kernel
theorem d_Ac_init_1 : decode b_Ac_init 1 = .ok (.invokespecial 1, 3) := by decide +kernel
theorem d_Ac_init_4 : decode b_Ac_init 4 = .ok (.return_, 1) := by decide +kernel
theorem d_Al_size_0 : decode b_Al_size 0 = .ok (.aload_n 0, 1) := by decide +kernel
theorem d_Al_size_1 : decode b_Al_size 1 = .ok (.getfield 48, 3) := by decide +kernel
theorem d_Al_size_4 : decode b_Al_size 4 = .ok (.ireturn, 1) := by decide +kernel
theorem d_Ar_fill_2I_0 : decode b_Ar_fill_2I 0 = .ok (.iconst 0, 1) := by decide +kernel
theorem d_Ar_fill_2I_1 : decode b_Ar_fill_2I 1 = .ok (.istore_n 2, 1) := by decide +kernel
theorem d_Ar_fill_2I_2 : decode b_Ar_fill_2I 2 = .ok (.aload_n 0, 1) := by decide +kernel
theorem d_Ar_fill_2I_3 : decode b_Ar_fill_2I 3 = .ok (.arraylength, 1) := by decide +kernel
theorem d_Ar_fill_2I_4 : decode b_Ar_fill_2I 4 = .ok (.istore_n 3, 1) := by decide +kernel
theorem d_Ar_fill_2I_5 : decode b_Ar_fill_2I 5 = .ok (.iload_n 2, 1) := by decide +kernel
theorem d_Ar_fill_2I_6 : decode b_Ar_fill_2I 6 = .ok (.iload_n 3, 1) := by decide +kernel
theorem d_Ar_fill_2I_7 : decode b_Ar_fill_2I 7 = .ok (.if_icmp .ge (13), 3) := by decide +kernel
theorem d_Ar_fill_2I_10 : decode b_Ar_fill_2I 10 = .ok (.aload_n 0, 1) := by decide +kernel
theorem d_Ar_fill_2I_11 : decode b_Ar_fill_2I 11 = .ok (.iload_n 2, 1) := by decide +kernel
theorem d_Ar_fill_2I_12 : decode b_Ar_fill_2I 12 = .ok (.iload_n 1, 1) := by decide +kernel
theorem d_Ar_fill_2I_13 : decode b_Ar_fill_2I 13 = .ok (.iastore, 1) := by decide +kernel
theorem d_Ar_fill_2I_14 : decode b_Ar_fill_2I 14 = .ok (.iinc 2 (1), 3) := by decide +kernel
theorem d_Ar_fill_2I_17 : decode b_Ar_fill_2I 17 = .ok (.goto (-12), 3) := by decide +kernel
theorem d_Ar_fill_2I_20 : decode b_Ar_fill_2I 20 = .ok (.return_, 1) := by decide +kernel
theorem d_Al_isEmpty_0 : decode b_Al_isEmpty 0 = .ok (.aload_n 0, 1) := by decide +kernel
theorem d_Al_isEmpty_1 : decode b_Al_isEmpty 1 = .ok (.getfield 48, 3) := by decide +kernel
theorem d_Al_isEmpty_4 : decode b_Al_isEmpty 4 = .ok (.ifCond .ne (7), 3) := by decide +kernel
theorem d_Al_isEmpty_7 : decode b_Al_isEmpty 7 = .ok (.iconst 1, 1) := by decide +kernel
theorem d_Al_isEmpty_8 : decode b_Al_isEmpty 8 = .ok (.goto (4), 3) := by decide +kernel
theorem d_Al_isEmpty_11 : decode b_Al_isEmpty 11 = .ok (.iconst 0, 1) := by decide +kernel
theorem d_Al_isEmpty_12 : decode b_Al_isEmpty 12 = .ok (.ireturn, 1) := by decide +kernel
theorem d_Al_get_0 : decode b_Al_get 0 = .ok (.iload_n 1, 1) := by decide +kernel
theorem d_Al_get_1 : decode b_Al_get 1 = .ok (.aload_n 0, 1) := by decide +kernel
theorem d_Al_get_2 : decode b_Al_get 2 = .ok (.getfield 48, 3) := by decide +kernel
theorem d_Al_get_5 : decode b_Al_get 5 = .ok (.invokestatic 118, 3) := by decide +kernel
theorem d_Al_get_8 : decode b_Al_get 8 = .ok (.pop, 1) := by decide +kernel
theorem d_Al_get_9 : decode b_Al_get 9 = .ok (.aload_n 0, 1) := by decide +kernel
theorem d_Al_get_10 : decode b_Al_get 10 = .ok (.iload_n 1, 1) := by decide +kernel
theorem d_Al_get_11 : decode b_Al_get 11 = .ok (.invokevirtual 123, 3) := by decide +kernel
theorem d_Al_get_14 : decode b_Al_get 14 = .ok (.areturn, 1) := by decide +kernel
theorem d_Ob_checkIndex_0 : decode b_Ob_checkIndex 0 = .ok (.iload_n 0, 1) := by decide +kernel
theorem d_Ob_checkIndex_1 : decode b_Ob_checkIndex 1 = .ok (.iload_n 1, 1) := by decide +kernel
theorem d_Ob_checkIndex_2 : decode b_Ob_checkIndex 2 = .ok (.aconst_null, 1) := by decide +kernel
theorem d_Ob_checkIndex_3 : decode b_Ob_checkIndex 3 = .ok (.invokestatic 105, 3) := by decide +kernel
theorem d_Ob_checkIndex_6 : decode b_Ob_checkIndex 6 = .ok (.ireturn, 1) := by decide +kernel
theorem d_Pq_checkIndex_0 : decode b_Pq_checkIndex 0 = .ok (.iload_n 0, 1) := by decide +kernel
theorem d_Pq_checkIndex_1 : decode b_Pq_checkIndex 1 = .ok (.ifCond .lt (8), 3) := by decide +kernel
theorem d_Pq_checkIndex_4 : decode b_Pq_checkIndex 4 = .ok (.iload_n 0, 1) := by decide +kernel
theorem d_Pq_checkIndex_5 : decode b_Pq_checkIndex 5 = .ok (.iload_n 1, 1) := by decide +kernel
theorem d_Pq_checkIndex_6 : decode b_Pq_checkIndex 6 = .ok (.if_icmp .lt (10), 3) := by decide +kernel
theorem d_Pq_checkIndex_9 : decode b_Pq_checkIndex 9 = .ok (.aload_n 2, 1) := by decide +kernel
theorem d_Pq_checkIndex_10 : decode b_Pq_checkIndex 10 = .ok (.iload_n 0, 1) := by decide +kernel
theorem d_Pq_checkIndex_11 : decode b_Pq_checkIndex 11 = .ok (.iload_n 1, 1) := by decide +kernel
theorem d_Pq_checkIndex_12 : decode b_Pq_checkIndex 12 = .ok (.invokestatic 95, 3) := by decide +kernel
theorem d_Pq_checkIndex_16 : decode b_Pq_checkIndex 16 = .ok (.iload_n 0, 1) := by decide +kernel
theorem d_Pq_checkIndex_17 : decode b_Pq_checkIndex 17 = .ok (.ireturn, 1) := by decide +kernel
theorem d_Al_elementData_0 : decode b_Al_elementData 0 = .ok (.aload_n 0, 1) := by decide +kernel
theorem d_Al_elementData_1 : decode b_Al_elementData 1 = .ok (.getfield 9, 3) := by decide +kernel
theorem d_Al_elementData_4 : decode b_Al_elementData 4 = .ok (.iload_n 1, 1) := by decide +kernel
theorem d_Al_elementData_5 : decode b_Al_elementData 5 = .ok (.aaload, 1) := by decide +kernel
theorem d_Al_elementData_6 : decode b_Al_elementData 6 = .ok (.areturn, 1) := by decide +kernel
theorem d_Al_add_1_0 : decode b_Al_add_1 0 = .ok (.aload_n 0, 1) := by decide +kernel
theorem d_Al_add_1_1 : decode b_Al_add_1 1 = .ok (.dup, 1) := by decide +kernel
theorem d_Al_add_1_2 : decode b_Al_add_1 2 = .ok (.getfield 63, 3) := by decide +kernel
theorem d_Al_add_1_5 : decode b_Al_add_1 5 = .ok (.iconst 1, 1) := by decide +kernel
theorem d_Al_add_1_6 : decode b_Al_add_1 6 = .ok (.iadd, 1) := by decide +kernel
theorem d_Al_add_1_7 : decode b_Al_add_1 7 = .ok (.putfield 63, 3) := by decide +kernel
theorem d_Al_add_1_10 : decode b_Al_add_1 10 = .ok (.aload_n 0, 1) := by decide +kernel
theorem d_Al_add_1_11 : decode b_Al_add_1 11 = .ok (.aload_n 1, 1) := by decide +kernel
theorem d_Al_add_1_12 : decode b_Al_add_1 12 = .ok (.aload_n 0, 1) := by decide +kernel
theorem d_Al_add_1_13 : decode b_Al_add_1 13 = .ok (.getfield 9, 3) := by decide +kernel
theorem d_Al_add_1_16 : decode b_Al_add_1 16 = .ok (.aload_n 0, 1) := by decide +kernel
theorem d_Al_add_1_17 : decode b_Al_add_1 17 = .ok (.getfield 48, 3) := by decide +kernel
theorem d_Al_add_1_20 : decode b_Al_add_1 20 = .ok (.invokevirtual 131, 3) := by decide +kernel
theorem d_Al_add_1_23 : decode b_Al_add_1 23 = .ok (.iconst 1, 1) := by decide +kernel
theorem d_Al_add_1_24 : decode b_Al_add_1 24 = .ok (.ireturn, 1) := by decide +kernel
theorem d_Al_add_3_0 : decode b_Al_add_3 0 = .ok (.iload_n 3, 1) := by decide +kernel
theorem d_Al_add_3_1 : decode b_Al_add_3 1 = .ok (.aload_n 2, 1) := by decide +kernel
theorem d_Al_add_3_2 : decode b_Al_add_3 2 = .ok (.arraylength, 1) := by decide +kernel
theorem d_Al_add_3_3 : decode b_Al_add_3 3 = .ok (.if_icmp .ne (8), 3) := by decide +kernel
theorem d_Al_add_3_6 : decode b_Al_add_3 6 = .ok (.aload_n 0, 1) := by decide +kernel
theorem d_Al_add_3_7 : decode b_Al_add_3 7 = .ok (.invokevirtual 129, 3) := by decide +kernel
theorem d_Al_add_3_10 : decode b_Al_add_3 10 = .ok (.astore_n 2, 1) := by decide +kernel
theorem d_Al_add_3_11 : decode b_Al_add_3 11 = .ok (.aload_n 2, 1) := by decide +kernel
theorem d_Al_add_3_12 : decode b_Al_add_3 12 = .ok (.iload_n 3, 1) := by decide +kernel
theorem d_Al_add_3_13 : decode b_Al_add_3 13 = .ok (.aload_n 1, 1) := by decide +kernel
theorem d_Al_add_3_14 : decode b_Al_add_3 14 = .ok (.aastore, 1) := by decide +kernel
theorem d_Al_add_3_15 : decode b_Al_add_3 15 = .ok (.aload_n 0, 1) := by decide +kernel
theorem d_Al_add_3_16 : decode b_Al_add_3 16 = .ok (.iload_n 3, 1) := by decide +kernel
theorem d_Al_add_3_17 : decode b_Al_add_3 17 = .ok (.iconst 1, 1) := by decide +kernel
theorem d_Al_add_3_18 : decode b_Al_add_3 18 = .ok (.iadd, 1) := by decide +kernel
theorem d_Al_add_3_19 : decode b_Al_add_3 19 = .ok (.putfield 48, 3) := by decide +kernel
theorem d_Al_add_3_22 : decode b_Al_add_3 22 = .ok (.return_, 1) := by decide +kernel
theorem d_Al_grow_0_0 : decode b_Al_grow_0 0 = .ok (.aload_n 0, 1) := by decide +kernel
theorem d_Al_grow_0_1 : decode b_Al_grow_0 1 = .ok (.aload_n 0, 1) := by decide +kernel
theorem d_Al_grow_0_2 : decode b_Al_grow_0 2 = .ok (.getfield 48, 3) := by decide +kernel
theorem d_Al_grow_0_5 : decode b_Al_grow_0 5 = .ok (.iconst 1, 1) := by decide +kernel
theorem d_Al_grow_0_6 : decode b_Al_grow_0 6 = .ok (.iadd, 1) := by decide +kernel
theorem d_Al_grow_0_7 : decode b_Al_grow_0 7 = .ok (.invokevirtual 69, 3) := by decide +kernel
theorem d_Al_grow_0_10 : decode b_Al_grow_0 10 = .ok (.areturn, 1) := by decide +kernel
theorem d_Al_grow_1_0 : decode b_Al_grow_1 0 = .ok (.aload_n 0, 1) := by decide +kernel
theorem d_Al_grow_1_1 : decode b_Al_grow_1 1 = .ok (.getfield 9, 3) := by decide +kernel
theorem d_Al_grow_1_4 : decode b_Al_grow_1 4 = .ok (.arraylength, 1) := by decide +kernel
theorem d_Al_grow_1_5 : decode b_Al_grow_1 5 = .ok (.istore_n 2, 1) := by decide +kernel
theorem d_Al_grow_1_6 : decode b_Al_grow_1 6 = .ok (.iload_n 2, 1) := by decide +kernel
theorem d_Al_grow_1_7 : decode b_Al_grow_1 7 = .ok (.ifCond .gt (13), 3) := by decide +kernel
theorem d_Al_grow_1_10 : decode b_Al_grow_1 10 = .ok (.aload_n 0, 1) := by decide +kernel
theorem d_Al_grow_1_11 : decode b_Al_grow_1 11 = .ok (.getfield 9, 3) := by decide +kernel
theorem d_Al_grow_1_14 : decode b_Al_grow_1 14 = .ok (.getstatic 39, 3) := by decide +kernel
theorem d_Al_grow_1_17 : decode b_Al_grow_1 17 = .ok (.if_acmp .eq (28), 3) := by decide +kernel
theorem d_Al_grow_1_20 : decode b_Al_grow_1 20 = .ok (.iload_n 2, 1) := by decide +kernel
theorem d_Al_grow_1_21 : decode b_Al_grow_1 21 = .ok (.iload_n 1, 1) := by decide +kernel
theorem d_Al_grow_1_22 : decode b_Al_grow_1 22 = .ok (.iload_n 2, 1) := by decide +kernel
theorem d_Al_grow_1_23 : decode b_Al_grow_1 23 = .ok (.isub, 1) := by decide +kernel
theorem d_Al_grow_1_24 : decode b_Al_grow_1 24 = .ok (.iload_n 2, 1) := by decide +kernel
theorem d_Al_grow_1_25 : decode b_Al_grow_1 25 = .ok (.iconst 1, 1) := by decide +kernel
theorem d_Al_grow_1_26 : decode b_Al_grow_1 26 = .ok (.ishr, 1) := by decide +kernel
theorem d_Al_grow_1_27 : decode b_Al_grow_1 27 = .ok (.invokestatic 73, 3) := by decide +kernel
theorem d_Al_grow_1_30 : decode b_Al_grow_1 30 = .ok (.istore_n 3, 1) := by decide +kernel
theorem d_Al_grow_1_31 : decode b_Al_grow_1 31 = .ok (.aload_n 0, 1) := by decide +kernel
theorem d_Al_grow_1_32 : decode b_Al_grow_1 32 = .ok (.aload_n 0, 1) := by decide +kernel
theorem d_Al_grow_1_33 : decode b_Al_grow_1 33 = .ok (.getfield 9, 3) := by decide +kernel
theorem d_Al_grow_1_36 : decode b_Al_grow_1 36 = .ok (.iload_n 3, 1) := by decide +kernel
theorem d_Al_grow_1_37 : decode b_Al_grow_1 37 = .ok (.invokestatic 66, 3) := by decide +kernel
theorem d_Al_grow_1_40 : decode b_Al_grow_1 40 = .ok (.dup_x1, 1) := by decide +kernel
theorem d_Al_grow_1_41 : decode b_Al_grow_1 41 = .ok (.putfield 9, 3) := by decide +kernel
theorem d_Al_grow_1_44 : decode b_Al_grow_1 44 = .ok (.areturn, 1) := by decide +kernel
theorem d_Al_grow_1_45 : decode b_Al_grow_1 45 = .ok (.aload_n 0, 1) := by decide +kernel
theorem d_Al_grow_1_46 : decode b_Al_grow_1 46 = .ok (.bipush (10), 2) := by decide +kernel
theorem d_Al_grow_1_48 : decode b_Al_grow_1 48 = .ok (.iload_n 1, 1) := by decide +kernel
theorem d_Al_grow_1_49 : decode b_Al_grow_1 49 = .ok (.invokestatic 79, 3) := by decide +kernel
theorem d_Al_grow_1_52 : decode b_Al_grow_1 52 = .ok (.anewarray 7, 3) := by decide +kernel
theorem d_Al_grow_1_55 : decode b_Al_grow_1 55 = .ok (.dup_x1, 1) := by decide +kernel
theorem d_Al_grow_1_56 : decode b_Al_grow_1 56 = .ok (.putfield 9, 3) := by decide +kernel
theorem d_Al_grow_1_59 : decode b_Al_grow_1 59 = .ok (.areturn, 1) := by decide +kernel
theorem d_As_newLength_0 : decode b_As_newLength 0 = .ok (.iload_n 0, 1) := by decide +kernel
theorem d_As_newLength_1 : decode b_As_newLength 1 = .ok (.iload_n 1, 1) := by decide +kernel
theorem d_As_newLength_2 : decode b_As_newLength 2 = .ok (.iload_n 2, 1) := by decide +kernel
theorem d_As_newLength_3 : decode b_As_newLength 3 = .ok (.invokestatic 194, 3) := by decide +kernel
theorem d_As_newLength_6 : decode b_As_newLength 6 = .ok (.iadd, 1) := by decide +kernel
theorem d_As_newLength_7 : decode b_As_newLength 7 = .ok (.istore_n 3, 1) := by decide +kernel
theorem d_As_newLength_8 : decode b_As_newLength 8 = .ok (.iconst 0, 1) := by decide +kernel
theorem d_As_newLength_9 : decode b_As_newLength 9 = .ok (.iload_n 3, 1) := by decide +kernel
theorem d_As_newLength_10 : decode b_As_newLength 10 = .ok (.if_icmp .ge (11), 3) := by decide +kernel
theorem d_As_newLength_13 : decode b_As_newLength 13 = .ok (.iload_n 3, 1) := by decide +kernel
theorem d_As_newLength_14 : decode b_As_newLength 14 = .ok (.ldc 200, 2) := by decide +kernel
theorem d_As_newLength_16 : decode b_As_newLength 16 = .ok (.if_icmp .gt (5), 3) := by decide +kernel
theorem d_As_newLength_19 : decode b_As_newLength 19 = .ok (.iload_n 3, 1) := by decide +kernel
theorem d_As_newLength_20 : decode b_As_newLength 20 = .ok (.ireturn, 1) := by decide +kernel
theorem d_As_newLength_21 : decode b_As_newLength 21 = .ok (.iload_n 0, 1) := by decide +kernel
theorem d_As_newLength_22 : decode b_As_newLength 22 = .ok (.iload_n 1, 1) := by decide +kernel
theorem d_As_newLength_23 : decode b_As_newLength 23 = .ok (.invokestatic 201, 3) := by decide +kernel
theorem d_As_newLength_26 : decode b_As_newLength 26 = .ok (.ireturn, 1) := by decide +kernel
theorem d_Ar_copyOf_2_0 : decode b_Ar_copyOf_2 0 = .ok (.aload_n 0, 1) := by decide +kernel
theorem d_Ar_copyOf_2_1 : decode b_Ar_copyOf_2 1 = .ok (.iload_n 1, 1) := by decide +kernel
theorem d_Ar_copyOf_2_2 : decode b_Ar_copyOf_2 2 = .ok (.aload_n 0, 1) := by decide +kernel
theorem d_Ar_copyOf_2_3 : decode b_Ar_copyOf_2 3 = .ok (.invokevirtual 86, 3) := by decide +kernel
theorem d_Ar_copyOf_2_6 : decode b_Ar_copyOf_2 6 = .ok (.invokestatic 300, 3) := by decide +kernel
theorem d_Ar_copyOf_2_9 : decode b_Ar_copyOf_2 9 = .ok (.areturn, 1) := by decide +kernel
theorem d_Ar_copyOf_3_0 : decode b_Ar_copyOf_3 0 = .ok (.aload_n 2, 1) := by decide +kernel
theorem d_Ar_copyOf_3_1 : decode b_Ar_copyOf_3 1 = .ok (.ldc 110, 2) := by decide +kernel
theorem d_Ar_copyOf_3_3 : decode b_Ar_copyOf_3 3 = .ok (.if_acmp .ne (10), 3) := by decide +kernel
theorem d_Ar_copyOf_3_6 : decode b_Ar_copyOf_3 6 = .ok (.iload_n 1, 1) := by decide +kernel
theorem d_Ar_copyOf_3_7 : decode b_Ar_copyOf_3 7 = .ok (.anewarray 2, 3) := by decide +kernel
theorem d_Ar_copyOf_3_10 : decode b_Ar_copyOf_3 10 = .ok (.goto (14), 3) := by decide +kernel
theorem d_Ar_copyOf_3_13 : decode b_Ar_copyOf_3 13 = .ok (.aload_n 2, 1) := by decide +kernel
theorem d_Ar_copyOf_3_14 : decode b_Ar_copyOf_3 14 = .ok (.invokevirtual 90, 3) := by decide +kernel
theorem d_Ar_copyOf_3_17 : decode b_Ar_copyOf_3 17 = .ok (.iload_n 1, 1) := by decide +kernel
theorem d_Ar_copyOf_3_18 : decode b_Ar_copyOf_3 18 = .ok (.invokestatic 95, 3) := by decide +kernel
theorem d_Ar_copyOf_3_21 : decode b_Ar_copyOf_3 21 = .ok (.checkcast 110, 3) := by decide +kernel
theorem d_Ar_copyOf_3_24 : decode b_Ar_copyOf_3 24 = .ok (.astore_n 3, 1) := by decide +kernel
theorem d_Ar_copyOf_3_25 : decode b_Ar_copyOf_3 25 = .ok (.aload_n 0, 1) := by decide +kernel
theorem d_Ar_copyOf_3_26 : decode b_Ar_copyOf_3 26 = .ok (.iconst 0, 1) := by decide +kernel
theorem d_Ar_copyOf_3_27 : decode b_Ar_copyOf_3 27 = .ok (.aload_n 3, 1) := by decide +kernel
theorem d_Ar_copyOf_3_28 : decode b_Ar_copyOf_3 28 = .ok (.iconst 0, 1) := by decide +kernel
theorem d_Ar_copyOf_3_29 : decode b_Ar_copyOf_3 29 = .ok (.aload_n 0, 1) := by decide +kernel
theorem d_Ar_copyOf_3_30 : decode b_Ar_copyOf_3 30 = .ok (.arraylength, 1) := by decide +kernel
theorem d_Ar_copyOf_3_31 : decode b_Ar_copyOf_3 31 = .ok (.iload_n 1, 1) := by decide +kernel
theorem d_Ar_copyOf_3_32 : decode b_Ar_copyOf_3 32 = .ok (.invokestatic 304, 3) := by decide +kernel
theorem d_Ar_copyOf_3_35 : decode b_Ar_copyOf_3 35 = .ok (.invokestatic 150, 3) := by decide +kernel
theorem d_Ar_copyOf_3_38 : decode b_Ar_copyOf_3 38 = .ok (.aload_n 3, 1) := by decide +kernel
theorem d_Ar_copyOf_3_39 : decode b_Ar_copyOf_3 39 = .ok (.areturn, 1) := by decide +kernel
