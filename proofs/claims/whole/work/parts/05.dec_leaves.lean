theorem d_Tx_init_0 : decode b_Tx_init 0 = .ok (.aload_n 0, 1) := by decide +kernel
theorem d_Tx_init_1 : decode b_Tx_init 1 = .ok (.invokespecial 3, 3) := by decide +kernel
theorem d_Tx_init_4 : decode b_Tx_init 4 = .ok (.aload_n 0, 1) := by decide +kernel
theorem d_Tx_init_5 : decode b_Tx_init 5 = .ok (.iconst 4, 1) := by decide +kernel
theorem d_Tx_init_6 : decode b_Tx_init 6 = .ok (.newarray .int, 2) := by decide +kernel
theorem d_Tx_init_8 : decode b_Tx_init 8 = .ok (.putfield 9, 3) := by decide +kernel
theorem d_Tx_init_11 : decode b_Tx_init 11 = .ok (.aload_n 0, 1) := by decide +kernel
theorem d_Tx_init_12 : decode b_Tx_init 12 = .ok (.iconst 4, 1) := by decide +kernel
theorem d_Tx_init_13 : decode b_Tx_init 13 = .ok (.newarray .long, 2) := by decide +kernel
theorem d_Tx_init_15 : decode b_Tx_init 15 = .ok (.putfield 15, 3) := by decide +kernel
theorem d_Tx_init_18 : decode b_Tx_init 18 = .ok (.aload_n 0, 1) := by decide +kernel
theorem d_Tx_init_19 : decode b_Tx_init 19 = .ok (.iconst 0, 1) := by decide +kernel
theorem d_Tx_init_20 : decode b_Tx_init 20 = .ok (.putfield 19, 3) := by decide +kernel
theorem d_Tx_init_23 : decode b_Tx_init 23 = .ok (.aload_n 0, 1) := by decide +kernel
theorem d_Tx_init_24 : decode b_Tx_init 24 = .ok (.iconst 0, 1) := by decide +kernel
theorem d_Tx_init_25 : decode b_Tx_init 25 = .ok (.putfield 23, 3) := by decide +kernel
theorem d_Tx_init_28 : decode b_Tx_init 28 = .ok (.return_, 1) := by decide +kernel
theorem d_Dk_init_0 : decode b_Dk_init 0 = .ok (.aload_n 0, 1) := by decide +kernel
theorem d_Dk_init_1 : decode b_Dk_init 1 = .ok (.invokespecial 3, 3) := by decide +kernel
theorem d_Dk_init_4 : decode b_Dk_init 4 = .ok (.aload_n 0, 1) := by decide +kernel
theorem d_Dk_init_5 : decode b_Dk_init 5 = .ok (.bipush (8), 2) := by decide +kernel
theorem d_Dk_init_7 : decode b_Dk_init 7 = .ok (.newarray .int, 2) := by decide +kernel
theorem d_Dk_init_9 : decode b_Dk_init 9 = .ok (.putfield 9, 3) := by decide +kernel
theorem d_Dk_init_12 : decode b_Dk_init 12 = .ok (.aload_n 0, 1) := by decide +kernel
theorem d_Dk_init_13 : decode b_Dk_init 13 = .ok (.bipush (8), 2) := by decide +kernel
theorem d_Dk_init_15 : decode b_Dk_init 15 = .ok (.newarray .boolean, 2) := by decide +kernel
theorem d_Dk_init_17 : decode b_Dk_init 17 = .ok (.putfield 15, 3) := by decide +kernel
theorem d_Dk_init_20 : decode b_Dk_init 20 = .ok (.return_, 1) := by decide +kernel
theorem d_Lg_init_0 : decode b_Lg_init 0 = .ok (.aload_n 0, 1) := by decide +kernel
theorem d_Lg_init_1 : decode b_Lg_init 1 = .ok (.invokespecial 3, 3) := by decide +kernel
theorem d_Lg_init_4 : decode b_Lg_init 4 = .ok (.aload_n 0, 1) := by decide +kernel
theorem d_Lg_init_5 : decode b_Lg_init 5 = .ok (.sipush (801), 3) := by decide +kernel
theorem d_Lg_init_8 : decode b_Lg_init 8 = .ok (.newarray .int, 2) := by decide +kernel
theorem d_Lg_init_10 : decode b_Lg_init 10 = .ok (.putfield 9, 3) := by decide +kernel
theorem d_Lg_init_13 : decode b_Lg_init 13 = .ok (.aload_n 0, 1) := by decide +kernel
theorem d_Lg_init_14 : decode b_Lg_init 14 = .ok (.sipush (801), 3) := by decide +kernel
theorem d_Lg_init_17 : decode b_Lg_init 17 = .ok (.newarray .long, 2) := by decide +kernel
theorem d_Lg_init_19 : decode b_Lg_init 19 = .ok (.putfield 15, 3) := by decide +kernel
theorem d_Lg_init_22 : decode b_Lg_init 22 = .ok (.aload_n 0, 1) := by decide +kernel
theorem d_Lg_init_23 : decode b_Lg_init 23 = .ok (.bipush (32), 2) := by decide +kernel
theorem d_Lg_init_25 : decode b_Lg_init 25 = .ok (.newarray .long, 2) := by decide +kernel
theorem d_Lg_init_27 : decode b_Lg_init 27 = .ok (.putfield 19, 3) := by decide +kernel
theorem d_Lg_init_30 : decode b_Lg_init 30 = .ok (.aload_n 0, 1) := by decide +kernel
theorem d_Lg_init_31 : decode b_Lg_init 31 = .ok (.bipush (8), 2) := by decide +kernel
theorem d_Lg_init_33 : decode b_Lg_init 33 = .ok (.newarray .int, 2) := by decide +kernel
theorem d_Lg_init_35 : decode b_Lg_init 35 = .ok (.putfield 22, 3) := by decide +kernel
theorem d_Lg_init_38 : decode b_Lg_init 38 = .ok (.aload_n 0, 1) := by decide +kernel
theorem d_Lg_init_39 : decode b_Lg_init 39 = .ok (.iconst 0, 1) := by decide +kernel
theorem d_Lg_init_40 : decode b_Lg_init 40 = .ok (.putfield 25, 3) := by decide +kernel
theorem d_Lg_init_43 : decode b_Lg_init 43 = .ok (.aload_n 0, 1) := by decide +kernel
theorem d_Lg_init_44 : decode b_Lg_init 44 = .ok (.iconst 0, 1) := by decide +kernel
theorem d_Lg_init_45 : decode b_Lg_init 45 = .ok (.putfield 29, 3) := by decide +kernel
theorem d_Lg_init_48 : decode b_Lg_init 48 = .ok (.aload_n 0, 1) := by decide +kernel
theorem d_Lg_init_49 : decode b_Lg_init 49 = .ok (.iconst 0, 1) := by decide +kernel
theorem d_Lg_init_50 : decode b_Lg_init 50 = .ok (.putfield 32, 3) := by decide +kernel
theorem d_Lg_init_53 : decode b_Lg_init 53 = .ok (.aload_n 0, 1) := by decide +kernel
theorem d_Lg_init_54 : decode b_Lg_init 54 = .ok (.iconst 0, 1) := by decide +kernel
theorem d_Lg_init_55 : decode b_Lg_init 55 = .ok (.putfield 35, 3) := by decide +kernel
theorem d_Lg_init_58 : decode b_Lg_init 58 = .ok (.aload_n 0, 1) := by decide +kernel
theorem d_Lg_init_59 : decode b_Lg_init 59 = .ok (.iload_n 1, 1) := by decide +kernel
theorem d_Lg_init_60 : decode b_Lg_init 60 = .ok (.putfield 38, 3) := by decide +kernel
theorem d_Lg_init_63 : decode b_Lg_init 63 = .ok (.aload_n 0, 1) := by decide +kernel
theorem d_Lg_init_64 : decode b_Lg_init 64 = .ok (.getfield 19, 3) := by decide +kernel
theorem d_Lg_init_67 : decode b_Lg_init 67 = .ok (.ldc2_w 41, 3) := by decide +kernel
theorem d_Lg_init_70 : decode b_Lg_init 70 = .ok (.invokestatic 43, 3) := by decide +kernel
theorem d_Lg_init_73 : decode b_Lg_init 73 = .ok (.return_, 1) := by decide +kernel
theorem d_Bs_init_0 : decode b_Bs_init 0 = .ok (.aload_n 0, 1) := by decide +kernel
theorem d_Bs_init_1 : decode b_Bs_init 1 = .ok (.invokespecial 3, 3) := by decide +kernel
theorem d_Bs_init_4 : decode b_Bs_init 4 = .ok (.aload_n 0, 1) := by decide +kernel
theorem d_Bs_init_5 : decode b_Bs_init 5 = .ok (.new 9, 3) := by decide +kernel
theorem d_Bs_init_8 : decode b_Bs_init 8 = .ok (.dup, 1) := by decide +kernel
theorem d_Bs_init_9 : decode b_Bs_init 9 = .ok (.invokespecial 11, 3) := by decide +kernel
theorem d_Bs_init_12 : decode b_Bs_init 12 = .ok (.putfield 12, 3) := by decide +kernel
theorem d_Bs_init_15 : decode b_Bs_init 15 = .ok (.aload_n 0, 1) := by decide +kernel
theorem d_Bs_init_16 : decode b_Bs_init 16 = .ok (.aconst_null, 1) := by decide +kernel
theorem d_Bs_init_17 : decode b_Bs_init 17 = .ok (.putfield 18, 3) := by decide +kernel
theorem d_Bs_init_20 : decode b_Bs_init 20 = .ok (.aload_n 0, 1) := by decide +kernel
theorem d_Bs_init_21 : decode b_Bs_init 21 = .ok (.iconst 1, 1) := by decide +kernel
theorem d_Bs_init_22 : decode b_Bs_init 22 = .ok (.putfield 22, 3) := by decide +kernel
theorem d_Bs_init_25 : decode b_Bs_init 25 = .ok (.aload_n 0, 1) := by decide +kernel
theorem d_Bs_init_26 : decode b_Bs_init 26 = .ok (.iconst 0, 1) := by decide +kernel
theorem d_Bs_init_27 : decode b_Bs_init 27 = .ok (.putfield 26, 3) := by decide +kernel
theorem d_Bs_init_30 : decode b_Bs_init 30 = .ok (.aload_n 0, 1) := by decide +kernel
theorem d_Bs_init_31 : decode b_Bs_init 31 = .ok (.iload_n 1, 1) := by decide +kernel
theorem d_Bs_init_32 : decode b_Bs_init 32 = .ok (.putfield 29, 3) := by decide +kernel
theorem d_Bs_init_35 : decode b_Bs_init 35 = .ok (.return_, 1) := by decide +kernel
theorem d_Tx_isOpen_0 : decode b_Tx_isOpen 0 = .ok (.aload_n 0, 1) := by decide +kernel
theorem d_Tx_isOpen_1 : decode b_Tx_isOpen 1 = .ok (.getfield 23, 3) := by decide +kernel
theorem d_Tx_isOpen_4 : decode b_Tx_isOpen 4 = .ok (.ireturn, 1) := by decide +kernel
theorem d_Tx_open_0 : decode b_Tx_open 0 = .ok (.aload_n 0, 1) := by decide +kernel
theorem d_Tx_open_1 : decode b_Tx_open 1 = .ok (.iconst 1, 1) := by decide +kernel
theorem d_Tx_open_2 : decode b_Tx_open 2 = .ok (.putfield 23, 3) := by decide +kernel
theorem d_Tx_open_5 : decode b_Tx_open 5 = .ok (.return_, 1) := by decide +kernel
theorem d_Tx_takesAChange_0 : decode b_Tx_takesAChange 0 = .ok (.aload_n 0, 1) := by decide +kernel
theorem d_Tx_takesAChange_1 : decode b_Tx_takesAChange 1 = .ok (.getfield 23, 3) := by decide +kernel
theorem d_Tx_takesAChange_4 : decode b_Tx_takesAChange 4 = .ok (.ifCond .eq (15), 3) := by decide +kernel
theorem d_Tx_takesAChange_7 : decode b_Tx_takesAChange 7 = .ok (.aload_n 0, 1) := by decide +kernel
theorem d_Tx_takesAChange_8 : decode b_Tx_takesAChange 8 = .ok (.getfield 19, 3) := by decide +kernel
theorem d_Tx_takesAChange_11 : decode b_Tx_takesAChange 11 = .ok (.iconst 4, 1) := by decide +kernel
theorem d_Tx_takesAChange_12 : decode b_Tx_takesAChange 12 = .ok (.if_icmp .ge (7), 3) := by decide +kernel
theorem d_Tx_takesAChange_15 : decode b_Tx_takesAChange 15 = .ok (.iconst 1, 1) := by decide +kernel
theorem d_Tx_takesAChange_16 : decode b_Tx_takesAChange 16 = .ok (.goto (4), 3) := by decide +kernel
theorem d_Tx_takesAChange_19 : decode b_Tx_takesAChange 19 = .ok (.iconst 0, 1) := by decide +kernel
theorem d_Tx_takesAChange_20 : decode b_Tx_takesAChange 20 = .ok (.ireturn, 1) := by decide +kernel
theorem d_Tx_changes_0 : decode b_Tx_changes 0 = .ok (.aload_n 0, 1) := by decide +kernel
theorem d_Tx_changes_1 : decode b_Tx_changes 1 = .ok (.getfield 19, 3) := by decide +kernel
theorem d_Tx_changes_4 : decode b_Tx_changes 4 = .ok (.ireturn, 1) := by decide +kernel
theorem d_Lg_left_0 : decode b_Lg_left 0 = .ok (.aload_n 0, 1) := by decide +kernel
theorem d_Lg_left_1 : decode b_Lg_left 1 = .ok (.getfield 32, 3) := by decide +kernel
theorem d_Lg_left_4 : decode b_Lg_left 4 = .ok (.iconst 4, 1) := by decide +kernel
theorem d_Lg_left_5 : decode b_Lg_left 5 = .ok (.iadd, 1) := by decide +kernel
theorem d_Lg_left_6 : decode b_Lg_left 6 = .ok (.aload_n 0, 1) := by decide +kernel
theorem d_Lg_left_7 : decode b_Lg_left 7 = .ok (.getfield 38, 3) := by decide +kernel
theorem d_Lg_left_10 : decode b_Lg_left 10 = .ok (.imul, 1) := by decide +kernel
theorem d_Lg_left_11 : decode b_Lg_left 11 = .ok (.sipush (800), 3) := by decide +kernel
theorem d_Lg_left_14 : decode b_Lg_left 14 = .ok (.invokestatic 49, 3) := by decide +kernel
theorem d_Lg_left_17 : decode b_Lg_left 17 = .ok (.aload_n 0, 1) := by decide +kernel
theorem d_Lg_left_18 : decode b_Lg_left 18 = .ok (.getfield 25, 3) := by decide +kernel
theorem d_Lg_left_21 : decode b_Lg_left 21 = .ok (.isub, 1) := by decide +kernel
theorem d_Lg_left_22 : decode b_Lg_left 22 = .ok (.ireturn, 1) := by decide +kernel
theorem d_Lg_contentOf_0 : decode b_Lg_contentOf 0 = .ok (.aload_n 0, 1) := by decide +kernel
theorem d_Lg_contentOf_1 : decode b_Lg_contentOf 1 = .ok (.getfield 19, 3) := by decide +kernel
theorem d_Lg_contentOf_4 : decode b_Lg_contentOf 4 = .ok (.iload_n 1, 1) := by decide +kernel
theorem d_Lg_contentOf_5 : decode b_Lg_contentOf 5 = .ok (.laload, 1) := by decide +kernel
theorem d_Lg_contentOf_6 : decode b_Lg_contentOf 6 = .ok (.lreturn, 1) := by decide +kernel
theorem d_Tx_remember_0 : decode b_Tx_remember 0 = .ok (.aload_n 0, 1) := by decide +kernel
theorem d_Tx_remember_1 : decode b_Tx_remember 1 = .ok (.getfield 9, 3) := by decide +kernel
theorem d_Tx_remember_4 : decode b_Tx_remember 4 = .ok (.aload_n 0, 1) := by decide +kernel
theorem d_Tx_remember_5 : decode b_Tx_remember 5 = .ok (.getfield 19, 3) := by decide +kernel
theorem d_Tx_remember_8 : decode b_Tx_remember 8 = .ok (.iload_n 1, 1) := by decide +kernel
theorem d_Tx_remember_9 : decode b_Tx_remember 9 = .ok (.iastore, 1) := by decide +kernel
theorem d_Tx_remember_10 : decode b_Tx_remember 10 = .ok (.aload_n 0, 1) := by decide +kernel
theorem d_Tx_remember_11 : decode b_Tx_remember 11 = .ok (.getfield 15, 3) := by decide +kernel
theorem d_Tx_remember_14 : decode b_Tx_remember 14 = .ok (.aload_n 0, 1) := by decide +kernel
theorem d_Tx_remember_15 : decode b_Tx_remember 15 = .ok (.getfield 19, 3) := by decide +kernel
theorem d_Tx_remember_18 : decode b_Tx_remember 18 = .ok (.lload_n 2, 1) := by decide +kernel
theorem d_Tx_remember_19 : decode b_Tx_remember 19 = .ok (.lastore, 1) := by decide +kernel
theorem d_Tx_remember_20 : decode b_Tx_remember 20 = .ok (.aload_n 0, 1) := by decide +kernel
theorem d_Tx_remember_21 : decode b_Tx_remember 21 = .ok (.dup, 1) := by decide +kernel
theorem d_Tx_remember_22 : decode b_Tx_remember 22 = .ok (.getfield 19, 3) := by decide +kernel
theorem d_Tx_remember_25 : decode b_Tx_remember 25 = .ok (.iconst 1, 1) := by decide +kernel
theorem d_Tx_remember_26 : decode b_Tx_remember 26 = .ok (.iadd, 1) := by decide +kernel
theorem d_Tx_remember_27 : decode b_Tx_remember 27 = .ok (.putfield 19, 3) := by decide +kernel
theorem d_Tx_remember_30 : decode b_Tx_remember 30 = .ok (.return_, 1) := by decide +kernel
theorem d_Lg_addChange_0 : decode b_Lg_addChange 0 = .ok (.aload_n 0, 1) := by decide +kernel
theorem d_Lg_addChange_1 : decode b_Lg_addChange 1 = .ok (.iload_n 1, 1) := by decide +kernel
theorem d_Lg_addChange_2 : decode b_Lg_addChange 2 = .ok (.lload_n 2, 1) := by decide +kernel
theorem d_Lg_addChange_3 : decode b_Lg_addChange 3 = .ok (.invokevirtual 55, 3) := by decide +kernel
theorem d_Lg_addChange_6 : decode b_Lg_addChange 6 = .ok (.aload_n 0, 1) := by decide +kernel
theorem d_Lg_addChange_7 : decode b_Lg_addChange 7 = .ok (.getfield 19, 3) := by decide +kernel
theorem d_Lg_addChange_10 : decode b_Lg_addChange 10 = .ok (.iload_n 1, 1) := by decide +kernel
theorem d_Lg_addChange_11 : decode b_Lg_addChange 11 = .ok (.lload_n 2, 1) := by decide +kernel
theorem d_Lg_addChange_12 : decode b_Lg_addChange 12 = .ok (.lastore, 1) := by decide +kernel
theorem d_Lg_addChange_13 : decode b_Lg_addChange 13 = .ok (.aload_n 0, 1) := by decide +kernel
theorem d_Lg_addChange_14 : decode b_Lg_addChange 14 = .ok (.getfield 22, 3) := by decide +kernel
theorem d_Lg_addChange_17 : decode b_Lg_addChange 17 = .ok (.iload_n 1, 1) := by decide +kernel
theorem d_Lg_addChange_18 : decode b_Lg_addChange 18 = .ok (.iconst 4, 1) := by decide +kernel
theorem d_Lg_addChange_19 : decode b_Lg_addChange 19 = .ok (.idiv, 1) := by decide +kernel
theorem d_Lg_addChange_20 : decode b_Lg_addChange 20 = .ok (.aload_n 0, 1) := by decide +kernel
theorem d_Lg_addChange_21 : decode b_Lg_addChange 21 = .ok (.getfield 25, 3) := by decide +kernel
theorem d_Lg_addChange_24 : decode b_Lg_addChange 24 = .ok (.iastore, 1) := by decide +kernel
theorem d_Lg_addChange_25 : decode b_Lg_addChange 25 = .ok (.aload_n 0, 1) := by decide +kernel
theorem d_Lg_addChange_26 : decode b_Lg_addChange 26 = .ok (.getfield 25, 3) := by decide +kernel
theorem d_Lg_addChange_29 : decode b_Lg_addChange 29 = .ok (.ireturn, 1) := by decide +kernel
theorem d_Lg_addRecord_0 : decode b_Lg_addRecord 0 = .ok (.aload_n 0, 1) := by decide +kernel
theorem d_Lg_addRecord_1 : decode b_Lg_addRecord 1 = .ok (.dup, 1) := by decide +kernel
theorem d_Lg_addRecord_2 : decode b_Lg_addRecord 2 = .ok (.getfield 25, 3) := by decide +kernel
theorem d_Lg_addRecord_5 : decode b_Lg_addRecord 5 = .ok (.iconst 1, 1) := by decide +kernel
theorem d_Lg_addRecord_6 : decode b_Lg_addRecord 6 = .ok (.iadd, 1) := by decide +kernel
theorem d_Lg_addRecord_7 : decode b_Lg_addRecord 7 = .ok (.putfield 25, 3) := by decide +kernel
theorem d_Lg_addRecord_10 : decode b_Lg_addRecord 10 = .ok (.aload_n 0, 1) := by decide +kernel
theorem d_Lg_addRecord_11 : decode b_Lg_addRecord 11 = .ok (.getfield 9, 3) := by decide +kernel
theorem d_Lg_addRecord_14 : decode b_Lg_addRecord 14 = .ok (.aload_n 0, 1) := by decide +kernel
theorem d_Lg_addRecord_15 : decode b_Lg_addRecord 15 = .ok (.getfield 25, 3) := by decide +kernel
theorem d_Lg_addRecord_18 : decode b_Lg_addRecord 18 = .ok (.iload_n 1, 1) := by decide +kernel
theorem d_Lg_addRecord_19 : decode b_Lg_addRecord 19 = .ok (.iastore, 1) := by decide +kernel
theorem d_Lg_addRecord_20 : decode b_Lg_addRecord 20 = .ok (.aload_n 0, 1) := by decide +kernel
theorem d_Lg_addRecord_21 : decode b_Lg_addRecord 21 = .ok (.getfield 15, 3) := by decide +kernel
theorem d_Lg_addRecord_24 : decode b_Lg_addRecord 24 = .ok (.aload_n 0, 1) := by decide +kernel
theorem d_Lg_addRecord_25 : decode b_Lg_addRecord 25 = .ok (.getfield 25, 3) := by decide +kernel
theorem d_Lg_addRecord_28 : decode b_Lg_addRecord 28 = .ok (.lload_n 2, 1) := by decide +kernel
theorem d_Lg_addRecord_29 : decode b_Lg_addRecord 29 = .ok (.lastore, 1) := by decide +kernel
theorem d_Lg_addRecord_30 : decode b_Lg_addRecord 30 = .ok (.return_, 1) := by decide +kernel
theorem d_Tx_close_0 : decode b_Tx_close 0 = .ok (.aload_n 0, 1) := by decide +kernel
theorem d_Tx_close_1 : decode b_Tx_close 1 = .ok (.iconst 0, 1) := by decide +kernel
theorem d_Tx_close_2 : decode b_Tx_close 2 = .ok (.putfield 23, 3) := by decide +kernel
theorem d_Tx_close_5 : decode b_Tx_close 5 = .ok (.aload_n 0, 1) := by decide +kernel
theorem d_Tx_close_6 : decode b_Tx_close 6 = .ok (.iconst 0, 1) := by decide +kernel
theorem d_Tx_close_7 : decode b_Tx_close 7 = .ok (.putfield 19, 3) := by decide +kernel
theorem d_Tx_close_10 : decode b_Tx_close 10 = .ok (.return_, 1) := by decide +kernel
theorem d_Lg_addCommit_0 : decode b_Lg_addCommit 0 = .ok (.aload_n 0, 1) := by decide +kernel
theorem d_Lg_addCommit_1 : decode b_Lg_addCommit 1 = .ok (.iconst (-1), 1) := by decide +kernel
theorem d_Lg_addCommit_2 : decode b_Lg_addCommit 2 = .ok (.ldc2_w 41, 3) := by decide +kernel
theorem d_Lg_addCommit_5 : decode b_Lg_addCommit 5 = .ok (.invokevirtual 55, 3) := by decide +kernel
theorem d_Lg_addCommit_8 : decode b_Lg_addCommit 8 = .ok (.aload_n 0, 1) := by decide +kernel
theorem d_Lg_addCommit_9 : decode b_Lg_addCommit 9 = .ok (.dup, 1) := by decide +kernel
theorem d_Lg_addCommit_10 : decode b_Lg_addCommit 10 = .ok (.getfield 29, 3) := by decide +kernel
theorem d_Lg_addCommit_13 : decode b_Lg_addCommit 13 = .ok (.iconst 1, 1) := by decide +kernel
theorem d_Lg_addCommit_14 : decode b_Lg_addCommit 14 = .ok (.iadd, 1) := by decide +kernel
theorem d_Lg_addCommit_15 : decode b_Lg_addCommit 15 = .ok (.putfield 29, 3) := by decide +kernel
theorem d_Lg_addCommit_18 : decode b_Lg_addCommit 18 = .ok (.aload_n 0, 1) := by decide +kernel
theorem d_Lg_addCommit_19 : decode b_Lg_addCommit 19 = .ok (.getfield 29, 3) := by decide +kernel
theorem d_Lg_addCommit_22 : decode b_Lg_addCommit 22 = .ok (.ireturn, 1) := by decide +kernel
theorem d_Tx_undoIn_0 : decode b_Tx_undoIn 0 = .ok (.aload_n 0, 1) := by decide +kernel
theorem d_Tx_undoIn_1 : decode b_Tx_undoIn 1 = .ok (.getfield 19, 3) := by decide +kernel
theorem d_Tx_undoIn_4 : decode b_Tx_undoIn 4 = .ok (.iconst 1, 1) := by decide +kernel
theorem d_Tx_undoIn_5 : decode b_Tx_undoIn 5 = .ok (.isub, 1) := by decide +kernel
theorem d_Tx_undoIn_6 : decode b_Tx_undoIn 6 = .ok (.istore_n 2, 1) := by decide +kernel
theorem d_Tx_undoIn_7 : decode b_Tx_undoIn 7 = .ok (.iload_n 2, 1) := by decide +kernel
theorem d_Tx_undoIn_8 : decode b_Tx_undoIn 8 = .ok (.ifCond .lt (26), 3) := by decide +kernel
theorem d_Tx_undoIn_11 : decode b_Tx_undoIn 11 = .ok (.aload_n 1, 1) := by decide +kernel
theorem d_Tx_undoIn_12 : decode b_Tx_undoIn 12 = .ok (.aload_n 0, 1) := by decide +kernel
theorem d_Tx_undoIn_13 : decode b_Tx_undoIn 13 = .ok (.getfield 9, 3) := by decide +kernel
theorem d_Tx_undoIn_16 : decode b_Tx_undoIn 16 = .ok (.iload_n 2, 1) := by decide +kernel
theorem d_Tx_undoIn_17 : decode b_Tx_undoIn 17 = .ok (.iaload, 1) := by decide +kernel
theorem d_Tx_undoIn_18 : decode b_Tx_undoIn 18 = .ok (.aload_n 0, 1) := by decide +kernel
theorem d_Tx_undoIn_19 : decode b_Tx_undoIn 19 = .ok (.getfield 15, 3) := by decide +kernel
theorem d_Tx_undoIn_22 : decode b_Tx_undoIn 22 = .ok (.iload_n 2, 1) := by decide +kernel
theorem d_Tx_undoIn_23 : decode b_Tx_undoIn 23 = .ok (.laload, 1) := by decide +kernel
theorem d_Tx_undoIn_24 : decode b_Tx_undoIn 24 = .ok (.invokevirtual 27, 3) := by decide +kernel
theorem d_Tx_undoIn_27 : decode b_Tx_undoIn 27 = .ok (.pop, 1) := by decide +kernel
theorem d_Tx_undoIn_28 : decode b_Tx_undoIn 28 = .ok (.iinc 2 (-1), 3) := by decide +kernel
theorem d_Tx_undoIn_31 : decode b_Tx_undoIn 31 = .ok (.goto (-24), 3) := by decide +kernel
theorem d_Tx_undoIn_34 : decode b_Tx_undoIn 34 = .ok (.aload_n 0, 1) := by decide +kernel
theorem d_Tx_undoIn_35 : decode b_Tx_undoIn 35 = .ok (.getfield 19, 3) := by decide +kernel
theorem d_Tx_undoIn_38 : decode b_Tx_undoIn 38 = .ok (.ifCond .le (7), 3) := by decide +kernel
theorem d_Tx_undoIn_41 : decode b_Tx_undoIn 41 = .ok (.aload_n 1, 1) := by decide +kernel
theorem d_Tx_undoIn_42 : decode b_Tx_undoIn 42 = .ok (.invokevirtual 33, 3) := by decide +kernel
theorem d_Tx_undoIn_45 : decode b_Tx_undoIn 45 = .ok (.aload_n 0, 1) := by decide +kernel
theorem d_Tx_undoIn_46 : decode b_Tx_undoIn 46 = .ok (.invokevirtual 36, 3) := by decide +kernel
theorem d_Tx_undoIn_49 : decode b_Tx_undoIn 49 = .ok (.return_, 1) := by decide +kernel
theorem d_Lg_addEnd_0 : decode b_Lg_addEnd 0 = .ok (.aload_n 0, 1) := by decide +kernel
theorem d_Lg_addEnd_1 : decode b_Lg_addEnd 1 = .ok (.bipush (-2), 2) := by decide +kernel
theorem d_Lg_addEnd_3 : decode b_Lg_addEnd 3 = .ok (.ldc2_w 41, 3) := by decide +kernel
theorem d_Lg_addEnd_6 : decode b_Lg_addEnd 6 = .ok (.invokevirtual 55, 3) := by decide +kernel
theorem d_Lg_addEnd_9 : decode b_Lg_addEnd 9 = .ok (.return_, 1) := by decide +kernel
theorem d_Lg_numberOfPage_0 : decode b_Lg_numberOfPage 0 = .ok (.aload_n 0, 1) := by decide +kernel
theorem d_Lg_numberOfPage_1 : decode b_Lg_numberOfPage 1 = .ok (.getfield 22, 3) := by decide +kernel
theorem d_Lg_numberOfPage_4 : decode b_Lg_numberOfPage 4 = .ok (.iload_n 1, 1) := by decide +kernel
theorem d_Lg_numberOfPage_5 : decode b_Lg_numberOfPage 5 = .ok (.iaload, 1) := by decide +kernel
theorem d_Lg_numberOfPage_6 : decode b_Lg_numberOfPage 6 = .ok (.ireturn, 1) := by decide +kernel
theorem d_Dk_store_0 : decode b_Dk_store 0 = .ok (.aload_n 0, 1) := by decide +kernel
theorem d_Dk_store_1 : decode b_Dk_store 1 = .ok (.getfield 9, 3) := by decide +kernel
theorem d_Dk_store_4 : decode b_Dk_store 4 = .ok (.iload_n 1, 1) := by decide +kernel
theorem d_Dk_store_5 : decode b_Dk_store 5 = .ok (.iload_n 2, 1) := by decide +kernel
theorem d_Dk_store_6 : decode b_Dk_store 6 = .ok (.iastore, 1) := by decide +kernel
theorem d_Dk_store_7 : decode b_Dk_store 7 = .ok (.aload_n 0, 1) := by decide +kernel
theorem d_Dk_store_8 : decode b_Dk_store 8 = .ok (.getfield 15, 3) := by decide +kernel
theorem d_Dk_store_11 : decode b_Dk_store 11 = .ok (.iload_n 1, 1) := by decide +kernel
theorem d_Dk_store_12 : decode b_Dk_store 12 = .ok (.iconst 0, 1) := by decide +kernel
theorem d_Dk_store_13 : decode b_Dk_store 13 = .ok (.bastore, 1) := by decide +kernel
theorem d_Dk_store_14 : decode b_Dk_store 14 = .ok (.return_, 1) := by decide +kernel
theorem d_Lg_archiveOldest_0 : decode b_Lg_archiveOldest 0 = .ok (.aload_n 0, 1) := by decide +kernel
theorem d_Lg_archiveOldest_1 : decode b_Lg_archiveOldest 1 = .ok (.getfield 25, 3) := by decide +kernel
theorem d_Lg_archiveOldest_4 : decode b_Lg_archiveOldest 4 = .ok (.aload_n 0, 1) := by decide +kernel
theorem d_Lg_archiveOldest_5 : decode b_Lg_archiveOldest 5 = .ok (.getfield 32, 3) := by decide +kernel
theorem d_Lg_archiveOldest_8 : decode b_Lg_archiveOldest 8 = .ok (.iconst 1, 1) := by decide +kernel
theorem d_Lg_archiveOldest_9 : decode b_Lg_archiveOldest 9 = .ok (.iadd, 1) := by decide +kernel
theorem d_Lg_archiveOldest_10 : decode b_Lg_archiveOldest 10 = .ok (.aload_n 0, 1) := by decide +kernel
theorem d_Lg_archiveOldest_11 : decode b_Lg_archiveOldest 11 = .ok (.getfield 38, 3) := by decide +kernel
theorem d_Lg_archiveOldest_14 : decode b_Lg_archiveOldest 14 = .ok (.imul, 1) := by decide +kernel
theorem d_Lg_archiveOldest_15 : decode b_Lg_archiveOldest 15 = .ok (.if_icmp .ge (5), 3) := by decide +kernel
theorem d_Lg_archiveOldest_18 : decode b_Lg_archiveOldest 18 = .ok (.iconst (-1), 1) := by decide +kernel
theorem d_Lg_archiveOldest_19 : decode b_Lg_archiveOldest 19 = .ok (.ireturn, 1) := by decide +kernel
theorem d_Lg_archiveOldest_20 : decode b_Lg_archiveOldest 20 = .ok (.aload_n 0, 1) := by decide +kernel
theorem d_Lg_archiveOldest_21 : decode b_Lg_archiveOldest 21 = .ok (.dup, 1) := by decide +kernel
theorem d_Lg_archiveOldest_22 : decode b_Lg_archiveOldest 22 = .ok (.getfield 32, 3) := by decide +kernel
theorem d_Lg_archiveOldest_25 : decode b_Lg_archiveOldest 25 = .ok (.iconst 1, 1) := by decide +kernel
theorem d_Lg_archiveOldest_26 : decode b_Lg_archiveOldest 26 = .ok (.iadd, 1) := by decide +kernel
theorem d_Lg_archiveOldest_27 : decode b_Lg_archiveOldest 27 = .ok (.putfield 32, 3) := by decide +kernel
theorem d_Lg_archiveOldest_30 : decode b_Lg_archiveOldest 30 = .ok (.aload_n 0, 1) := by decide +kernel
theorem d_Lg_archiveOldest_31 : decode b_Lg_archiveOldest 31 = .ok (.getfield 32, 3) := by decide +kernel
theorem d_Lg_archiveOldest_34 : decode b_Lg_archiveOldest 34 = .ok (.ireturn, 1) := by decide +kernel
theorem d_Lg_latest_0 : decode b_Lg_latest 0 = .ok (.aload_n 0, 1) := by decide +kernel
theorem d_Lg_latest_1 : decode b_Lg_latest 1 = .ok (.getfield 25, 3) := by decide +kernel
theorem d_Lg_latest_4 : decode b_Lg_latest 4 = .ok (.ireturn, 1) := by decide +kernel
theorem d_Bs_start_0 : decode b_Bs_start 0 = .ok (.aload_n 0, 1) := by decide +kernel
theorem d_Bs_start_1 : decode b_Bs_start 1 = .ok (.getfield 18, 3) := by decide +kernel
theorem d_Bs_start_4 : decode b_Bs_start 4 = .ok (.ifnonnull (24), 3) := by decide +kernel
theorem d_Bs_start_7 : decode b_Bs_start 7 = .ok (.iload_n 1, 1) := by decide +kernel
theorem d_Bs_start_8 : decode b_Bs_start 8 = .ok (.ifCond .ne (10), 3) := by decide +kernel
theorem d_Bs_start_11 : decode b_Bs_start 11 = .ok (.aload_n 0, 1) := by decide +kernel
theorem d_Bs_start_12 : decode b_Bs_start 12 = .ok (.getfield 26, 3) := by decide +kernel
theorem d_Bs_start_15 : decode b_Bs_start 15 = .ok (.ifCond .eq (13), 3) := by decide +kernel
theorem d_Bs_start_18 : decode b_Bs_start 18 = .ok (.aload_n 0, 1) := by decide +kernel
theorem d_Bs_start_19 : decode b_Bs_start 19 = .ok (.invokevirtual 45, 3) := by decide +kernel
theorem d_Bs_start_22 : decode b_Bs_start 22 = .ok (.sipush (256), 3) := by decide +kernel
theorem d_Bs_start_25 : decode b_Bs_start 25 = .ok (.if_icmp .ne (5), 3) := by decide +kernel
theorem d_Bs_start_28 : decode b_Bs_start 28 = .ok (.iconst (-1), 1) := by decide +kernel
theorem d_Bs_start_29 : decode b_Bs_start 29 = .ok (.ireturn, 1) := by decide +kernel
theorem d_Bs_start_30 : decode b_Bs_start 30 = .ok (.aload_n 0, 1) := by decide +kernel
theorem d_Bs_start_31 : decode b_Bs_start 31 = .ok (.new 40, 3) := by decide +kernel
theorem d_Bs_start_34 : decode b_Bs_start 34 = .ok (.dup, 1) := by decide +kernel
theorem d_Bs_start_35 : decode b_Bs_start 35 = .ok (.iload_n 1, 1) := by decide +kernel
theorem d_Bs_start_36 : decode b_Bs_start 36 = .ok (.iload_n 2, 1) := by decide +kernel
theorem d_Bs_start_37 : decode b_Bs_start 37 = .ok (.invokespecial 48, 3) := by decide +kernel
theorem d_Bs_start_40 : decode b_Bs_start 40 = .ok (.putfield 18, 3) := by decide +kernel
theorem d_Bs_start_43 : decode b_Bs_start 43 = .ok (.iconst 0, 1) := by decide +kernel
theorem d_Bs_start_44 : decode b_Bs_start 44 = .ok (.ireturn, 1) := by decide +kernel
theorem d_Bs_howMany_0 : decode b_Bs_howMany 0 = .ok (.aload_n 0, 1) := by decide +kernel
theorem d_Bs_howMany_1 : decode b_Bs_howMany 1 = .ok (.getfield 12, 3) := by decide +kernel
theorem d_Bs_howMany_4 : decode b_Bs_howMany 4 = .ok (.invokevirtual 32, 3) := by decide +kernel
theorem d_Bs_howMany_7 : decode b_Bs_howMany 7 = .ok (.ireturn, 1) := by decide +kernel
theorem d_Bk_init_0 : decode b_Bk_init 0 = .ok (.aload_n 0, 1) := by decide +kernel
theorem d_Bk_init_1 : decode b_Bk_init 1 = .ok (.invokespecial 3, 3) := by decide +kernel
theorem d_Bk_init_4 : decode b_Bk_init 4 = .ok (.aload_n 0, 1) := by decide +kernel
theorem d_Bk_init_5 : decode b_Bk_init 5 = .ok (.bipush (8), 2) := by decide +kernel
theorem d_Bk_init_7 : decode b_Bk_init 7 = .ok (.newarray .int, 2) := by decide +kernel
theorem d_Bk_init_9 : decode b_Bk_init 9 = .ok (.putfield 9, 3) := by decide +kernel
theorem d_Bk_init_12 : decode b_Bk_init 12 = .ok (.aload_n 0, 1) := by decide +kernel
theorem d_Bk_init_13 : decode b_Bk_init 13 = .ok (.iconst 0, 1) := by decide +kernel
theorem d_Bk_init_14 : decode b_Bk_init 14 = .ok (.putfield 15, 3) := by decide +kernel
theorem d_Bk_init_17 : decode b_Bk_init 17 = .ok (.aload_n 0, 1) := by decide +kernel
theorem d_Bk_init_18 : decode b_Bk_init 18 = .ok (.iconst 0, 1) := by decide +kernel
theorem d_Bk_init_19 : decode b_Bk_init 19 = .ok (.putfield 19, 3) := by decide +kernel
theorem d_Bk_init_22 : decode b_Bk_init 22 = .ok (.aload_n 0, 1) := by decide +kernel
theorem d_Bk_init_23 : decode b_Bk_init 23 = .ok (.iconst 0, 1) := by decide +kernel
theorem d_Bk_init_24 : decode b_Bk_init 24 = .ok (.putfield 22, 3) := by decide +kernel
theorem d_Bk_init_27 : decode b_Bk_init 27 = .ok (.aload_n 0, 1) := by decide +kernel
theorem d_Bk_init_28 : decode b_Bk_init 28 = .ok (.iload_n 1, 1) := by decide +kernel
theorem d_Bk_init_29 : decode b_Bk_init 29 = .ok (.putfield 25, 3) := by decide +kernel
theorem d_Bk_init_32 : decode b_Bk_init 32 = .ok (.aload_n 0, 1) := by decide +kernel
theorem d_Bk_init_33 : decode b_Bk_init 33 = .ok (.iload_n 2, 1) := by decide +kernel
theorem d_Bk_init_34 : decode b_Bk_init 34 = .ok (.putfield 29, 3) := by decide +kernel
theorem d_Bk_init_37 : decode b_Bk_init 37 = .ok (.aload_n 0, 1) := by decide +kernel
theorem d_Bk_init_38 : decode b_Bk_init 38 = .ok (.getfield 9, 3) := by decide +kernel
theorem d_Bk_init_41 : decode b_Bk_init 41 = .ok (.iconst (-1), 1) := by decide +kernel
theorem d_Bk_init_42 : decode b_Bk_init 42 = .ok (.invokestatic 32, 3) := by decide +kernel
theorem d_Bk_init_45 : decode b_Bk_init 45 = .ok (.return_, 1) := by decide +kernel
theorem d_Bs_visit_0 : decode b_Bs_visit 0 = .ok (.aload_n 0, 1) := by decide +kernel
theorem d_Bs_visit_1 : decode b_Bs_visit 1 = .ok (.getfield 18, 3) := by decide +kernel
theorem d_Bs_visit_4 : decode b_Bs_visit 4 = .ok (.ifnonnull (5), 3) := by decide +kernel
theorem d_Bs_visit_7 : decode b_Bs_visit 7 = .ok (.iconst (-1), 1) := by decide +kernel
theorem d_Bs_visit_8 : decode b_Bs_visit 8 = .ok (.ireturn, 1) := by decide +kernel
theorem d_Bs_visit_9 : decode b_Bs_visit 9 = .ok (.bipush (8), 2) := by decide +kernel
theorem d_Bs_visit_11 : decode b_Bs_visit 11 = .ok (.aload_n 0, 1) := by decide +kernel
theorem d_Bs_visit_12 : decode b_Bs_visit 12 = .ok (.getfield 18, 3) := by decide +kernel
theorem d_Bs_visit_15 : decode b_Bs_visit 15 = .ok (.getfield 42, 3) := by decide +kernel
theorem d_Bs_visit_18 : decode b_Bs_visit 18 = .ok (.iload_n 1, 1) := by decide +kernel
theorem d_Bs_visit_19 : decode b_Bs_visit 19 = .ok (.iadd, 1) := by decide +kernel
theorem d_Bs_visit_20 : decode b_Bs_visit 20 = .ok (.invokestatic 51, 3) := by decide +kernel
theorem d_Bs_visit_23 : decode b_Bs_visit 23 = .ok (.istore_n 3, 1) := by decide +kernel
theorem d_Bs_visit_24 : decode b_Bs_visit 24 = .ok (.aload_n 0, 1) := by decide +kernel
theorem d_Bs_visit_25 : decode b_Bs_visit 25 = .ok (.getfield 18, 3) := by decide +kernel
theorem d_Bs_visit_28 : decode b_Bs_visit 28 = .ok (.getfield 42, 3) := by decide +kernel
theorem d_Bs_visit_31 : decode b_Bs_visit 31 = .ok (.istore 4, 2) := by decide +kernel
theorem d_Bs_visit_33 : decode b_Bs_visit 33 = .ok (.iload 4, 2) := by decide +kernel
theorem d_Bs_visit_35 : decode b_Bs_visit 35 = .ok (.iload_n 3, 1) := by decide +kernel
theorem d_Bs_visit_36 : decode b_Bs_visit 36 = .ok (.if_icmp .ge (47), 3) := by decide +kernel
theorem d_Bs_visit_39 : decode b_Bs_visit 39 = .ok (.aload_n 2, 1) := by decide +kernel
theorem d_Bs_visit_40 : decode b_Bs_visit 40 = .ok (.iload 4, 2) := by decide +kernel
theorem d_Bs_visit_42 : decode b_Bs_visit 42 = .ok (.invokevirtual 57, 3) := by decide +kernel
theorem d_Bs_visit_45 : decode b_Bs_visit 45 = .ok (.istore 5, 2) := by decide +kernel
theorem d_Bs_visit_47 : decode b_Bs_visit 47 = .ok (.aload_n 0, 1) := by decide +kernel
theorem d_Bs_visit_48 : decode b_Bs_visit 48 = .ok (.getfield 18, 3) := by decide +kernel
theorem d_Bs_visit_51 : decode b_Bs_visit 51 = .ok (.getfield 63, 3) := by decide +kernel
theorem d_Bs_visit_54 : decode b_Bs_visit 54 = .ok (.ifCond .ne (12), 3) := by decide +kernel
theorem d_Bs_visit_57 : decode b_Bs_visit 57 = .ok (.iload 5, 2) := by decide +kernel
theorem d_Bs_visit_59 : decode b_Bs_visit 59 = .ok (.aload_n 0, 1) := by decide +kernel
theorem d_Bs_visit_60 : decode b_Bs_visit 60 = .ok (.invokevirtual 67, 3) := by decide +kernel
theorem d_Bs_visit_63 : decode b_Bs_visit 63 = .ok (.if_icmp .le (14), 3) := by decide +kernel
theorem d_Bs_visit_66 : decode b_Bs_visit 66 = .ok (.aload_n 0, 1) := by decide +kernel
theorem d_Bs_visit_67 : decode b_Bs_visit 67 = .ok (.getfield 18, 3) := by decide +kernel
theorem d_Bs_visit_70 : decode b_Bs_visit 70 = .ok (.iload 4, 2) := by decide +kernel
theorem d_Bs_visit_72 : decode b_Bs_visit 72 = .ok (.iload 5, 2) := by decide +kernel
theorem d_Bs_visit_74 : decode b_Bs_visit 74 = .ok (.invokevirtual 70, 3) := by decide +kernel
theorem d_Bs_visit_77 : decode b_Bs_visit 77 = .ok (.iinc 4 (1), 3) := by decide +kernel
theorem d_Bs_visit_80 : decode b_Bs_visit 80 = .ok (.goto (-47), 3) := by decide +kernel
theorem d_Bs_visit_83 : decode b_Bs_visit 83 = .ok (.aload_n 0, 1) := by decide +kernel
theorem d_Bs_visit_84 : decode b_Bs_visit 84 = .ok (.getfield 18, 3) := by decide +kernel
theorem d_Bs_visit_87 : decode b_Bs_visit 87 = .ok (.iload_n 3, 1) := by decide +kernel
theorem d_Bs_visit_88 : decode b_Bs_visit 88 = .ok (.putfield 42, 3) := by decide +kernel
theorem d_Bs_visit_91 : decode b_Bs_visit 91 = .ok (.iload_n 3, 1) := by decide +kernel
theorem d_Bs_visit_92 : decode b_Bs_visit 92 = .ok (.bipush (8), 2) := by decide +kernel
theorem d_Bs_visit_94 : decode b_Bs_visit 94 = .ok (.if_icmp .ne (12), 3) := by decide +kernel
theorem d_Bs_visit_97 : decode b_Bs_visit 97 = .ok (.aload_n 0, 1) := by decide +kernel
theorem d_Bs_visit_98 : decode b_Bs_visit 98 = .ok (.aload_n 0, 1) := by decide +kernel
theorem d_Bs_visit_99 : decode b_Bs_visit 99 = .ok (.getfield 18, 3) := by decide +kernel
theorem d_Bs_visit_102 : decode b_Bs_visit 102 = .ok (.aload_n 2, 1) := by decide +kernel
theorem d_Bs_visit_103 : decode b_Bs_visit 103 = .ok (.invokevirtual 74, 3) := by decide +kernel
theorem d_Bs_visit_106 : decode b_Bs_visit 106 = .ok (.bipush (8), 2) := by decide +kernel
theorem d_Bs_visit_108 : decode b_Bs_visit 108 = .ok (.iload_n 3, 1) := by decide +kernel
theorem d_Bs_visit_109 : decode b_Bs_visit 109 = .ok (.isub, 1) := by decide +kernel
theorem d_Bs_visit_110 : decode b_Bs_visit 110 = .ok (.ireturn, 1) := by decide +kernel
theorem d_Bs_startOfLatest_0 : decode b_Bs_startOfLatest 0 = .ok (.aload_n 0, 1) := by decide +kernel
theorem d_Bs_startOfLatest_1 : decode b_Bs_startOfLatest 1 = .ok (.getfield 12, 3) := by decide +kernel
theorem d_Bs_startOfLatest_4 : decode b_Bs_startOfLatest 4 = .ok (.invokevirtual 78, 3) := by decide +kernel
theorem d_Bs_startOfLatest_7 : decode b_Bs_startOfLatest 7 = .ok (.ifCond .eq (7), 3) := by decide +kernel
theorem d_Bs_startOfLatest_10 : decode b_Bs_startOfLatest 10 = .ok (.iconst 0, 1) := by decide +kernel
theorem d_Bs_startOfLatest_11 : decode b_Bs_startOfLatest 11 = .ok (.goto (14), 3) := by decide +kernel
theorem d_Bs_startOfLatest_14 : decode b_Bs_startOfLatest 14 = .ok (.aload_n 0, 1) := by decide +kernel
theorem d_Bs_startOfLatest_15 : decode b_Bs_startOfLatest 15 = .ok (.aload_n 0, 1) := by decide +kernel
theorem d_Bs_startOfLatest_16 : decode b_Bs_startOfLatest 16 = .ok (.invokevirtual 45, 3) := by decide +kernel
theorem d_Bs_startOfLatest_19 : decode b_Bs_startOfLatest 19 = .ok (.invokevirtual 82, 3) := by decide +kernel
theorem d_Bs_startOfLatest_22 : decode b_Bs_startOfLatest 22 = .ok (.getfield 86, 3) := by decide +kernel
theorem d_Bs_startOfLatest_25 : decode b_Bs_startOfLatest 25 = .ok (.ireturn, 1) := by decide +kernel
theorem d_Bs_numbered_0 : decode b_Bs_numbered 0 = .ok (.aload_n 0, 1) := by decide +kernel
theorem d_Bs_numbered_1 : decode b_Bs_numbered 1 = .ok (.getfield 12, 3) := by decide +kernel
theorem d_Bs_numbered_4 : decode b_Bs_numbered 4 = .ok (.iload_n 1, 1) := by decide +kernel
theorem d_Bs_numbered_5 : decode b_Bs_numbered 5 = .ok (.iconst 1, 1) := by decide +kernel
theorem d_Bs_numbered_6 : decode b_Bs_numbered 6 = .ok (.isub, 1) := by decide +kernel
theorem d_Bs_numbered_7 : decode b_Bs_numbered 7 = .ok (.invokevirtual 36, 3) := by decide +kernel
theorem d_Bs_numbered_10 : decode b_Bs_numbered 10 = .ok (.checkcast 40, 3) := by decide +kernel
theorem d_Bs_numbered_13 : decode b_Bs_numbered 13 = .ok (.areturn, 1) := by decide +kernel
theorem d_Bk_takeImage_0 : decode b_Bk_takeImage 0 = .ok (.aload_n 0, 1) := by decide +kernel
theorem d_Bk_takeImage_1 : decode b_Bk_takeImage 1 = .ok (.getfield 9, 3) := by decide +kernel
theorem d_Bk_takeImage_4 : decode b_Bk_takeImage 4 = .ok (.iload_n 1, 1) := by decide +kernel
theorem d_Bk_takeImage_5 : decode b_Bk_takeImage 5 = .ok (.iload_n 2, 1) := by decide +kernel
theorem d_Bk_takeImage_6 : decode b_Bk_takeImage 6 = .ok (.iastore, 1) := by decide +kernel
theorem d_Bk_takeImage_7 : decode b_Bk_takeImage 7 = .ok (.aload_n 0, 1) := by decide +kernel
theorem d_Bk_takeImage_8 : decode b_Bk_takeImage 8 = .ok (.dup, 1) := by decide +kernel
theorem d_Bk_takeImage_9 : decode b_Bk_takeImage 9 = .ok (.getfield 19, 3) := by decide +kernel
theorem d_Bk_takeImage_12 : decode b_Bk_takeImage 12 = .ok (.iconst 1, 1) := by decide +kernel
theorem d_Bk_takeImage_13 : decode b_Bk_takeImage 13 = .ok (.iadd, 1) := by decide +kernel
theorem d_Bk_takeImage_14 : decode b_Bk_takeImage 14 = .ok (.putfield 19, 3) := by decide +kernel
theorem d_Bk_takeImage_17 : decode b_Bk_takeImage 17 = .ok (.return_, 1) := by decide +kernel
theorem d_Bs_finish_0 : decode b_Bs_finish 0 = .ok (.aload_n 1, 1) := by decide +kernel
theorem d_Bs_finish_1 : decode b_Bs_finish 1 = .ok (.aload_n 2, 1) := by decide +kernel
theorem d_Bs_finish_2 : decode b_Bs_finish 2 = .ok (.invokevirtual 89, 3) := by decide +kernel
theorem d_Bs_finish_5 : decode b_Bs_finish 5 = .ok (.putfield 92, 3) := by decide +kernel
theorem d_Bs_finish_8 : decode b_Bs_finish 8 = .ok (.aload_n 0, 1) := by decide +kernel
theorem d_Bs_finish_9 : decode b_Bs_finish 9 = .ok (.getfield 12, 3) := by decide +kernel
theorem d_Bs_finish_12 : decode b_Bs_finish 12 = .ok (.aload_n 1, 1) := by decide +kernel
theorem d_Bs_finish_13 : decode b_Bs_finish 13 = .ok (.invokevirtual 95, 3) := by decide +kernel
theorem d_Bs_finish_16 : decode b_Bs_finish 16 = .ok (.pop, 1) := by decide +kernel
theorem d_Bs_finish_17 : decode b_Bs_finish 17 = .ok (.aload_n 0, 1) := by decide +kernel
theorem d_Bs_finish_18 : decode b_Bs_finish 18 = .ok (.aconst_null, 1) := by decide +kernel
theorem d_Bs_finish_19 : decode b_Bs_finish 19 = .ok (.putfield 18, 3) := by decide +kernel
theorem d_Bs_finish_22 : decode b_Bs_finish 22 = .ok (.aload_n 1, 1) := by decide +kernel
theorem d_Bs_finish_23 : decode b_Bs_finish 23 = .ok (.getfield 63, 3) := by decide +kernel
theorem d_Bs_finish_26 : decode b_Bs_finish 26 = .ok (.ifCond .eq (13), 3) := by decide +kernel
theorem d_Bs_finish_29 : decode b_Bs_finish 29 = .ok (.aload_n 0, 1) := by decide +kernel
theorem d_Bs_finish_30 : decode b_Bs_finish 30 = .ok (.dup, 1) := by decide +kernel
theorem d_Bs_finish_31 : decode b_Bs_finish 31 = .ok (.getfield 26, 3) := by decide +kernel
theorem d_Bs_finish_34 : decode b_Bs_finish 34 = .ok (.iconst 1, 1) := by decide +kernel
theorem d_Bs_finish_35 : decode b_Bs_finish 35 = .ok (.iadd, 1) := by decide +kernel
theorem d_Bs_finish_36 : decode b_Bs_finish 36 = .ok (.putfield 26, 3) := by decide +kernel
theorem d_Bs_finish_39 : decode b_Bs_finish 39 = .ok (.aload_n 0, 1) := by decide +kernel
theorem d_Bs_finish_40 : decode b_Bs_finish 40 = .ok (.getfield 26, 3) := by decide +kernel
theorem d_Bs_finish_43 : decode b_Bs_finish 43 = .ok (.aload_n 0, 1) := by decide +kernel
theorem d_Bs_finish_44 : decode b_Bs_finish 44 = .ok (.getfield 29, 3) := by decide +kernel
theorem d_Bs_finish_47 : decode b_Bs_finish 47 = .ok (.if_icmp .le (22), 3) := by decide +kernel
theorem d_Bs_finish_50 : decode b_Bs_finish 50 = .ok (.aload_n 0, 1) := by decide +kernel
theorem d_Bs_finish_51 : decode b_Bs_finish 51 = .ok (.invokevirtual 99, 3) := by decide +kernel
theorem d_Bs_finish_54 : decode b_Bs_finish 54 = .ok (.aload_n 2, 1) := by decide +kernel
theorem d_Bs_finish_55 : decode b_Bs_finish 55 = .ok (.aload_n 0, 1) := by decide +kernel
theorem d_Bs_finish_56 : decode b_Bs_finish 56 = .ok (.aload_n 0, 1) := by decide +kernel
theorem d_Bs_finish_57 : decode b_Bs_finish 57 = .ok (.getfield 22, 3) := by decide +kernel
theorem d_Bs_finish_60 : decode b_Bs_finish 60 = .ok (.invokevirtual 82, 3) := by decide +kernel
theorem d_Bs_finish_63 : decode b_Bs_finish 63 = .ok (.getfield 86, 3) := by decide +kernel
theorem d_Bs_finish_66 : decode b_Bs_finish 66 = .ok (.invokevirtual 102, 3) := by decide +kernel
theorem d_Bs_finish_69 : decode b_Bs_finish 69 = .ok (.return_, 1) := by decide +kernel
theorem d_Bs_dropOldest_0 : decode b_Bs_dropOldest 0 = .ok (.aload_n 0, 1) := by decide +kernel
theorem d_Bs_dropOldest_1 : decode b_Bs_dropOldest 1 = .ok (.dup, 1) := by decide +kernel
theorem d_Bs_dropOldest_2 : decode b_Bs_dropOldest 2 = .ok (.getfield 26, 3) := by decide +kernel
theorem d_Bs_dropOldest_5 : decode b_Bs_dropOldest 5 = .ok (.iconst 1, 1) := by decide +kernel
theorem d_Bs_dropOldest_6 : decode b_Bs_dropOldest 6 = .ok (.isub, 1) := by decide +kernel
theorem d_Bs_dropOldest_7 : decode b_Bs_dropOldest 7 = .ok (.putfield 26, 3) := by decide +kernel
theorem d_Bs_dropOldest_10 : decode b_Bs_dropOldest 10 = .ok (.aload_n 0, 1) := by decide +kernel
theorem d_Bs_dropOldest_11 : decode b_Bs_dropOldest 11 = .ok (.dup, 1) := by decide +kernel
theorem d_Bs_dropOldest_12 : decode b_Bs_dropOldest 12 = .ok (.getfield 22, 3) := by decide +kernel
theorem d_Bs_dropOldest_15 : decode b_Bs_dropOldest 15 = .ok (.iconst 1, 1) := by decide +kernel
theorem d_Bs_dropOldest_16 : decode b_Bs_dropOldest 16 = .ok (.iadd, 1) := by decide +kernel
theorem d_Bs_dropOldest_17 : decode b_Bs_dropOldest 17 = .ok (.putfield 22, 3) := by decide +kernel
theorem d_Bs_dropOldest_20 : decode b_Bs_dropOldest 20 = .ok (.aload_n 0, 1) := by decide +kernel
theorem d_Bs_dropOldest_21 : decode b_Bs_dropOldest 21 = .ok (.getfield 22, 3) := by decide +kernel
theorem d_Bs_dropOldest_24 : decode b_Bs_dropOldest 24 = .ok (.aload_n 0, 1) := by decide +kernel
theorem d_Bs_dropOldest_25 : decode b_Bs_dropOldest 25 = .ok (.invokevirtual 45, 3) := by decide +kernel
theorem d_Bs_dropOldest_28 : decode b_Bs_dropOldest 28 = .ok (.if_icmp .ge (30), 3) := by decide +kernel
theorem d_Bs_dropOldest_31 : decode b_Bs_dropOldest 31 = .ok (.aload_n 0, 1) := by decide +kernel
theorem d_Bs_dropOldest_32 : decode b_Bs_dropOldest 32 = .ok (.aload_n 0, 1) := by decide +kernel
theorem d_Bs_dropOldest_33 : decode b_Bs_dropOldest 33 = .ok (.getfield 22, 3) := by decide +kernel
theorem d_Bs_dropOldest_36 : decode b_Bs_dropOldest 36 = .ok (.invokevirtual 82, 3) := by decide +kernel
theorem d_Bs_dropOldest_39 : decode b_Bs_dropOldest 39 = .ok (.getfield 63, 3) := by decide +kernel
theorem d_Bs_dropOldest_42 : decode b_Bs_dropOldest 42 = .ok (.ifCond .ne (16), 3) := by decide +kernel
theorem d_Bs_dropOldest_45 : decode b_Bs_dropOldest 45 = .ok (.aload_n 0, 1) := by decide +kernel
theorem d_Bs_dropOldest_46 : decode b_Bs_dropOldest 46 = .ok (.dup, 1) := by decide +kernel
theorem d_Bs_dropOldest_47 : decode b_Bs_dropOldest 47 = .ok (.getfield 22, 3) := by decide +kernel
theorem d_Bs_dropOldest_50 : decode b_Bs_dropOldest 50 = .ok (.iconst 1, 1) := by decide +kernel
theorem d_Bs_dropOldest_51 : decode b_Bs_dropOldest 51 = .ok (.iadd, 1) := by decide +kernel
theorem d_Bs_dropOldest_52 : decode b_Bs_dropOldest 52 = .ok (.putfield 22, 3) := by decide +kernel
theorem d_Bs_dropOldest_55 : decode b_Bs_dropOldest 55 = .ok (.goto (-35), 3) := by decide +kernel
theorem d_Bs_dropOldest_58 : decode b_Bs_dropOldest 58 = .ok (.return_, 1) := by decide +kernel
theorem d_Lg_purgeUpTo_0 : decode b_Lg_purgeUpTo 0 = .ok (.aload_n 0, 1) := by decide +kernel
theorem d_Lg_purgeUpTo_1 : decode b_Lg_purgeUpTo 1 = .ok (.aload_n 0, 1) := by decide +kernel
theorem d_Lg_purgeUpTo_2 : decode b_Lg_purgeUpTo 2 = .ok (.getfield 35, 3) := by decide +kernel
theorem d_Lg_purgeUpTo_5 : decode b_Lg_purgeUpTo 5 = .ok (.aload_n 0, 1) := by decide +kernel
theorem d_Lg_purgeUpTo_6 : decode b_Lg_purgeUpTo 6 = .ok (.getfield 32, 3) := by decide +kernel
theorem d_Lg_purgeUpTo_9 : decode b_Lg_purgeUpTo 9 = .ok (.iload_n 1, 1) := by decide +kernel
theorem d_Lg_purgeUpTo_10 : decode b_Lg_purgeUpTo 10 = .ok (.aload_n 0, 1) := by decide +kernel
theorem d_Lg_purgeUpTo_11 : decode b_Lg_purgeUpTo 11 = .ok (.getfield 38, 3) := by decide +kernel
theorem d_Lg_purgeUpTo_14 : decode b_Lg_purgeUpTo 14 = .ok (.idiv, 1) := by decide +kernel
theorem d_Lg_purgeUpTo_15 : decode b_Lg_purgeUpTo 15 = .ok (.invokestatic 49, 3) := by decide +kernel
theorem d_Lg_purgeUpTo_18 : decode b_Lg_purgeUpTo 18 = .ok (.invokestatic 59, 3) := by decide +kernel
theorem d_Lg_purgeUpTo_21 : decode b_Lg_purgeUpTo 21 = .ok (.putfield 35, 3) := by decide +kernel
theorem d_Lg_purgeUpTo_24 : decode b_Lg_purgeUpTo 24 = .ok (.return_, 1) := by decide +kernel
theorem d_Dk_tear_0 : decode b_Dk_tear 0 = .ok (.aload_n 0, 1) := by decide +kernel
theorem d_Dk_tear_1 : decode b_Dk_tear 1 = .ok (.getfield 15, 3) := by decide +kernel
theorem d_Dk_tear_4 : decode b_Dk_tear 4 = .ok (.iload_n 1, 1) := by decide +kernel
theorem d_Dk_tear_5 : decode b_Dk_tear 5 = .ok (.iconst 1, 1) := by decide +kernel
theorem d_Dk_tear_6 : decode b_Dk_tear 6 = .ok (.bastore, 1) := by decide +kernel
theorem d_Dk_tear_7 : decode b_Dk_tear 7 = .ok (.return_, 1) := by decide +kernel
theorem d_Bs_giveUp_0 : decode b_Bs_giveUp 0 = .ok (.aload_n 0, 1) := by decide +kernel
theorem d_Bs_giveUp_1 : decode b_Bs_giveUp 1 = .ok (.aconst_null, 1) := by decide +kernel
theorem d_Bs_giveUp_2 : decode b_Bs_giveUp 2 = .ok (.putfield 18, 3) := by decide +kernel
theorem d_Bs_giveUp_5 : decode b_Bs_giveUp 5 = .ok (.return_, 1) := by decide +kernel
theorem d_Dk_bestNumberOf_0 : decode b_Dk_bestNumberOf 0 = .ok (.aload_n 0, 1) := by decide +kernel
theorem d_Dk_bestNumberOf_1 : decode b_Dk_bestNumberOf 1 = .ok (.getfield 15, 3) := by decide +kernel
theorem d_Dk_bestNumberOf_4 : decode b_Dk_bestNumberOf 4 = .ok (.iload_n 1, 1) := by decide +kernel
theorem d_Dk_bestNumberOf_5 : decode b_Dk_bestNumberOf 5 = .ok (.baload, 1) := by decide +kernel
theorem d_Dk_bestNumberOf_6 : decode b_Dk_bestNumberOf 6 = .ok (.ifCond .eq (7), 3) := by decide +kernel
theorem d_Dk_bestNumberOf_9 : decode b_Dk_bestNumberOf 9 = .ok (.iconst 0, 1) := by decide +kernel
theorem d_Dk_bestNumberOf_10 : decode b_Dk_bestNumberOf 10 = .ok (.goto (9), 3) := by decide +kernel
theorem d_Dk_bestNumberOf_13 : decode b_Dk_bestNumberOf 13 = .ok (.aload_n 0, 1) := by decide +kernel
theorem d_Dk_bestNumberOf_14 : decode b_Dk_bestNumberOf 14 = .ok (.getfield 9, 3) := by decide +kernel
theorem d_Dk_bestNumberOf_17 : decode b_Dk_bestNumberOf 17 = .ok (.iload_n 1, 1) := by decide +kernel
theorem d_Dk_bestNumberOf_18 : decode b_Dk_bestNumberOf 18 = .ok (.iaload, 1) := by decide +kernel
theorem d_Dk_bestNumberOf_19 : decode b_Dk_bestNumberOf 19 = .ok (.ireturn, 1) := by decide +kernel
theorem d_Bs_bestNumberOf_0 : decode b_Bs_bestNumberOf 0 = .ok (.iconst 0, 1) := by decide +kernel
theorem d_Bs_bestNumberOf_1 : decode b_Bs_bestNumberOf 1 = .ok (.istore_n 2, 1) := by decide +kernel
theorem d_Bs_bestNumberOf_2 : decode b_Bs_bestNumberOf 2 = .ok (.aload_n 0, 1) := by decide +kernel
theorem d_Bs_bestNumberOf_3 : decode b_Bs_bestNumberOf 3 = .ok (.getfield 22, 3) := by decide +kernel
theorem d_Bs_bestNumberOf_6 : decode b_Bs_bestNumberOf 6 = .ok (.istore_n 3, 1) := by decide +kernel
theorem d_Bs_bestNumberOf_7 : decode b_Bs_bestNumberOf 7 = .ok (.iload_n 3, 1) := by decide +kernel
theorem d_Bs_bestNumberOf_8 : decode b_Bs_bestNumberOf 8 = .ok (.aload_n 0, 1) := by decide +kernel
theorem d_Bs_bestNumberOf_9 : decode b_Bs_bestNumberOf 9 = .ok (.invokevirtual 45, 3) := by decide +kernel
theorem d_Bs_bestNumberOf_12 : decode b_Bs_bestNumberOf 12 = .ok (.if_icmp .gt (23), 3) := by decide +kernel
theorem d_Bs_bestNumberOf_15 : decode b_Bs_bestNumberOf 15 = .ok (.iload_n 2, 1) := by decide +kernel
theorem d_Bs_bestNumberOf_16 : decode b_Bs_bestNumberOf 16 = .ok (.aload_n 0, 1) := by decide +kernel
theorem d_Bs_bestNumberOf_17 : decode b_Bs_bestNumberOf 17 = .ok (.iload_n 3, 1) := by decide +kernel
theorem d_Bs_bestNumberOf_18 : decode b_Bs_bestNumberOf 18 = .ok (.invokevirtual 82, 3) := by decide +kernel
theorem d_Bs_bestNumberOf_21 : decode b_Bs_bestNumberOf 21 = .ok (.iload_n 1, 1) := by decide +kernel
theorem d_Bs_bestNumberOf_22 : decode b_Bs_bestNumberOf 22 = .ok (.invokevirtual 110, 3) := by decide +kernel
theorem d_Bs_bestNumberOf_25 : decode b_Bs_bestNumberOf 25 = .ok (.invokestatic 113, 3) := by decide +kernel
theorem d_Bs_bestNumberOf_28 : decode b_Bs_bestNumberOf 28 = .ok (.istore_n 2, 1) := by decide +kernel
theorem d_Bs_bestNumberOf_29 : decode b_Bs_bestNumberOf 29 = .ok (.iinc 3 (1), 3) := by decide +kernel
theorem d_Bs_bestNumberOf_32 : decode b_Bs_bestNumberOf 32 = .ok (.goto (-25), 3) := by decide +kernel
theorem d_Bs_bestNumberOf_35 : decode b_Bs_bestNumberOf 35 = .ok (.iload_n 2, 1) := by decide +kernel
theorem d_Bs_bestNumberOf_36 : decode b_Bs_bestNumberOf 36 = .ok (.ireturn, 1) := by decide +kernel
theorem d_Bk_imageNumberOf_0 : decode b_Bk_imageNumberOf 0 = .ok (.aload_n 0, 1) := by decide +kernel
theorem d_Bk_imageNumberOf_1 : decode b_Bk_imageNumberOf 1 = .ok (.getfield 9, 3) := by decide +kernel
theorem d_Bk_imageNumberOf_4 : decode b_Bk_imageNumberOf 4 = .ok (.iload_n 1, 1) := by decide +kernel
theorem d_Bk_imageNumberOf_5 : decode b_Bk_imageNumberOf 5 = .ok (.iaload, 1) := by decide +kernel
theorem d_Bk_imageNumberOf_6 : decode b_Bk_imageNumberOf 6 = .ok (.ireturn, 1) := by decide +kernel
theorem d_Lg_changesAbove_0 : decode b_Lg_changesAbove 0 = .ok (.iconst 0, 1) := by decide +kernel
theorem d_Lg_changesAbove_1 : decode b_Lg_changesAbove 1 = .ok (.istore_n 3, 1) := by decide +kernel
theorem d_Lg_changesAbove_2 : decode b_Lg_changesAbove 2 = .ok (.iconst 1, 1) := by decide +kernel
theorem d_Lg_changesAbove_3 : decode b_Lg_changesAbove 3 = .ok (.istore 4, 2) := by decide +kernel
theorem d_Lg_changesAbove_5 : decode b_Lg_changesAbove 5 = .ok (.iload 4, 2) := by decide +kernel
theorem d_Lg_changesAbove_7 : decode b_Lg_changesAbove 7 = .ok (.iload_n 2, 1) := by decide +kernel
theorem d_Lg_changesAbove_8 : decode b_Lg_changesAbove 8 = .ok (.if_icmp .gt (40), 3) := by decide +kernel
theorem d_Lg_changesAbove_11 : decode b_Lg_changesAbove 11 = .ok (.aload_n 0, 1) := by decide +kernel
theorem d_Lg_changesAbove_12 : decode b_Lg_changesAbove 12 = .ok (.getfield 9, 3) := by decide +kernel
theorem d_Lg_changesAbove_15 : decode b_Lg_changesAbove 15 = .ok (.iload 4, 2) := by decide +kernel
theorem d_Lg_changesAbove_17 : decode b_Lg_changesAbove 17 = .ok (.iaload, 1) := by decide +kernel
theorem d_Lg_changesAbove_18 : decode b_Lg_changesAbove 18 = .ok (.istore 5, 2) := by decide +kernel
theorem d_Lg_changesAbove_20 : decode b_Lg_changesAbove 20 = .ok (.iload 5, 2) := by decide +kernel
theorem d_Lg_changesAbove_22 : decode b_Lg_changesAbove 22 = .ok (.invokestatic 62, 3) := by decide +kernel
theorem d_Lg_changesAbove_25 : decode b_Lg_changesAbove 25 = .ok (.ifCond .eq (17), 3) := by decide +kernel
theorem d_Lg_changesAbove_28 : decode b_Lg_changesAbove 28 = .ok (.iload 4, 2) := by decide +kernel
theorem d_Lg_changesAbove_30 : decode b_Lg_changesAbove 30 = .ok (.aload_n 1, 1) := by decide +kernel
theorem d_Lg_changesAbove_31 : decode b_Lg_changesAbove 31 = .ok (.iload 5, 2) := by decide +kernel
theorem d_Lg_changesAbove_33 : decode b_Lg_changesAbove 33 = .ok (.iconst 4, 1) := by decide +kernel
theorem d_Lg_changesAbove_34 : decode b_Lg_changesAbove 34 = .ok (.idiv, 1) := by decide +kernel
theorem d_Lg_changesAbove_35 : decode b_Lg_changesAbove 35 = .ok (.iaload, 1) := by decide +kernel
theorem d_Lg_changesAbove_36 : decode b_Lg_changesAbove 36 = .ok (.if_icmp .le (6), 3) := by decide +kernel
theorem d_Lg_changesAbove_39 : decode b_Lg_changesAbove 39 = .ok (.iinc 3 (1), 3) := by decide +kernel
theorem d_Lg_changesAbove_42 : decode b_Lg_changesAbove 42 = .ok (.iinc 4 (1), 3) := by decide +kernel
theorem d_Lg_changesAbove_45 : decode b_Lg_changesAbove 45 = .ok (.goto (-40), 3) := by decide +kernel
theorem d_Lg_changesAbove_48 : decode b_Lg_changesAbove 48 = .ok (.iload_n 3, 1) := by decide +kernel
theorem d_Lg_changesAbove_49 : decode b_Lg_changesAbove 49 = .ok (.ireturn, 1) := by decide +kernel
theorem d_Lg_commits_0 : decode b_Lg_commits 0 = .ok (.aload_n 0, 1) := by decide +kernel
theorem d_Lg_commits_1 : decode b_Lg_commits 1 = .ok (.getfield 29, 3) := by decide +kernel
theorem d_Lg_commits_4 : decode b_Lg_commits 4 = .ok (.ireturn, 1) := by decide +kernel
theorem d_Lg_recordOfCommit_0 : decode b_Lg_recordOfCommit 0 = .ok (.iconst 0, 1) := by decide +kernel
theorem d_Lg_recordOfCommit_1 : decode b_Lg_recordOfCommit 1 = .ok (.istore_n 2, 1) := by decide +kernel
theorem d_Lg_recordOfCommit_2 : decode b_Lg_recordOfCommit 2 = .ok (.iconst 1, 1) := by decide +kernel
theorem d_Lg_recordOfCommit_3 : decode b_Lg_recordOfCommit 3 = .ok (.istore_n 3, 1) := by decide +kernel
theorem d_Lg_recordOfCommit_4 : decode b_Lg_recordOfCommit 4 = .ok (.iload_n 3, 1) := by decide +kernel
theorem d_Lg_recordOfCommit_5 : decode b_Lg_recordOfCommit 5 = .ok (.aload_n 0, 1) := by decide +kernel
theorem d_Lg_recordOfCommit_6 : decode b_Lg_recordOfCommit 6 = .ok (.getfield 25, 3) := by decide +kernel
theorem d_Lg_recordOfCommit_9 : decode b_Lg_recordOfCommit 9 = .ok (.if_icmp .gt (29), 3) := by decide +kernel
theorem d_Lg_recordOfCommit_12 : decode b_Lg_recordOfCommit 12 = .ok (.aload_n 0, 1) := by decide +kernel
theorem d_Lg_recordOfCommit_13 : decode b_Lg_recordOfCommit 13 = .ok (.getfield 9, 3) := by decide +kernel
theorem d_Lg_recordOfCommit_16 : decode b_Lg_recordOfCommit 16 = .ok (.iload_n 3, 1) := by decide +kernel
theorem d_Lg_recordOfCommit_17 : decode b_Lg_recordOfCommit 17 = .ok (.iaload, 1) := by decide +kernel
theorem d_Lg_recordOfCommit_18 : decode b_Lg_recordOfCommit 18 = .ok (.iconst (-1), 1) := by decide +kernel
theorem d_Lg_recordOfCommit_19 : decode b_Lg_recordOfCommit 19 = .ok (.if_icmp .ne (6), 3) := by decide +kernel
theorem d_Lg_recordOfCommit_22 : decode b_Lg_recordOfCommit 22 = .ok (.iinc 2 (1), 3) := by decide +kernel
theorem d_Lg_recordOfCommit_25 : decode b_Lg_recordOfCommit 25 = .ok (.iload_n 2, 1) := by decide +kernel
theorem d_Lg_recordOfCommit_26 : decode b_Lg_recordOfCommit 26 = .ok (.iload_n 1, 1) := by decide +kernel
theorem d_Lg_recordOfCommit_27 : decode b_Lg_recordOfCommit 27 = .ok (.if_icmp .ne (5), 3) := by decide +kernel
theorem d_Lg_recordOfCommit_30 : decode b_Lg_recordOfCommit 30 = .ok (.iload_n 3, 1) := by decide +kernel
theorem d_Lg_recordOfCommit_31 : decode b_Lg_recordOfCommit 31 = .ok (.ireturn, 1) := by decide +kernel
theorem d_Lg_recordOfCommit_32 : decode b_Lg_recordOfCommit 32 = .ok (.iinc 3 (1), 3) := by decide +kernel
theorem d_Lg_recordOfCommit_35 : decode b_Lg_recordOfCommit 35 = .ok (.goto (-31), 3) := by decide +kernel
theorem d_Lg_recordOfCommit_38 : decode b_Lg_recordOfCommit 38 = .ok (.aload_n 0, 1) := by decide +kernel
theorem d_Lg_recordOfCommit_39 : decode b_Lg_recordOfCommit 39 = .ok (.getfield 25, 3) := by decide +kernel
theorem d_Lg_recordOfCommit_42 : decode b_Lg_recordOfCommit 42 = .ok (.ireturn, 1) := by decide +kernel
theorem d_Bs_latestEndedBefore_0 : decode b_Bs_latestEndedBefore 0 = .ok (.aload_n 0, 1) := by decide +kernel
theorem d_Bs_latestEndedBefore_1 : decode b_Bs_latestEndedBefore 1 = .ok (.invokevirtual 45, 3) := by decide +kernel
theorem d_Bs_latestEndedBefore_4 : decode b_Bs_latestEndedBefore 4 = .ok (.istore_n 2, 1) := by decide +kernel
theorem d_Bs_latestEndedBefore_5 : decode b_Bs_latestEndedBefore 5 = .ok (.iload_n 2, 1) := by decide +kernel
theorem d_Bs_latestEndedBefore_6 : decode b_Bs_latestEndedBefore 6 = .ok (.aload_n 0, 1) := by decide +kernel
theorem d_Bs_latestEndedBefore_7 : decode b_Bs_latestEndedBefore 7 = .ok (.getfield 22, 3) := by decide +kernel
theorem d_Bs_latestEndedBefore_10 : decode b_Bs_latestEndedBefore 10 = .ok (.if_icmp .lt (23), 3) := by decide +kernel
theorem d_Bs_latestEndedBefore_13 : decode b_Bs_latestEndedBefore 13 = .ok (.aload_n 0, 1) := by decide +kernel
theorem d_Bs_latestEndedBefore_14 : decode b_Bs_latestEndedBefore 14 = .ok (.iload_n 2, 1) := by decide +kernel
theorem d_Bs_latestEndedBefore_15 : decode b_Bs_latestEndedBefore 15 = .ok (.invokevirtual 82, 3) := by decide +kernel
theorem d_Bs_latestEndedBefore_18 : decode b_Bs_latestEndedBefore 18 = .ok (.getfield 92, 3) := by decide +kernel
theorem d_Bs_latestEndedBefore_21 : decode b_Bs_latestEndedBefore 21 = .ok (.iload_n 1, 1) := by decide +kernel
theorem d_Bs_latestEndedBefore_22 : decode b_Bs_latestEndedBefore 22 = .ok (.if_icmp .ge (5), 3) := by decide +kernel
theorem d_Bs_latestEndedBefore_25 : decode b_Bs_latestEndedBefore 25 = .ok (.iload_n 2, 1) := by decide +kernel
theorem d_Bs_latestEndedBefore_26 : decode b_Bs_latestEndedBefore 26 = .ok (.ireturn, 1) := by decide +kernel
theorem d_Bs_latestEndedBefore_27 : decode b_Bs_latestEndedBefore 27 = .ok (.iinc 2 (-1), 3) := by decide +kernel
theorem d_Bs_latestEndedBefore_30 : decode b_Bs_latestEndedBefore 30 = .ok (.goto (-25), 3) := by decide +kernel
theorem d_Bs_latestEndedBefore_33 : decode b_Bs_latestEndedBefore 33 = .ok (.iconst 0, 1) := by decide +kernel
theorem d_Bs_latestEndedBefore_34 : decode b_Bs_latestEndedBefore 34 = .ok (.ireturn, 1) := by decide +kernel
theorem d_Lg_purged_0 : decode b_Lg_purged 0 = .ok (.aload_n 0, 1) := by decide +kernel
theorem d_Lg_purged_1 : decode b_Lg_purged 1 = .ok (.getfield 35, 3) := by decide +kernel
theorem d_Lg_purged_4 : decode b_Lg_purged 4 = .ok (.ireturn, 1) := by decide +kernel
theorem d_Bs_imageInChain_0 : decode b_Bs_imageInChain 0 = .ok (.iload_n 1, 1) := by decide +kernel
theorem d_Bs_imageInChain_1 : decode b_Bs_imageInChain 1 = .ok (.istore_n 3, 1) := by decide +kernel
theorem d_Bs_imageInChain_2 : decode b_Bs_imageInChain 2 = .ok (.iload_n 3, 1) := by decide +kernel
theorem d_Bs_imageInChain_3 : decode b_Bs_imageInChain 3 = .ok (.aload_n 0, 1) := by decide +kernel
theorem d_Bs_imageInChain_4 : decode b_Bs_imageInChain 4 = .ok (.getfield 22, 3) := by decide +kernel
theorem d_Bs_imageInChain_7 : decode b_Bs_imageInChain 7 = .ok (.if_icmp .lt (31), 3) := by decide +kernel
theorem d_Bs_imageInChain_10 : decode b_Bs_imageInChain 10 = .ok (.aload_n 0, 1) := by decide +kernel
theorem d_Bs_imageInChain_11 : decode b_Bs_imageInChain 11 = .ok (.iload_n 3, 1) := by decide +kernel
theorem d_Bs_imageInChain_12 : decode b_Bs_imageInChain 12 = .ok (.invokevirtual 82, 3) := by decide +kernel
theorem d_Bs_imageInChain_15 : decode b_Bs_imageInChain 15 = .ok (.iload_n 2, 1) := by decide +kernel
theorem d_Bs_imageInChain_16 : decode b_Bs_imageInChain 16 = .ok (.invokevirtual 106, 3) := by decide +kernel
theorem d_Bs_imageInChain_19 : decode b_Bs_imageInChain 19 = .ok (.ifCond .eq (13), 3) := by decide +kernel
theorem d_Bs_imageInChain_22 : decode b_Bs_imageInChain 22 = .ok (.aload_n 0, 1) := by decide +kernel
theorem d_Bs_imageInChain_23 : decode b_Bs_imageInChain 23 = .ok (.iload_n 3, 1) := by decide +kernel
theorem d_Bs_imageInChain_24 : decode b_Bs_imageInChain 24 = .ok (.invokevirtual 82, 3) := by decide +kernel
theorem d_Bs_imageInChain_27 : decode b_Bs_imageInChain 27 = .ok (.iload_n 2, 1) := by decide +kernel
theorem d_Bs_imageInChain_28 : decode b_Bs_imageInChain 28 = .ok (.invokevirtual 110, 3) := by decide +kernel
theorem d_Bs_imageInChain_31 : decode b_Bs_imageInChain 31 = .ok (.ireturn, 1) := by decide +kernel
theorem d_Bs_imageInChain_32 : decode b_Bs_imageInChain 32 = .ok (.iinc 3 (-1), 3) := by decide +kernel
theorem d_Bs_imageInChain_35 : decode b_Bs_imageInChain 35 = .ok (.goto (-33), 3) := by decide +kernel
theorem d_Bs_imageInChain_38 : decode b_Bs_imageInChain 38 = .ok (.iconst 0, 1) := by decide +kernel
theorem d_Bs_imageInChain_39 : decode b_Bs_imageInChain 39 = .ok (.ireturn, 1) := by decide +kernel
theorem d_Bk_hasImageOf_0 : decode b_Bk_hasImageOf 0 = .ok (.aload_n 0, 1) := by decide +kernel
theorem d_Bk_hasImageOf_1 : decode b_Bk_hasImageOf 1 = .ok (.getfield 9, 3) := by decide +kernel
theorem d_Bk_hasImageOf_4 : decode b_Bk_hasImageOf 4 = .ok (.iload_n 1, 1) := by decide +kernel
theorem d_Bk_hasImageOf_5 : decode b_Bk_hasImageOf 5 = .ok (.iaload, 1) := by decide +kernel
theorem d_Bk_hasImageOf_6 : decode b_Bk_hasImageOf 6 = .ok (.iconst (-1), 1) := by decide +kernel
theorem d_Bk_hasImageOf_7 : decode b_Bk_hasImageOf 7 = .ok (.if_icmp .eq (7), 3) := by decide +kernel
theorem d_Bk_hasImageOf_10 : decode b_Bk_hasImageOf 10 = .ok (.iconst 1, 1) := by decide +kernel
theorem d_Bk_hasImageOf_11 : decode b_Bk_hasImageOf 11 = .ok (.goto (4), 3) := by decide +kernel
theorem d_Bk_hasImageOf_14 : decode b_Bk_hasImageOf 14 = .ok (.iconst 0, 1) := by decide +kernel
theorem d_Bk_hasImageOf_15 : decode b_Bk_hasImageOf 15 = .ok (.ireturn, 1) := by decide +kernel
theorem d_Lg_tableUpTo_0 : decode b_Lg_tableUpTo 0 = .ok (.aload_n 2, 1) := by decide +kernel
theorem d_Lg_tableUpTo_1 : decode b_Lg_tableUpTo 1 = .ok (.ldc2_w 41, 3) := by decide +kernel
theorem d_Lg_tableUpTo_4 : decode b_Lg_tableUpTo 4 = .ok (.invokestatic 43, 3) := by decide +kernel
theorem d_Lg_tableUpTo_7 : decode b_Lg_tableUpTo 7 = .ok (.iconst 1, 1) := by decide +kernel
theorem d_Lg_tableUpTo_8 : decode b_Lg_tableUpTo 8 = .ok (.istore_n 3, 1) := by decide +kernel
theorem d_Lg_tableUpTo_9 : decode b_Lg_tableUpTo 9 = .ok (.iload_n 3, 1) := by decide +kernel
theorem d_Lg_tableUpTo_10 : decode b_Lg_tableUpTo 10 = .ok (.iload_n 1, 1) := by decide +kernel
theorem d_Lg_tableUpTo_11 : decode b_Lg_tableUpTo 11 = .ok (.if_icmp .gt (35), 3) := by decide +kernel
theorem d_Lg_tableUpTo_14 : decode b_Lg_tableUpTo 14 = .ok (.aload_n 0, 1) := by decide +kernel
theorem d_Lg_tableUpTo_15 : decode b_Lg_tableUpTo 15 = .ok (.getfield 9, 3) := by decide +kernel
theorem d_Lg_tableUpTo_18 : decode b_Lg_tableUpTo 18 = .ok (.iload_n 3, 1) := by decide +kernel
theorem d_Lg_tableUpTo_19 : decode b_Lg_tableUpTo 19 = .ok (.iaload, 1) := by decide +kernel
theorem d_Lg_tableUpTo_20 : decode b_Lg_tableUpTo 20 = .ok (.istore 4, 2) := by decide +kernel
theorem d_Lg_tableUpTo_22 : decode b_Lg_tableUpTo 22 = .ok (.iload 4, 2) := by decide +kernel
theorem d_Lg_tableUpTo_24 : decode b_Lg_tableUpTo 24 = .ok (.invokestatic 62, 3) := by decide +kernel
theorem d_Lg_tableUpTo_27 : decode b_Lg_tableUpTo 27 = .ok (.ifCond .eq (13), 3) := by decide +kernel
theorem d_Lg_tableUpTo_30 : decode b_Lg_tableUpTo 30 = .ok (.aload_n 2, 1) := by decide +kernel
theorem d_Lg_tableUpTo_31 : decode b_Lg_tableUpTo 31 = .ok (.iload 4, 2) := by decide +kernel
theorem d_Lg_tableUpTo_33 : decode b_Lg_tableUpTo 33 = .ok (.aload_n 0, 1) := by decide +kernel
theorem d_Lg_tableUpTo_34 : decode b_Lg_tableUpTo 34 = .ok (.getfield 15, 3) := by decide +kernel
theorem d_Lg_tableUpTo_37 : decode b_Lg_tableUpTo 37 = .ok (.iload_n 3, 1) := by decide +kernel
theorem d_Lg_tableUpTo_38 : decode b_Lg_tableUpTo 38 = .ok (.laload, 1) := by decide +kernel
theorem d_Lg_tableUpTo_39 : decode b_Lg_tableUpTo 39 = .ok (.lastore, 1) := by decide +kernel
theorem d_Lg_tableUpTo_40 : decode b_Lg_tableUpTo 40 = .ok (.iinc 3 (1), 3) := by decide +kernel
theorem d_Lg_tableUpTo_43 : decode b_Lg_tableUpTo 43 = .ok (.goto (-34), 3) := by decide +kernel
theorem d_Lg_tableUpTo_46 : decode b_Lg_tableUpTo 46 = .ok (.return_, 1) := by decide +kernel
theorem d_Dk_numberOf_0 : decode b_Dk_numberOf 0 = .ok (.aload_n 0, 1) := by decide +kernel
theorem d_Dk_numberOf_1 : decode b_Dk_numberOf 1 = .ok (.getfield 9, 3) := by decide +kernel
theorem d_Dk_numberOf_4 : decode b_Dk_numberOf 4 = .ok (.iload_n 1, 1) := by decide +kernel
theorem d_Dk_numberOf_5 : decode b_Dk_numberOf 5 = .ok (.iaload, 1) := by decide +kernel
theorem d_Dk_numberOf_6 : decode b_Dk_numberOf 6 = .ok (.ireturn, 1) := by decide +kernel
theorem d_Dk_isReadable_0 : decode b_Dk_isReadable 0 = .ok (.aload_n 0, 1) := by decide +kernel
theorem d_Dk_isReadable_1 : decode b_Dk_isReadable 1 = .ok (.getfield 15, 3) := by decide +kernel
theorem d_Dk_isReadable_4 : decode b_Dk_isReadable 4 = .ok (.iload_n 1, 1) := by decide +kernel
theorem d_Dk_isReadable_5 : decode b_Dk_isReadable 5 = .ok (.baload, 1) := by decide +kernel
theorem d_Dk_isReadable_6 : decode b_Dk_isReadable 6 = .ok (.ifCond .ne (7), 3) := by decide +kernel
theorem d_Dk_isReadable_9 : decode b_Dk_isReadable 9 = .ok (.iconst 1, 1) := by decide +kernel
theorem d_Dk_isReadable_10 : decode b_Dk_isReadable 10 = .ok (.goto (4), 3) := by decide +kernel
theorem d_Dk_isReadable_13 : decode b_Dk_isReadable 13 = .ok (.iconst 0, 1) := by decide +kernel
theorem d_Dk_isReadable_14 : decode b_Dk_isReadable 14 = .ok (.ireturn, 1) := by decide +kernel
theorem d_Bs_keptImagesOf_0 : decode b_Bs_keptImagesOf 0 = .ok (.iconst 0, 1) := by decide +kernel
theorem d_Bs_keptImagesOf_1 : decode b_Bs_keptImagesOf 1 = .ok (.istore_n 2, 1) := by decide +kernel
theorem d_Bs_keptImagesOf_2 : decode b_Bs_keptImagesOf 2 = .ok (.aload_n 0, 1) := by decide +kernel
theorem d_Bs_keptImagesOf_3 : decode b_Bs_keptImagesOf 3 = .ok (.getfield 22, 3) := by decide +kernel
theorem d_Bs_keptImagesOf_6 : decode b_Bs_keptImagesOf 6 = .ok (.istore_n 3, 1) := by decide +kernel
theorem d_Bs_keptImagesOf_7 : decode b_Bs_keptImagesOf 7 = .ok (.iload_n 3, 1) := by decide +kernel
theorem d_Bs_keptImagesOf_8 : decode b_Bs_keptImagesOf 8 = .ok (.aload_n 0, 1) := by decide +kernel
theorem d_Bs_keptImagesOf_9 : decode b_Bs_keptImagesOf 9 = .ok (.invokevirtual 45, 3) := by decide +kernel
theorem d_Bs_keptImagesOf_12 : decode b_Bs_keptImagesOf 12 = .ok (.if_icmp .gt (24), 3) := by decide +kernel
theorem d_Bs_keptImagesOf_15 : decode b_Bs_keptImagesOf 15 = .ok (.aload_n 0, 1) := by decide +kernel
theorem d_Bs_keptImagesOf_16 : decode b_Bs_keptImagesOf 16 = .ok (.iload_n 3, 1) := by decide +kernel
theorem d_Bs_keptImagesOf_17 : decode b_Bs_keptImagesOf 17 = .ok (.invokevirtual 82, 3) := by decide +kernel
theorem d_Bs_keptImagesOf_20 : decode b_Bs_keptImagesOf 20 = .ok (.iload_n 1, 1) := by decide +kernel
theorem d_Bs_keptImagesOf_21 : decode b_Bs_keptImagesOf 21 = .ok (.invokevirtual 106, 3) := by decide +kernel
theorem d_Bs_keptImagesOf_24 : decode b_Bs_keptImagesOf 24 = .ok (.ifCond .eq (6), 3) := by decide +kernel
theorem d_Bs_keptImagesOf_27 : decode b_Bs_keptImagesOf 27 = .ok (.iinc 2 (1), 3) := by decide +kernel
theorem d_Bs_keptImagesOf_30 : decode b_Bs_keptImagesOf 30 = .ok (.iinc 3 (1), 3) := by decide +kernel
theorem d_Bs_keptImagesOf_33 : decode b_Bs_keptImagesOf 33 = .ok (.goto (-26), 3) := by decide +kernel
theorem d_Bs_keptImagesOf_36 : decode b_Bs_keptImagesOf 36 = .ok (.iload_n 2, 1) := by decide +kernel
theorem d_Bs_keptImagesOf_37 : decode b_Bs_keptImagesOf 37 = .ok (.ireturn, 1) := by decide +kernel
theorem d_Bs_isKept_0 : decode b_Bs_isKept 0 = .ok (.iload_n 1, 1) := by decide +kernel
theorem d_Bs_isKept_1 : decode b_Bs_isKept 1 = .ok (.aload_n 0, 1) := by decide +kernel
theorem d_Bs_isKept_2 : decode b_Bs_isKept 2 = .ok (.getfield 22, 3) := by decide +kernel
theorem d_Bs_isKept_5 : decode b_Bs_isKept 5 = .ok (.if_icmp .lt (7), 3) := by decide +kernel
theorem d_Bs_isKept_8 : decode b_Bs_isKept 8 = .ok (.iconst 1, 1) := by decide +kernel
theorem d_Bs_isKept_9 : decode b_Bs_isKept 9 = .ok (.goto (4), 3) := by decide +kernel
theorem d_Bs_isKept_12 : decode b_Bs_isKept 12 = .ok (.iconst 0, 1) := by decide +kernel
theorem d_Bs_isKept_13 : decode b_Bs_isKept 13 = .ok (.ireturn, 1) := by decide +kernel
theorem d_Lg_online_0 : decode b_Lg_online 0 = .ok (.aload_n 0, 1) := by decide +kernel
theorem d_Lg_online_1 : decode b_Lg_online 1 = .ok (.getfield 25, 3) := by decide +kernel
theorem d_Lg_online_4 : decode b_Lg_online 4 = .ok (.aload_n 0, 1) := by decide +kernel
theorem d_Lg_online_5 : decode b_Lg_online 5 = .ok (.getfield 38, 3) := by decide +kernel
theorem d_Lg_online_8 : decode b_Lg_online 8 = .ok (.iadd, 1) := by decide +kernel
theorem d_Lg_online_9 : decode b_Lg_online 9 = .ok (.iconst 1, 1) := by decide +kernel
theorem d_Lg_online_10 : decode b_Lg_online 10 = .ok (.isub, 1) := by decide +kernel
theorem d_Lg_online_11 : decode b_Lg_online 11 = .ok (.aload_n 0, 1) := by decide +kernel
theorem d_Lg_online_12 : decode b_Lg_online 12 = .ok (.getfield 38, 3) := by decide +kernel
theorem d_Lg_online_15 : decode b_Lg_online 15 = .ok (.idiv, 1) := by decide +kernel
theorem d_Lg_online_16 : decode b_Lg_online 16 = .ok (.istore_n 1, 1) := by decide +kernel
theorem d_Lg_online_17 : decode b_Lg_online 17 = .ok (.iload_n 1, 1) := by decide +kernel
theorem d_Lg_online_18 : decode b_Lg_online 18 = .ok (.aload_n 0, 1) := by decide +kernel
theorem d_Lg_online_19 : decode b_Lg_online 19 = .ok (.getfield 32, 3) := by decide +kernel
theorem d_Lg_online_22 : decode b_Lg_online 22 = .ok (.isub, 1) := by decide +kernel
theorem d_Lg_online_23 : decode b_Lg_online 23 = .ok (.ireturn, 1) := by decide +kernel
theorem d_Lg_archived_0 : decode b_Lg_archived 0 = .ok (.aload_n 0, 1) := by decide +kernel
theorem d_Lg_archived_1 : decode b_Lg_archived 1 = .ok (.getfield 32, 3) := by decide +kernel
theorem d_Lg_archived_4 : decode b_Lg_archived 4 = .ok (.ireturn, 1) := by decide +kernel
theorem d_Bs_stillToVisit_0 : decode b_Bs_stillToVisit 0 = .ok (.aload_n 0, 1) := by decide +kernel
theorem d_Bs_stillToVisit_1 : decode b_Bs_stillToVisit 1 = .ok (.getfield 18, 3) := by decide +kernel
theorem d_Bs_stillToVisit_4 : decode b_Bs_stillToVisit 4 = .ok (.ifnonnull (8), 3) := by decide +kernel
theorem d_Bs_stillToVisit_7 : decode b_Bs_stillToVisit 7 = .ok (.bipush (-2), 2) := by decide +kernel
theorem d_Bs_stillToVisit_9 : decode b_Bs_stillToVisit 9 = .ok (.goto (13), 3) := by decide +kernel
theorem d_Bs_stillToVisit_12 : decode b_Bs_stillToVisit 12 = .ok (.bipush (8), 2) := by decide +kernel
theorem d_Bs_stillToVisit_14 : decode b_Bs_stillToVisit 14 = .ok (.aload_n 0, 1) := by decide +kernel
theorem d_Bs_stillToVisit_15 : decode b_Bs_stillToVisit 15 = .ok (.getfield 18, 3) := by decide +kernel
theorem d_Bs_stillToVisit_18 : decode b_Bs_stillToVisit 18 = .ok (.getfield 42, 3) := by decide +kernel
theorem d_Bs_stillToVisit_21 : decode b_Bs_stillToVisit 21 = .ok (.isub, 1) := by decide +kernel
theorem d_Bs_stillToVisit_22 : decode b_Bs_stillToVisit 22 = .ok (.ireturn, 1) := by decide +kernel
