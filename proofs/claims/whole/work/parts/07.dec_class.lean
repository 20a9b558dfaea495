theorem d_Pr_init_0 : decode b_Pr_init 0 = .ok (.aload_n 0, 1) := by decide +kernel
theorem d_Pr_init_1 : decode b_Pr_init 1 = .ok (.invokespecial 1, 3) := by decide +kernel
theorem d_Pr_init_4 : decode b_Pr_init 4 = .ok (.aload_n 0, 1) := by decide +kernel
theorem d_Pr_init_5 : decode b_Pr_init 5 = .ok (.new 7, 3) := by decide +kernel
theorem d_Pr_init_8 : decode b_Pr_init 8 = .ok (.dup, 1) := by decide +kernel
theorem d_Pr_init_9 : decode b_Pr_init 9 = .ok (.invokespecial 9, 3) := by decide +kernel
theorem d_Pr_init_12 : decode b_Pr_init 12 = .ok (.putfield 10, 3) := by decide +kernel
theorem d_Pr_init_15 : decode b_Pr_init 15 = .ok (.aload_n 0, 1) := by decide +kernel
theorem d_Pr_init_16 : decode b_Pr_init 16 = .ok (.new 16, 3) := by decide +kernel
theorem d_Pr_init_19 : decode b_Pr_init 19 = .ok (.dup, 1) := by decide +kernel
theorem d_Pr_init_20 : decode b_Pr_init 20 = .ok (.invokespecial 18, 3) := by decide +kernel
theorem d_Pr_init_23 : decode b_Pr_init 23 = .ok (.putfield 19, 3) := by decide +kernel
theorem d_Pr_init_26 : decode b_Pr_init 26 = .ok (.aload_n 0, 1) := by decide +kernel
theorem d_Pr_init_27 : decode b_Pr_init 27 = .ok (.bipush (32), 2) := by decide +kernel
theorem d_Pr_init_29 : decode b_Pr_init 29 = .ok (.newarray .long, 2) := by decide +kernel
theorem d_Pr_init_31 : decode b_Pr_init 31 = .ok (.putfield 23, 3) := by decide +kernel
theorem d_Pr_init_34 : decode b_Pr_init 34 = .ok (.aload_n 0, 1) := by decide +kernel
theorem d_Pr_init_35 : decode b_Pr_init 35 = .ok (.iconst 0, 1) := by decide +kernel
theorem d_Pr_init_36 : decode b_Pr_init 36 = .ok (.putfield 27, 3) := by decide +kernel
theorem d_Pr_init_39 : decode b_Pr_init 39 = .ok (.aload_n 0, 1) := by decide +kernel
theorem d_Pr_init_40 : decode b_Pr_init 40 = .ok (.bipush (8), 2) := by decide +kernel
theorem d_Pr_init_42 : decode b_Pr_init 42 = .ok (.newarray .int, 2) := by decide +kernel
theorem d_Pr_init_44 : decode b_Pr_init 44 = .ok (.putfield 31, 3) := by decide +kernel
theorem d_Pr_init_47 : decode b_Pr_init 47 = .ok (.aload_n 0, 1) := by decide +kernel
theorem d_Pr_init_48 : decode b_Pr_init 48 = .ok (.new 35, 3) := by decide +kernel
theorem d_Pr_init_51 : decode b_Pr_init 51 = .ok (.dup, 1) := by decide +kernel
theorem d_Pr_init_52 : decode b_Pr_init 52 = .ok (.iconst 4, 1) := by decide +kernel
theorem d_Pr_init_53 : decode b_Pr_init 53 = .ok (.bipush (8), 2) := by decide +kernel
theorem d_Pr_init_55 : decode b_Pr_init 55 = .ok (.iload_n 1, 1) := by decide +kernel
theorem d_Pr_init_56 : decode b_Pr_init 56 = .ok (.invokestatic 37, 3) := by decide +kernel
theorem d_Pr_init_59 : decode b_Pr_init 59 = .ok (.invokestatic 43, 3) := by decide +kernel
theorem d_Pr_init_62 : decode b_Pr_init 62 = .ok (.invokespecial 46, 3) := by decide +kernel
theorem d_Pr_init_65 : decode b_Pr_init 65 = .ok (.putfield 49, 3) := by decide +kernel
theorem d_Pr_init_68 : decode b_Pr_init 68 = .ok (.aload_n 0, 1) := by decide +kernel
theorem d_Pr_init_69 : decode b_Pr_init 69 = .ok (.new 53, 3) := by decide +kernel
theorem d_Pr_init_72 : decode b_Pr_init 72 = .ok (.dup, 1) := by decide +kernel
theorem d_Pr_init_73 : decode b_Pr_init 73 = .ok (.iconst 1, 1) := by decide +kernel
theorem d_Pr_init_74 : decode b_Pr_init 74 = .ok (.iconst 3, 1) := by decide +kernel
theorem d_Pr_init_75 : decode b_Pr_init 75 = .ok (.iload_n 2, 1) := by decide +kernel
theorem d_Pr_init_76 : decode b_Pr_init 76 = .ok (.invokestatic 37, 3) := by decide +kernel
theorem d_Pr_init_79 : decode b_Pr_init 79 = .ok (.invokestatic 43, 3) := by decide +kernel
theorem d_Pr_init_82 : decode b_Pr_init 82 = .ok (.invokespecial 55, 3) := by decide +kernel
theorem d_Pr_init_85 : decode b_Pr_init 85 = .ok (.putfield 56, 3) := by decide +kernel
theorem d_Pr_init_88 : decode b_Pr_init 88 = .ok (.return_, 1) := by decide +kernel
theorem d_Pr_begin_0 : decode b_Pr_begin 0 = .ok (.aload_n 0, 1) := by decide +kernel
theorem d_Pr_begin_1 : decode b_Pr_begin 1 = .ok (.getfield 10, 3) := by decide +kernel
theorem d_Pr_begin_4 : decode b_Pr_begin 4 = .ok (.invokevirtual 60, 3) := by decide +kernel
theorem d_Pr_begin_7 : decode b_Pr_begin 7 = .ok (.ifCond .eq (5), 3) := by decide +kernel
theorem d_Pr_begin_10 : decode b_Pr_begin 10 = .ok (.iconst (-1), 1) := by decide +kernel
theorem d_Pr_begin_11 : decode b_Pr_begin 11 = .ok (.ireturn, 1) := by decide +kernel
theorem d_Pr_begin_12 : decode b_Pr_begin 12 = .ok (.aload_n 0, 1) := by decide +kernel
theorem d_Pr_begin_13 : decode b_Pr_begin 13 = .ok (.getfield 10, 3) := by decide +kernel
theorem d_Pr_begin_16 : decode b_Pr_begin 16 = .ok (.invokevirtual 64, 3) := by decide +kernel
theorem d_Pr_begin_19 : decode b_Pr_begin 19 = .ok (.iconst 0, 1) := by decide +kernel
theorem d_Pr_begin_20 : decode b_Pr_begin 20 = .ok (.ireturn, 1) := by decide +kernel
theorem d_Pr_put_0 : decode b_Pr_put 0 = .ok (.iload_n 1, 1) := by decide +kernel
theorem d_Pr_put_1 : decode b_Pr_put 1 = .ok (.invokestatic 67, 3) := by decide +kernel
theorem d_Pr_put_4 : decode b_Pr_put 4 = .ok (.ifCond .eq (13), 3) := by decide +kernel
theorem d_Pr_put_7 : decode b_Pr_put 7 = .ok (.aload_n 0, 1) := by decide +kernel
theorem d_Pr_put_8 : decode b_Pr_put 8 = .ok (.getfield 10, 3) := by decide +kernel
theorem d_Pr_put_11 : decode b_Pr_put 11 = .ok (.invokevirtual 71, 3) := by decide +kernel
theorem d_Pr_put_14 : decode b_Pr_put 14 = .ok (.ifCond .ne (5), 3) := by decide +kernel
theorem d_Pr_put_17 : decode b_Pr_put 17 = .ok (.iconst (-1), 1) := by decide +kernel
theorem d_Pr_put_18 : decode b_Pr_put 18 = .ok (.ireturn, 1) := by decide +kernel
theorem d_Pr_put_19 : decode b_Pr_put 19 = .ok (.aload_n 0, 1) := by decide +kernel
theorem d_Pr_put_20 : decode b_Pr_put 20 = .ok (.getfield 10, 3) := by decide +kernel
theorem d_Pr_put_23 : decode b_Pr_put 23 = .ok (.invokevirtual 74, 3) := by decide +kernel
theorem d_Pr_put_26 : decode b_Pr_put 26 = .ok (.iconst 1, 1) := by decide +kernel
theorem d_Pr_put_27 : decode b_Pr_put 27 = .ok (.iadd, 1) := by decide +kernel
theorem d_Pr_put_28 : decode b_Pr_put 28 = .ok (.iconst 2, 1) := by decide +kernel
theorem d_Pr_put_29 : decode b_Pr_put 29 = .ok (.iadd, 1) := by decide +kernel
theorem d_Pr_put_30 : decode b_Pr_put 30 = .ok (.istore 4, 2) := by decide +kernel
theorem d_Pr_put_32 : decode b_Pr_put 32 = .ok (.aload_n 0, 1) := by decide +kernel
theorem d_Pr_put_33 : decode b_Pr_put 33 = .ok (.getfield 49, 3) := by decide +kernel
theorem d_Pr_put_36 : decode b_Pr_put 36 = .ok (.invokevirtual 78, 3) := by decide +kernel
theorem d_Pr_put_39 : decode b_Pr_put 39 = .ok (.iload 4, 2) := by decide +kernel
theorem d_Pr_put_41 : decode b_Pr_put 41 = .ok (.if_icmp .ge (6), 3) := by decide +kernel
theorem d_Pr_put_44 : decode b_Pr_put 44 = .ok (.bipush (-2), 2) := by decide +kernel
theorem d_Pr_put_46 : decode b_Pr_put 46 = .ok (.ireturn, 1) := by decide +kernel
theorem d_Pr_put_47 : decode b_Pr_put 47 = .ok (.aload_n 0, 1) := by decide +kernel
theorem d_Pr_put_48 : decode b_Pr_put 48 = .ok (.getfield 10, 3) := by decide +kernel
theorem d_Pr_put_51 : decode b_Pr_put 51 = .ok (.iload_n 1, 1) := by decide +kernel
theorem d_Pr_put_52 : decode b_Pr_put 52 = .ok (.aload_n 0, 1) := by decide +kernel
theorem d_Pr_put_53 : decode b_Pr_put 53 = .ok (.getfield 49, 3) := by decide +kernel
theorem d_Pr_put_56 : decode b_Pr_put 56 = .ok (.iload_n 1, 1) := by decide +kernel
theorem d_Pr_put_57 : decode b_Pr_put 57 = .ok (.invokevirtual 81, 3) := by decide +kernel
theorem d_Pr_put_60 : decode b_Pr_put 60 = .ok (.invokevirtual 85, 3) := by decide +kernel
theorem d_Pr_put_63 : decode b_Pr_put 63 = .ok (.aload_n 0, 1) := by decide +kernel
theorem d_Pr_put_64 : decode b_Pr_put 64 = .ok (.getfield 49, 3) := by decide +kernel
theorem d_Pr_put_67 : decode b_Pr_put 67 = .ok (.iload_n 1, 1) := by decide +kernel
theorem d_Pr_put_68 : decode b_Pr_put 68 = .ok (.iload_n 3, 1) := by decide +kernel
theorem d_Pr_put_69 : decode b_Pr_put 69 = .ok (.ifCond .eq (8), 3) := by decide +kernel
theorem d_Pr_put_72 : decode b_Pr_put 72 = .ok (.iload_n 2, 1) := by decide +kernel
theorem d_Pr_put_73 : decode b_Pr_put 73 = .ok (.i2l, 1) := by decide +kernel
theorem d_Pr_put_74 : decode b_Pr_put 74 = .ok (.goto (6), 3) := by decide +kernel
theorem d_Pr_put_77 : decode b_Pr_put 77 = .ok (.ldc2_w 89, 3) := by decide +kernel
theorem d_Pr_put_80 : decode b_Pr_put 80 = .ok (.invokevirtual 91, 3) := by decide +kernel
theorem d_Pr_put_83 : decode b_Pr_put 83 = .ok (.ireturn, 1) := by decide +kernel
theorem d_Pr_isKey_0 : decode b_Pr_isKey 0 = .ok (.iload_n 0, 1) := by decide +kernel
theorem d_Pr_isKey_1 : decode b_Pr_isKey 1 = .ok (.ifCond .lt (13), 3) := by decide +kernel
theorem d_Pr_isKey_4 : decode b_Pr_isKey 4 = .ok (.iload_n 0, 1) := by decide +kernel
theorem d_Pr_isKey_5 : decode b_Pr_isKey 5 = .ok (.bipush (32), 2) := by decide +kernel
theorem d_Pr_isKey_7 : decode b_Pr_isKey 7 = .ok (.if_icmp .ge (7), 3) := by decide +kernel
theorem d_Pr_isKey_10 : decode b_Pr_isKey 10 = .ok (.iconst 1, 1) := by decide +kernel
theorem d_Pr_isKey_11 : decode b_Pr_isKey 11 = .ok (.goto (4), 3) := by decide +kernel
theorem d_Pr_isKey_14 : decode b_Pr_isKey 14 = .ok (.iconst 0, 1) := by decide +kernel
theorem d_Pr_isKey_15 : decode b_Pr_isKey 15 = .ok (.ireturn, 1) := by decide +kernel
theorem d_Pr_commit_0 : decode b_Pr_commit 0 = .ok (.aload_n 0, 1) := by decide +kernel
theorem d_Pr_commit_1 : decode b_Pr_commit 1 = .ok (.getfield 10, 3) := by decide +kernel
theorem d_Pr_commit_4 : decode b_Pr_commit 4 = .ok (.invokevirtual 60, 3) := by decide +kernel
theorem d_Pr_commit_7 : decode b_Pr_commit 7 = .ok (.ifCond .ne (5), 3) := by decide +kernel
theorem d_Pr_commit_10 : decode b_Pr_commit 10 = .ok (.iconst (-1), 1) := by decide +kernel
theorem d_Pr_commit_11 : decode b_Pr_commit 11 = .ok (.ireturn, 1) := by decide +kernel
theorem d_Pr_commit_12 : decode b_Pr_commit 12 = .ok (.aload_n 0, 1) := by decide +kernel
theorem d_Pr_commit_13 : decode b_Pr_commit 13 = .ok (.getfield 49, 3) := by decide +kernel
theorem d_Pr_commit_16 : decode b_Pr_commit 16 = .ok (.invokevirtual 78, 3) := by decide +kernel
theorem d_Pr_commit_19 : decode b_Pr_commit 19 = .ok (.ifCond .ne (6), 3) := by decide +kernel
theorem d_Pr_commit_22 : decode b_Pr_commit 22 = .ok (.bipush (-2), 2) := by decide +kernel
theorem d_Pr_commit_24 : decode b_Pr_commit 24 = .ok (.ireturn, 1) := by decide +kernel
theorem d_Pr_commit_25 : decode b_Pr_commit 25 = .ok (.aload_n 0, 1) := by decide +kernel
theorem d_Pr_commit_26 : decode b_Pr_commit 26 = .ok (.getfield 10, 3) := by decide +kernel
theorem d_Pr_commit_29 : decode b_Pr_commit 29 = .ok (.invokevirtual 95, 3) := by decide +kernel
theorem d_Pr_commit_32 : decode b_Pr_commit 32 = .ok (.aload_n 0, 1) := by decide +kernel
theorem d_Pr_commit_33 : decode b_Pr_commit 33 = .ok (.getfield 49, 3) := by decide +kernel
theorem d_Pr_commit_36 : decode b_Pr_commit 36 = .ok (.invokevirtual 98, 3) := by decide +kernel
theorem d_Pr_commit_39 : decode b_Pr_commit 39 = .ok (.ireturn, 1) := by decide +kernel
theorem d_Pr_abort_0 : decode b_Pr_abort 0 = .ok (.aload_n 0, 1) := by decide +kernel
theorem d_Pr_abort_1 : decode b_Pr_abort 1 = .ok (.getfield 10, 3) := by decide +kernel
theorem d_Pr_abort_4 : decode b_Pr_abort 4 = .ok (.invokevirtual 60, 3) := by decide +kernel
theorem d_Pr_abort_7 : decode b_Pr_abort 7 = .ok (.ifCond .ne (5), 3) := by decide +kernel
theorem d_Pr_abort_10 : decode b_Pr_abort 10 = .ok (.iconst (-1), 1) := by decide +kernel
theorem d_Pr_abort_11 : decode b_Pr_abort 11 = .ok (.ireturn, 1) := by decide +kernel
theorem d_Pr_abort_12 : decode b_Pr_abort 12 = .ok (.aload_n 0, 1) := by decide +kernel
theorem d_Pr_abort_13 : decode b_Pr_abort 13 = .ok (.getfield 10, 3) := by decide +kernel
theorem d_Pr_abort_16 : decode b_Pr_abort 16 = .ok (.invokevirtual 74, 3) := by decide +kernel
theorem d_Pr_abort_19 : decode b_Pr_abort 19 = .ok (.istore_n 1, 1) := by decide +kernel
theorem d_Pr_abort_20 : decode b_Pr_abort 20 = .ok (.aload_n 0, 1) := by decide +kernel
theorem d_Pr_abort_21 : decode b_Pr_abort 21 = .ok (.getfield 10, 3) := by decide +kernel
theorem d_Pr_abort_24 : decode b_Pr_abort 24 = .ok (.aload_n 0, 1) := by decide +kernel
theorem d_Pr_abort_25 : decode b_Pr_abort 25 = .ok (.getfield 49, 3) := by decide +kernel
theorem d_Pr_abort_28 : decode b_Pr_abort 28 = .ok (.invokevirtual 101, 3) := by decide +kernel
theorem d_Pr_abort_31 : decode b_Pr_abort 31 = .ok (.iload_n 1, 1) := by decide +kernel
theorem d_Pr_abort_32 : decode b_Pr_abort 32 = .ok (.ireturn, 1) := by decide +kernel
theorem d_Pr_get_0 : decode b_Pr_get 0 = .ok (.iload_n 1, 1) := by decide +kernel
theorem d_Pr_get_1 : decode b_Pr_get 1 = .ok (.invokestatic 67, 3) := by decide +kernel
theorem d_Pr_get_4 : decode b_Pr_get 4 = .ok (.ifCond .eq (14), 3) := by decide +kernel
theorem d_Pr_get_7 : decode b_Pr_get 7 = .ok (.aload_n 0, 1) := by decide +kernel
theorem d_Pr_get_8 : decode b_Pr_get 8 = .ok (.getfield 49, 3) := by decide +kernel
theorem d_Pr_get_11 : decode b_Pr_get 11 = .ok (.iload_n 1, 1) := by decide +kernel
theorem d_Pr_get_12 : decode b_Pr_get 12 = .ok (.invokevirtual 81, 3) := by decide +kernel
theorem d_Pr_get_15 : decode b_Pr_get 15 = .ok (.goto (6), 3) := by decide +kernel
theorem d_Pr_get_18 : decode b_Pr_get 18 = .ok (.ldc2_w 105, 3) := by decide +kernel
theorem d_Pr_get_21 : decode b_Pr_get 21 = .ok (.lreturn, 1) := by decide +kernel
theorem d_Pr_write_0 : decode b_Pr_write 0 = .ok (.iload_n 1, 1) := by decide +kernel
theorem d_Pr_write_1 : decode b_Pr_write 1 = .ok (.invokestatic 107, 3) := by decide +kernel
theorem d_Pr_write_4 : decode b_Pr_write 4 = .ok (.ifCond .ne (5), 3) := by decide +kernel
theorem d_Pr_write_7 : decode b_Pr_write 7 = .ok (.iconst (-1), 1) := by decide +kernel
theorem d_Pr_write_8 : decode b_Pr_write 8 = .ok (.ireturn, 1) := by decide +kernel
theorem d_Pr_write_9 : decode b_Pr_write 9 = .ok (.aload_n 0, 1) := by decide +kernel
theorem d_Pr_write_10 : decode b_Pr_write 10 = .ok (.getfield 49, 3) := by decide +kernel
theorem d_Pr_write_13 : decode b_Pr_write 13 = .ok (.iload_n 1, 1) := by decide +kernel
theorem d_Pr_write_14 : decode b_Pr_write 14 = .ok (.invokevirtual 110, 3) := by decide +kernel
theorem d_Pr_write_17 : decode b_Pr_write 17 = .ok (.istore_n 2, 1) := by decide +kernel
theorem d_Pr_write_18 : decode b_Pr_write 18 = .ok (.aload_n 0, 1) := by decide +kernel
theorem d_Pr_write_19 : decode b_Pr_write 19 = .ok (.getfield 19, 3) := by decide +kernel
theorem d_Pr_write_22 : decode b_Pr_write 22 = .ok (.iload_n 1, 1) := by decide +kernel
theorem d_Pr_write_23 : decode b_Pr_write 23 = .ok (.iload_n 2, 1) := by decide +kernel
theorem d_Pr_write_24 : decode b_Pr_write 24 = .ok (.invokevirtual 114, 3) := by decide +kernel
theorem d_Pr_write_27 : decode b_Pr_write 27 = .ok (.iload_n 2, 1) := by decide +kernel
theorem d_Pr_write_28 : decode b_Pr_write 28 = .ok (.ireturn, 1) := by decide +kernel
theorem d_Pr_isPage_0 : decode b_Pr_isPage 0 = .ok (.iload_n 0, 1) := by decide +kernel
theorem d_Pr_isPage_1 : decode b_Pr_isPage 1 = .ok (.ifCond .lt (13), 3) := by decide +kernel
theorem d_Pr_isPage_4 : decode b_Pr_isPage 4 = .ok (.iload_n 0, 1) := by decide +kernel
theorem d_Pr_isPage_5 : decode b_Pr_isPage 5 = .ok (.bipush (8), 2) := by decide +kernel
theorem d_Pr_isPage_7 : decode b_Pr_isPage 7 = .ok (.if_icmp .ge (7), 3) := by decide +kernel
theorem d_Pr_isPage_10 : decode b_Pr_isPage 10 = .ok (.iconst 1, 1) := by decide +kernel
theorem d_Pr_isPage_11 : decode b_Pr_isPage 11 = .ok (.goto (4), 3) := by decide +kernel
theorem d_Pr_isPage_14 : decode b_Pr_isPage 14 = .ok (.iconst 0, 1) := by decide +kernel
theorem d_Pr_isPage_15 : decode b_Pr_isPage 15 = .ok (.ireturn, 1) := by decide +kernel
theorem d_Pr_archive_0 : decode b_Pr_archive 0 = .ok (.aload_n 0, 1) := by decide +kernel
theorem d_Pr_archive_1 : decode b_Pr_archive 1 = .ok (.getfield 49, 3) := by decide +kernel
theorem d_Pr_archive_4 : decode b_Pr_archive 4 = .ok (.invokevirtual 118, 3) := by decide +kernel
theorem d_Pr_archive_7 : decode b_Pr_archive 7 = .ok (.ireturn, 1) := by decide +kernel
theorem d_Pr_backup_0 : decode b_Pr_backup 0 = .ok (.aload_n 0, 1) := by decide +kernel
theorem d_Pr_backup_1 : decode b_Pr_backup 1 = .ok (.getfield 56, 3) := by decide +kernel
theorem d_Pr_backup_4 : decode b_Pr_backup 4 = .ok (.iload_n 1, 1) := by decide +kernel
theorem d_Pr_backup_5 : decode b_Pr_backup 5 = .ok (.aload_n 0, 1) := by decide +kernel
theorem d_Pr_backup_6 : decode b_Pr_backup 6 = .ok (.getfield 49, 3) := by decide +kernel
theorem d_Pr_backup_9 : decode b_Pr_backup 9 = .ok (.invokevirtual 121, 3) := by decide +kernel
theorem d_Pr_backup_12 : decode b_Pr_backup 12 = .ok (.invokevirtual 124, 3) := by decide +kernel
theorem d_Pr_backup_15 : decode b_Pr_backup 15 = .ok (.ireturn, 1) := by decide +kernel
theorem d_Pr_step_0 : decode b_Pr_step 0 = .ok (.iload_n 1, 1) := by decide +kernel
theorem d_Pr_step_1 : decode b_Pr_step 1 = .ok (.iconst 1, 1) := by decide +kernel
theorem d_Pr_step_2 : decode b_Pr_step 2 = .ok (.if_icmp .lt (9), 3) := by decide +kernel
theorem d_Pr_step_5 : decode b_Pr_step 5 = .ok (.iload_n 1, 1) := by decide +kernel
theorem d_Pr_step_6 : decode b_Pr_step 6 = .ok (.bipush (8), 2) := by decide +kernel
theorem d_Pr_step_8 : decode b_Pr_step 8 = .ok (.if_icmp .le (5), 3) := by decide +kernel
theorem d_Pr_step_11 : decode b_Pr_step 11 = .ok (.iconst (-1), 1) := by decide +kernel
theorem d_Pr_step_12 : decode b_Pr_step 12 = .ok (.ireturn, 1) := by decide +kernel
theorem d_Pr_step_13 : decode b_Pr_step 13 = .ok (.aload_n 0, 1) := by decide +kernel
theorem d_Pr_step_14 : decode b_Pr_step 14 = .ok (.getfield 56, 3) := by decide +kernel
theorem d_Pr_step_17 : decode b_Pr_step 17 = .ok (.iload_n 1, 1) := by decide +kernel
theorem d_Pr_step_18 : decode b_Pr_step 18 = .ok (.aload_n 0, 1) := by decide +kernel
theorem d_Pr_step_19 : decode b_Pr_step 19 = .ok (.getfield 49, 3) := by decide +kernel
theorem d_Pr_step_22 : decode b_Pr_step 22 = .ok (.invokevirtual 128, 3) := by decide +kernel
theorem d_Pr_step_25 : decode b_Pr_step 25 = .ok (.ireturn, 1) := by decide +kernel
theorem d_Pr_crash_0 : decode b_Pr_crash 0 = .ok (.iload_n 1, 1) := by decide +kernel
theorem d_Pr_crash_1 : decode b_Pr_crash 1 = .ok (.iconst (-1), 1) := by decide +kernel
theorem d_Pr_crash_2 : decode b_Pr_crash 2 = .ok (.if_icmp .eq (12), 3) := by decide +kernel
theorem d_Pr_crash_5 : decode b_Pr_crash 5 = .ok (.iload_n 1, 1) := by decide +kernel
theorem d_Pr_crash_6 : decode b_Pr_crash 6 = .ok (.invokestatic 107, 3) := by decide +kernel
theorem d_Pr_crash_9 : decode b_Pr_crash 9 = .ok (.ifCond .ne (5), 3) := by decide +kernel
theorem d_Pr_crash_12 : decode b_Pr_crash 12 = .ok (.iconst (-1), 1) := by decide +kernel
theorem d_Pr_crash_13 : decode b_Pr_crash 13 = .ok (.ireturn, 1) := by decide +kernel
theorem d_Pr_crash_14 : decode b_Pr_crash 14 = .ok (.iload_n 1, 1) := by decide +kernel
theorem d_Pr_crash_15 : decode b_Pr_crash 15 = .ok (.iconst (-1), 1) := by decide +kernel
theorem d_Pr_crash_16 : decode b_Pr_crash 16 = .ok (.if_icmp .eq (11), 3) := by decide +kernel
theorem d_Pr_crash_19 : decode b_Pr_crash 19 = .ok (.aload_n 0, 1) := by decide +kernel
theorem d_Pr_crash_20 : decode b_Pr_crash 20 = .ok (.getfield 19, 3) := by decide +kernel
theorem d_Pr_crash_23 : decode b_Pr_crash 23 = .ok (.iload_n 1, 1) := by decide +kernel
theorem d_Pr_crash_24 : decode b_Pr_crash 24 = .ok (.invokevirtual 132, 3) := by decide +kernel
theorem d_Pr_crash_27 : decode b_Pr_crash 27 = .ok (.aload_n 0, 1) := by decide +kernel
theorem d_Pr_crash_28 : decode b_Pr_crash 28 = .ok (.invokevirtual 135, 3) := by decide +kernel
theorem d_Pr_crash_31 : decode b_Pr_crash 31 = .ok (.ireturn, 1) := by decide +kernel
theorem d_Pr_recover_0 : decode b_Pr_recover 0 = .ok (.aload_n 0, 1) := by decide +kernel
theorem d_Pr_recover_1 : decode b_Pr_recover 1 = .ok (.getfield 56, 3) := by decide +kernel
theorem d_Pr_recover_4 : decode b_Pr_recover 4 = .ok (.invokevirtual 203, 3) := by decide +kernel
theorem d_Pr_recover_7 : decode b_Pr_recover 7 = .ok (.iconst 0, 1) := by decide +kernel
theorem d_Pr_recover_8 : decode b_Pr_recover 8 = .ok (.istore_n 1, 1) := by decide +kernel
theorem d_Pr_recover_9 : decode b_Pr_recover 9 = .ok (.iload_n 1, 1) := by decide +kernel
theorem d_Pr_recover_10 : decode b_Pr_recover 10 = .ok (.bipush (8), 2) := by decide +kernel
theorem d_Pr_recover_12 : decode b_Pr_recover 12 = .ok (.if_icmp .ge (34), 3) := by decide +kernel
theorem d_Pr_recover_15 : decode b_Pr_recover 15 = .ok (.aload_n 0, 1) := by decide +kernel
theorem d_Pr_recover_16 : decode b_Pr_recover 16 = .ok (.getfield 31, 3) := by decide +kernel
theorem d_Pr_recover_19 : decode b_Pr_recover 19 = .ok (.iload_n 1, 1) := by decide +kernel
theorem d_Pr_recover_20 : decode b_Pr_recover 20 = .ok (.aload_n 0, 1) := by decide +kernel
theorem d_Pr_recover_21 : decode b_Pr_recover 21 = .ok (.getfield 19, 3) := by decide +kernel
theorem d_Pr_recover_24 : decode b_Pr_recover 24 = .ok (.iload_n 1, 1) := by decide +kernel
theorem d_Pr_recover_25 : decode b_Pr_recover 25 = .ok (.invokevirtual 206, 3) := by decide +kernel
theorem d_Pr_recover_28 : decode b_Pr_recover 28 = .ok (.aload_n 0, 1) := by decide +kernel
theorem d_Pr_recover_29 : decode b_Pr_recover 29 = .ok (.getfield 56, 3) := by decide +kernel
theorem d_Pr_recover_32 : decode b_Pr_recover 32 = .ok (.iload_n 1, 1) := by decide +kernel
theorem d_Pr_recover_33 : decode b_Pr_recover 33 = .ok (.invokevirtual 209, 3) := by decide +kernel
theorem d_Pr_recover_36 : decode b_Pr_recover 36 = .ok (.invokestatic 43, 3) := by decide +kernel
theorem d_Pr_recover_39 : decode b_Pr_recover 39 = .ok (.iastore, 1) := by decide +kernel
theorem d_Pr_recover_40 : decode b_Pr_recover 40 = .ok (.iinc 1 (1), 3) := by decide +kernel
theorem d_Pr_recover_43 : decode b_Pr_recover 43 = .ok (.goto (-34), 3) := by decide +kernel
theorem d_Pr_recover_46 : decode b_Pr_recover 46 = .ok (.aload_n 0, 1) := by decide +kernel
theorem d_Pr_recover_47 : decode b_Pr_recover 47 = .ok (.getfield 49, 3) := by decide +kernel
theorem d_Pr_recover_50 : decode b_Pr_recover 50 = .ok (.aload_n 0, 1) := by decide +kernel
theorem d_Pr_recover_51 : decode b_Pr_recover 51 = .ok (.getfield 31, 3) := by decide +kernel
theorem d_Pr_recover_54 : decode b_Pr_recover 54 = .ok (.aload_n 0, 1) := by decide +kernel
theorem d_Pr_recover_55 : decode b_Pr_recover 55 = .ok (.getfield 49, 3) := by decide +kernel
theorem d_Pr_recover_58 : decode b_Pr_recover 58 = .ok (.invokevirtual 121, 3) := by decide +kernel
theorem d_Pr_recover_61 : decode b_Pr_recover 61 = .ok (.invokevirtual 157, 3) := by decide +kernel
theorem d_Pr_recover_64 : decode b_Pr_recover 64 = .ok (.istore_n 1, 1) := by decide +kernel
theorem d_Pr_recover_65 : decode b_Pr_recover 65 = .ok (.aload_n 0, 1) := by decide +kernel
theorem d_Pr_recover_66 : decode b_Pr_recover 66 = .ok (.getfield 10, 3) := by decide +kernel
theorem d_Pr_recover_69 : decode b_Pr_recover 69 = .ok (.aload_n 0, 1) := by decide +kernel
theorem d_Pr_recover_70 : decode b_Pr_recover 70 = .ok (.getfield 49, 3) := by decide +kernel
theorem d_Pr_recover_73 : decode b_Pr_recover 73 = .ok (.invokevirtual 101, 3) := by decide +kernel
theorem d_Pr_recover_76 : decode b_Pr_recover 76 = .ok (.iload_n 1, 1) := by decide +kernel
theorem d_Pr_recover_77 : decode b_Pr_recover 77 = .ok (.ireturn, 1) := by decide +kernel
theorem d_Pr_lose_0 : decode b_Pr_lose 0 = .ok (.iconst 0, 1) := by decide +kernel
theorem d_Pr_lose_1 : decode b_Pr_lose 1 = .ok (.istore_n 1, 1) := by decide +kernel
theorem d_Pr_lose_2 : decode b_Pr_lose 2 = .ok (.iload_n 1, 1) := by decide +kernel
theorem d_Pr_lose_3 : decode b_Pr_lose 3 = .ok (.bipush (8), 2) := by decide +kernel
theorem d_Pr_lose_5 : decode b_Pr_lose 5 = .ok (.if_icmp .ge (17), 3) := by decide +kernel
theorem d_Pr_lose_8 : decode b_Pr_lose 8 = .ok (.aload_n 0, 1) := by decide +kernel
theorem d_Pr_lose_9 : decode b_Pr_lose 9 = .ok (.getfield 19, 3) := by decide +kernel
theorem d_Pr_lose_12 : decode b_Pr_lose 12 = .ok (.iload_n 1, 1) := by decide +kernel
theorem d_Pr_lose_13 : decode b_Pr_lose 13 = .ok (.invokevirtual 132, 3) := by decide +kernel
theorem d_Pr_lose_16 : decode b_Pr_lose 16 = .ok (.iinc 1 (1), 3) := by decide +kernel
theorem d_Pr_lose_19 : decode b_Pr_lose 19 = .ok (.goto (-17), 3) := by decide +kernel
theorem d_Pr_lose_22 : decode b_Pr_lose 22 = .ok (.aload_n 0, 1) := by decide +kernel
theorem d_Pr_lose_23 : decode b_Pr_lose 23 = .ok (.invokevirtual 135, 3) := by decide +kernel
theorem d_Pr_lose_26 : decode b_Pr_lose 26 = .ok (.ireturn, 1) := by decide +kernel
theorem d_Pr_restore_0 : decode b_Pr_restore 0 = .ok (.iload_n 1, 1) := by decide +kernel
theorem d_Pr_restore_1 : decode b_Pr_restore 1 = .ok (.iconst 1, 1) := by decide +kernel
theorem d_Pr_restore_2 : decode b_Pr_restore 2 = .ok (.if_icmp .lt (14), 3) := by decide +kernel
theorem d_Pr_restore_5 : decode b_Pr_restore 5 = .ok (.iload_n 1, 1) := by decide +kernel
theorem d_Pr_restore_6 : decode b_Pr_restore 6 = .ok (.aload_n 0, 1) := by decide +kernel
theorem d_Pr_restore_7 : decode b_Pr_restore 7 = .ok (.getfield 49, 3) := by decide +kernel
theorem d_Pr_restore_10 : decode b_Pr_restore 10 = .ok (.invokevirtual 138, 3) := by decide +kernel
theorem d_Pr_restore_13 : decode b_Pr_restore 13 = .ok (.if_icmp .le (5), 3) := by decide +kernel
theorem d_Pr_restore_16 : decode b_Pr_restore 16 = .ok (.iconst (-1), 1) := by decide +kernel
theorem d_Pr_restore_17 : decode b_Pr_restore 17 = .ok (.ireturn, 1) := by decide +kernel
theorem d_Pr_restore_18 : decode b_Pr_restore 18 = .ok (.aload_n 0, 1) := by decide +kernel
theorem d_Pr_restore_19 : decode b_Pr_restore 19 = .ok (.getfield 49, 3) := by decide +kernel
theorem d_Pr_restore_22 : decode b_Pr_restore 22 = .ok (.iload_n 1, 1) := by decide +kernel
theorem d_Pr_restore_23 : decode b_Pr_restore 23 = .ok (.invokevirtual 141, 3) := by decide +kernel
theorem d_Pr_restore_26 : decode b_Pr_restore 26 = .ok (.istore_n 2, 1) := by decide +kernel
theorem d_Pr_restore_27 : decode b_Pr_restore 27 = .ok (.aload_n 0, 1) := by decide +kernel
theorem d_Pr_restore_28 : decode b_Pr_restore 28 = .ok (.getfield 56, 3) := by decide +kernel
theorem d_Pr_restore_31 : decode b_Pr_restore 31 = .ok (.iload_n 2, 1) := by decide +kernel
theorem d_Pr_restore_32 : decode b_Pr_restore 32 = .ok (.invokevirtual 144, 3) := by decide +kernel
theorem d_Pr_restore_35 : decode b_Pr_restore 35 = .ok (.istore_n 3, 1) := by decide +kernel
theorem d_Pr_restore_36 : decode b_Pr_restore 36 = .ok (.iload_n 3, 1) := by decide +kernel
theorem d_Pr_restore_37 : decode b_Pr_restore 37 = .ok (.ifCond .ne (16), 3) := by decide +kernel
theorem d_Pr_restore_40 : decode b_Pr_restore 40 = .ok (.aload_n 0, 1) := by decide +kernel
theorem d_Pr_restore_41 : decode b_Pr_restore 41 = .ok (.getfield 49, 3) := by decide +kernel
theorem d_Pr_restore_44 : decode b_Pr_restore 44 = .ok (.invokevirtual 147, 3) := by decide +kernel
theorem d_Pr_restore_47 : decode b_Pr_restore 47 = .ok (.ifCond .le (6), 3) := by decide +kernel
theorem d_Pr_restore_50 : decode b_Pr_restore 50 = .ok (.bipush (-3), 2) := by decide +kernel
theorem d_Pr_restore_52 : decode b_Pr_restore 52 = .ok (.ireturn, 1) := by decide +kernel
theorem d_Pr_restore_53 : decode b_Pr_restore 53 = .ok (.iconst 0, 1) := by decide +kernel
theorem d_Pr_restore_54 : decode b_Pr_restore 54 = .ok (.istore 4, 2) := by decide +kernel
theorem d_Pr_restore_56 : decode b_Pr_restore 56 = .ok (.iload 4, 2) := by decide +kernel
theorem d_Pr_restore_58 : decode b_Pr_restore 58 = .ok (.bipush (8), 2) := by decide +kernel
theorem d_Pr_restore_60 : decode b_Pr_restore 60 = .ok (.if_icmp .ge (26), 3) := by decide +kernel
theorem d_Pr_restore_63 : decode b_Pr_restore 63 = .ok (.aload_n 0, 1) := by decide +kernel
theorem d_Pr_restore_64 : decode b_Pr_restore 64 = .ok (.getfield 31, 3) := by decide +kernel
theorem d_Pr_restore_67 : decode b_Pr_restore 67 = .ok (.iload 4, 2) := by decide +kernel
theorem d_Pr_restore_69 : decode b_Pr_restore 69 = .ok (.aload_n 0, 1) := by decide +kernel
theorem d_Pr_restore_70 : decode b_Pr_restore 70 = .ok (.getfield 56, 3) := by decide +kernel
theorem d_Pr_restore_73 : decode b_Pr_restore 73 = .ok (.iload_n 3, 1) := by decide +kernel
theorem d_Pr_restore_74 : decode b_Pr_restore 74 = .ok (.iload 4, 2) := by decide +kernel
theorem d_Pr_restore_76 : decode b_Pr_restore 76 = .ok (.invokevirtual 150, 3) := by decide +kernel
theorem d_Pr_restore_79 : decode b_Pr_restore 79 = .ok (.iastore, 1) := by decide +kernel
theorem d_Pr_restore_80 : decode b_Pr_restore 80 = .ok (.iinc 4 (1), 3) := by decide +kernel
theorem d_Pr_restore_83 : decode b_Pr_restore 83 = .ok (.goto (-27), 3) := by decide +kernel
theorem d_Pr_restore_86 : decode b_Pr_restore 86 = .ok (.aload_n 0, 1) := by decide +kernel
theorem d_Pr_restore_87 : decode b_Pr_restore 87 = .ok (.getfield 49, 3) := by decide +kernel
theorem d_Pr_restore_90 : decode b_Pr_restore 90 = .ok (.iload_n 2, 1) := by decide +kernel
theorem d_Pr_restore_91 : decode b_Pr_restore 91 = .ok (.aload_n 0, 1) := by decide +kernel
theorem d_Pr_restore_92 : decode b_Pr_restore 92 = .ok (.getfield 23, 3) := by decide +kernel
theorem d_Pr_restore_95 : decode b_Pr_restore 95 = .ok (.invokevirtual 153, 3) := by decide +kernel
theorem d_Pr_restore_98 : decode b_Pr_restore 98 = .ok (.aload_n 0, 1) := by decide +kernel
theorem d_Pr_restore_99 : decode b_Pr_restore 99 = .ok (.iconst 1, 1) := by decide +kernel
theorem d_Pr_restore_100 : decode b_Pr_restore 100 = .ok (.putfield 27, 3) := by decide +kernel
theorem d_Pr_restore_103 : decode b_Pr_restore 103 = .ok (.aload_n 0, 1) := by decide +kernel
theorem d_Pr_restore_104 : decode b_Pr_restore 104 = .ok (.getfield 49, 3) := by decide +kernel
theorem d_Pr_restore_107 : decode b_Pr_restore 107 = .ok (.aload_n 0, 1) := by decide +kernel
theorem d_Pr_restore_108 : decode b_Pr_restore 108 = .ok (.getfield 31, 3) := by decide +kernel
theorem d_Pr_restore_111 : decode b_Pr_restore 111 = .ok (.iload_n 2, 1) := by decide +kernel
theorem d_Pr_restore_112 : decode b_Pr_restore 112 = .ok (.invokevirtual 157, 3) := by decide +kernel
theorem d_Pr_restore_115 : decode b_Pr_restore 115 = .ok (.ireturn, 1) := by decide +kernel
theorem d_Pr_look_0 : decode b_Pr_look 0 = .ok (.iload_n 1, 1) := by decide +kernel
theorem d_Pr_look_1 : decode b_Pr_look 1 = .ok (.invokestatic 67, 3) := by decide +kernel
theorem d_Pr_look_4 : decode b_Pr_look 4 = .ok (.ifCond .eq (19), 3) := by decide +kernel
theorem d_Pr_look_7 : decode b_Pr_look 7 = .ok (.aload_n 0, 1) := by decide +kernel
theorem d_Pr_look_8 : decode b_Pr_look 8 = .ok (.getfield 27, 3) := by decide +kernel
theorem d_Pr_look_11 : decode b_Pr_look 11 = .ok (.ifCond .eq (12), 3) := by decide +kernel
theorem d_Pr_look_14 : decode b_Pr_look 14 = .ok (.aload_n 0, 1) := by decide +kernel
theorem d_Pr_look_15 : decode b_Pr_look 15 = .ok (.getfield 23, 3) := by decide +kernel
theorem d_Pr_look_18 : decode b_Pr_look 18 = .ok (.iload_n 1, 1) := by decide +kernel
theorem d_Pr_look_19 : decode b_Pr_look 19 = .ok (.laload, 1) := by decide +kernel
theorem d_Pr_look_20 : decode b_Pr_look 20 = .ok (.goto (6), 3) := by decide +kernel
theorem d_Pr_look_23 : decode b_Pr_look 23 = .ok (.ldc2_w 105, 3) := by decide +kernel
theorem d_Pr_look_26 : decode b_Pr_look 26 = .ok (.lreturn, 1) := by decide +kernel
theorem d_Pr_page_0 : decode b_Pr_page 0 = .ok (.iload_n 1, 1) := by decide +kernel
theorem d_Pr_page_1 : decode b_Pr_page 1 = .ok (.invokestatic 107, 3) := by decide +kernel
theorem d_Pr_page_4 : decode b_Pr_page 4 = .ok (.ifCond .ne (5), 3) := by decide +kernel
theorem d_Pr_page_7 : decode b_Pr_page 7 = .ok (.iconst (-1), 1) := by decide +kernel
theorem d_Pr_page_8 : decode b_Pr_page 8 = .ok (.ireturn, 1) := by decide +kernel
theorem d_Pr_page_9 : decode b_Pr_page 9 = .ok (.iload_n 2, 1) := by decide +kernel
theorem d_Pr_page_10 : decode b_Pr_page 10 = .ok (.tableswitch (74) (0) (3) #[30, 39, 48, 65], 30) := by decide +kernel
theorem d_Pr_page_40 : decode b_Pr_page 40 = .ok (.aload_n 0, 1) := by decide +kernel
theorem d_Pr_page_41 : decode b_Pr_page 41 = .ok (.getfield 49, 3) := by decide +kernel
theorem d_Pr_page_44 : decode b_Pr_page 44 = .ok (.iload_n 1, 1) := by decide +kernel
theorem d_Pr_page_45 : decode b_Pr_page 45 = .ok (.invokevirtual 110, 3) := by decide +kernel
theorem d_Pr_page_48 : decode b_Pr_page 48 = .ok (.ireturn, 1) := by decide +kernel
theorem d_Pr_page_49 : decode b_Pr_page 49 = .ok (.aload_n 0, 1) := by decide +kernel
theorem d_Pr_page_50 : decode b_Pr_page 50 = .ok (.getfield 19, 3) := by decide +kernel
theorem d_Pr_page_53 : decode b_Pr_page 53 = .ok (.iload_n 1, 1) := by decide +kernel
theorem d_Pr_page_54 : decode b_Pr_page 54 = .ok (.invokevirtual 161, 3) := by decide +kernel
theorem d_Pr_page_57 : decode b_Pr_page 57 = .ok (.ireturn, 1) := by decide +kernel
theorem d_Pr_page_58 : decode b_Pr_page 58 = .ok (.aload_n 0, 1) := by decide +kernel
theorem d_Pr_page_59 : decode b_Pr_page 59 = .ok (.getfield 19, 3) := by decide +kernel
theorem d_Pr_page_62 : decode b_Pr_page 62 = .ok (.iload_n 1, 1) := by decide +kernel
theorem d_Pr_page_63 : decode b_Pr_page 63 = .ok (.invokevirtual 164, 3) := by decide +kernel
theorem d_Pr_page_66 : decode b_Pr_page 66 = .ok (.ifCond .eq (7), 3) := by decide +kernel
theorem d_Pr_page_69 : decode b_Pr_page 69 = .ok (.iconst 1, 1) := by decide +kernel
theorem d_Pr_page_70 : decode b_Pr_page 70 = .ok (.goto (4), 3) := by decide +kernel
theorem d_Pr_page_73 : decode b_Pr_page 73 = .ok (.iconst 0, 1) := by decide +kernel
theorem d_Pr_page_74 : decode b_Pr_page 74 = .ok (.ireturn, 1) := by decide +kernel
theorem d_Pr_page_75 : decode b_Pr_page 75 = .ok (.aload_n 0, 1) := by decide +kernel
theorem d_Pr_page_76 : decode b_Pr_page 76 = .ok (.getfield 56, 3) := by decide +kernel
theorem d_Pr_page_79 : decode b_Pr_page 79 = .ok (.iload_n 1, 1) := by decide +kernel
theorem d_Pr_page_80 : decode b_Pr_page 80 = .ok (.invokevirtual 167, 3) := by decide +kernel
theorem d_Pr_page_83 : decode b_Pr_page 83 = .ok (.ireturn, 1) := by decide +kernel
theorem d_Pr_page_84 : decode b_Pr_page 84 = .ok (.iconst (-1), 1) := by decide +kernel
theorem d_Pr_page_85 : decode b_Pr_page 85 = .ok (.ireturn, 1) := by decide +kernel
theorem d_Pr_ofBackup_0 : decode b_Pr_ofBackup 0 = .ok (.iload_n 1, 1) := by decide +kernel
theorem d_Pr_ofBackup_1 : decode b_Pr_ofBackup 1 = .ok (.iconst 1, 1) := by decide +kernel
theorem d_Pr_ofBackup_2 : decode b_Pr_ofBackup 2 = .ok (.if_icmp .lt (14), 3) := by decide +kernel
theorem d_Pr_ofBackup_5 : decode b_Pr_ofBackup 5 = .ok (.iload_n 1, 1) := by decide +kernel
theorem d_Pr_ofBackup_6 : decode b_Pr_ofBackup 6 = .ok (.aload_n 0, 1) := by decide +kernel
theorem d_Pr_ofBackup_7 : decode b_Pr_ofBackup 7 = .ok (.getfield 56, 3) := by decide +kernel
theorem d_Pr_ofBackup_10 : decode b_Pr_ofBackup 10 = .ok (.invokevirtual 170, 3) := by decide +kernel
theorem d_Pr_ofBackup_13 : decode b_Pr_ofBackup 13 = .ok (.if_icmp .le (5), 3) := by decide +kernel
theorem d_Pr_ofBackup_16 : decode b_Pr_ofBackup 16 = .ok (.iconst (-1), 1) := by decide +kernel
theorem d_Pr_ofBackup_17 : decode b_Pr_ofBackup 17 = .ok (.ireturn, 1) := by decide +kernel
theorem d_Pr_ofBackup_18 : decode b_Pr_ofBackup 18 = .ok (.aload_n 0, 1) := by decide +kernel
theorem d_Pr_ofBackup_19 : decode b_Pr_ofBackup 19 = .ok (.getfield 56, 3) := by decide +kernel
theorem d_Pr_ofBackup_22 : decode b_Pr_ofBackup 22 = .ok (.iload_n 1, 1) := by decide +kernel
theorem d_Pr_ofBackup_23 : decode b_Pr_ofBackup 23 = .ok (.invokevirtual 173, 3) := by decide +kernel
theorem d_Pr_ofBackup_26 : decode b_Pr_ofBackup 26 = .ok (.astore_n 3, 1) := by decide +kernel
theorem d_Pr_ofBackup_27 : decode b_Pr_ofBackup 27 = .ok (.iload_n 2, 1) := by decide +kernel
theorem d_Pr_ofBackup_28 : decode b_Pr_ofBackup 28 = .ok (.tableswitch (81) (0) (4) #[36, 53, 66, 71, 76], 36) := by decide +kernel
theorem d_Pr_ofBackup_64 : decode b_Pr_ofBackup 64 = .ok (.aload_n 0, 1) := by decide +kernel
theorem d_Pr_ofBackup_65 : decode b_Pr_ofBackup 65 = .ok (.getfield 56, 3) := by decide +kernel
theorem d_Pr_ofBackup_68 : decode b_Pr_ofBackup 68 = .ok (.iload_n 1, 1) := by decide +kernel
theorem d_Pr_ofBackup_69 : decode b_Pr_ofBackup 69 = .ok (.invokevirtual 177, 3) := by decide +kernel
theorem d_Pr_ofBackup_72 : decode b_Pr_ofBackup 72 = .ok (.ifCond .eq (7), 3) := by decide +kernel
theorem d_Pr_ofBackup_75 : decode b_Pr_ofBackup 75 = .ok (.iconst 1, 1) := by decide +kernel
theorem d_Pr_ofBackup_76 : decode b_Pr_ofBackup 76 = .ok (.goto (4), 3) := by decide +kernel
theorem d_Pr_ofBackup_79 : decode b_Pr_ofBackup 79 = .ok (.iconst 0, 1) := by decide +kernel
theorem d_Pr_ofBackup_80 : decode b_Pr_ofBackup 80 = .ok (.ireturn, 1) := by decide +kernel
theorem d_Pr_ofBackup_81 : decode b_Pr_ofBackup 81 = .ok (.aload_n 3, 1) := by decide +kernel
theorem d_Pr_ofBackup_82 : decode b_Pr_ofBackup 82 = .ok (.getfield 180, 3) := by decide +kernel
theorem d_Pr_ofBackup_85 : decode b_Pr_ofBackup 85 = .ok (.ifCond .eq (7), 3) := by decide +kernel
theorem d_Pr_ofBackup_88 : decode b_Pr_ofBackup 88 = .ok (.iconst 1, 1) := by decide +kernel
theorem d_Pr_ofBackup_89 : decode b_Pr_ofBackup 89 = .ok (.goto (4), 3) := by decide +kernel
theorem d_Pr_ofBackup_92 : decode b_Pr_ofBackup 92 = .ok (.iconst 0, 1) := by decide +kernel
theorem d_Pr_ofBackup_93 : decode b_Pr_ofBackup 93 = .ok (.ireturn, 1) := by decide +kernel
theorem d_Pr_ofBackup_94 : decode b_Pr_ofBackup 94 = .ok (.aload_n 3, 1) := by decide +kernel
theorem d_Pr_ofBackup_95 : decode b_Pr_ofBackup 95 = .ok (.getfield 185, 3) := by decide +kernel
theorem d_Pr_ofBackup_98 : decode b_Pr_ofBackup 98 = .ok (.ireturn, 1) := by decide +kernel
theorem d_Pr_ofBackup_99 : decode b_Pr_ofBackup 99 = .ok (.aload_n 3, 1) := by decide +kernel
theorem d_Pr_ofBackup_100 : decode b_Pr_ofBackup 100 = .ok (.getfield 188, 3) := by decide +kernel
theorem d_Pr_ofBackup_103 : decode b_Pr_ofBackup 103 = .ok (.ireturn, 1) := by decide +kernel
theorem d_Pr_ofBackup_104 : decode b_Pr_ofBackup 104 = .ok (.aload_n 3, 1) := by decide +kernel
theorem d_Pr_ofBackup_105 : decode b_Pr_ofBackup 105 = .ok (.getfield 191, 3) := by decide +kernel
theorem d_Pr_ofBackup_108 : decode b_Pr_ofBackup 108 = .ok (.ireturn, 1) := by decide +kernel
theorem d_Pr_ofBackup_109 : decode b_Pr_ofBackup 109 = .ok (.iconst (-1), 1) := by decide +kernel
theorem d_Pr_ofBackup_110 : decode b_Pr_ofBackup 110 = .ok (.ireturn, 1) := by decide +kernel
theorem d_Pr_count_0 : decode b_Pr_count 0 = .ok (.iload_n 1, 1) := by decide +kernel
theorem d_Pr_count_1 : decode b_Pr_count 1 = .ok (.tableswitch (139) (0) (8) #[51, 59, 67, 75, 83, 99, 107, 123, 131], 51) := by decide +kernel
theorem d_Pr_count_52 : decode b_Pr_count 52 = .ok (.aload_n 0, 1) := by decide +kernel
theorem d_Pr_count_53 : decode b_Pr_count 53 = .ok (.getfield 49, 3) := by decide +kernel
theorem d_Pr_count_56 : decode b_Pr_count 56 = .ok (.invokevirtual 121, 3) := by decide +kernel
theorem d_Pr_count_59 : decode b_Pr_count 59 = .ok (.ireturn, 1) := by decide +kernel
theorem d_Pr_count_60 : decode b_Pr_count 60 = .ok (.aload_n 0, 1) := by decide +kernel
theorem d_Pr_count_61 : decode b_Pr_count 61 = .ok (.getfield 49, 3) := by decide +kernel
theorem d_Pr_count_64 : decode b_Pr_count 64 = .ok (.invokevirtual 138, 3) := by decide +kernel
theorem d_Pr_count_67 : decode b_Pr_count 67 = .ok (.ireturn, 1) := by decide +kernel
theorem d_Pr_count_68 : decode b_Pr_count 68 = .ok (.aload_n 0, 1) := by decide +kernel
theorem d_Pr_count_69 : decode b_Pr_count 69 = .ok (.getfield 56, 3) := by decide +kernel
theorem d_Pr_count_72 : decode b_Pr_count 72 = .ok (.invokevirtual 170, 3) := by decide +kernel
theorem d_Pr_count_75 : decode b_Pr_count 75 = .ok (.ireturn, 1) := by decide +kernel
theorem d_Pr_count_76 : decode b_Pr_count 76 = .ok (.aload_n 0, 1) := by decide +kernel
theorem d_Pr_count_77 : decode b_Pr_count 77 = .ok (.getfield 49, 3) := by decide +kernel
theorem d_Pr_count_80 : decode b_Pr_count 80 = .ok (.invokevirtual 194, 3) := by decide +kernel
theorem d_Pr_count_83 : decode b_Pr_count 83 = .ok (.ireturn, 1) := by decide +kernel
theorem d_Pr_count_84 : decode b_Pr_count 84 = .ok (.aload_n 0, 1) := by decide +kernel
theorem d_Pr_count_85 : decode b_Pr_count 85 = .ok (.getfield 49, 3) := by decide +kernel
theorem d_Pr_count_88 : decode b_Pr_count 88 = .ok (.invokevirtual 197, 3) := by decide +kernel
theorem d_Pr_count_91 : decode b_Pr_count 91 = .ok (.aload_n 0, 1) := by decide +kernel
theorem d_Pr_count_92 : decode b_Pr_count 92 = .ok (.getfield 49, 3) := by decide +kernel
theorem d_Pr_count_95 : decode b_Pr_count 95 = .ok (.invokevirtual 147, 3) := by decide +kernel
theorem d_Pr_count_98 : decode b_Pr_count 98 = .ok (.isub, 1) := by decide +kernel
theorem d_Pr_count_99 : decode b_Pr_count 99 = .ok (.ireturn, 1) := by decide +kernel
theorem d_Pr_count_100 : decode b_Pr_count 100 = .ok (.aload_n 0, 1) := by decide +kernel
theorem d_Pr_count_101 : decode b_Pr_count 101 = .ok (.getfield 49, 3) := by decide +kernel
theorem d_Pr_count_104 : decode b_Pr_count 104 = .ok (.invokevirtual 78, 3) := by decide +kernel
theorem d_Pr_count_107 : decode b_Pr_count 107 = .ok (.ireturn, 1) := by decide +kernel
theorem d_Pr_count_108 : decode b_Pr_count 108 = .ok (.aload_n 0, 1) := by decide +kernel
theorem d_Pr_count_109 : decode b_Pr_count 109 = .ok (.getfield 10, 3) := by decide +kernel
theorem d_Pr_count_112 : decode b_Pr_count 112 = .ok (.invokevirtual 60, 3) := by decide +kernel
theorem d_Pr_count_115 : decode b_Pr_count 115 = .ok (.ifCond .eq (7), 3) := by decide +kernel
theorem d_Pr_count_118 : decode b_Pr_count 118 = .ok (.iconst 1, 1) := by decide +kernel
theorem d_Pr_count_119 : decode b_Pr_count 119 = .ok (.goto (4), 3) := by decide +kernel
theorem d_Pr_count_122 : decode b_Pr_count 122 = .ok (.iconst 0, 1) := by decide +kernel
theorem d_Pr_count_123 : decode b_Pr_count 123 = .ok (.ireturn, 1) := by decide +kernel
theorem d_Pr_count_124 : decode b_Pr_count 124 = .ok (.aload_n 0, 1) := by decide +kernel
theorem d_Pr_count_125 : decode b_Pr_count 125 = .ok (.getfield 56, 3) := by decide +kernel
theorem d_Pr_count_128 : decode b_Pr_count 128 = .ok (.invokevirtual 200, 3) := by decide +kernel
theorem d_Pr_count_131 : decode b_Pr_count 131 = .ok (.ireturn, 1) := by decide +kernel
theorem d_Pr_count_132 : decode b_Pr_count 132 = .ok (.aload_n 0, 1) := by decide +kernel
theorem d_Pr_count_133 : decode b_Pr_count 133 = .ok (.getfield 10, 3) := by decide +kernel
theorem d_Pr_count_136 : decode b_Pr_count 136 = .ok (.invokevirtual 74, 3) := by decide +kernel
theorem d_Pr_count_139 : decode b_Pr_count 139 = .ok (.ireturn, 1) := by decide +kernel
theorem d_Pr_count_140 : decode b_Pr_count 140 = .ok (.iconst (-1), 1) := by decide +kernel
theorem d_Pr_count_141 : decode b_Pr_count 141 = .ok (.ireturn, 1) := by decide +kernel
