theorem d_Md_init_0 : decode b_Md_init 0 = .ok (.aload_n 0, 1) := by decide +kernel
theorem d_Md_init_1 : decode b_Md_init 1 = .ok (.invokespecial 1, 3) := by decide +kernel
theorem d_Md_init_4 : decode b_Md_init 4 = .ok (.aload_n 0, 1) := by decide +kernel
theorem d_Md_init_5 : decode b_Md_init 5 = .ok (.sipush (1100), 3) := by decide +kernel
theorem d_Md_init_8 : decode b_Md_init 8 = .ok (.newarray .int, 2) := by decide +kernel
theorem d_Md_init_10 : decode b_Md_init 10 = .ok (.putfield 7, 3) := by decide +kernel
theorem d_Md_init_13 : decode b_Md_init 13 = .ok (.aload_n 0, 1) := by decide +kernel
theorem d_Md_init_14 : decode b_Md_init 14 = .ok (.sipush (1100), 3) := by decide +kernel
theorem d_Md_init_17 : decode b_Md_init 17 = .ok (.newarray .int, 2) := by decide +kernel
theorem d_Md_init_19 : decode b_Md_init 19 = .ok (.putfield 13, 3) := by decide +kernel
theorem d_Md_init_22 : decode b_Md_init 22 = .ok (.aload_n 0, 1) := by decide +kernel
theorem d_Md_init_23 : decode b_Md_init 23 = .ok (.sipush (1100), 3) := by decide +kernel
theorem d_Md_init_26 : decode b_Md_init 26 = .ok (.newarray .boolean, 2) := by decide +kernel
theorem d_Md_init_28 : decode b_Md_init 28 = .ok (.putfield 16, 3) := by decide +kernel
theorem d_Md_init_31 : decode b_Md_init 31 = .ok (.aload_n 0, 1) := by decide +kernel
theorem d_Md_init_32 : decode b_Md_init 32 = .ok (.iconst 4, 1) := by decide +kernel
theorem d_Md_init_33 : decode b_Md_init 33 = .ok (.newarray .int, 2) := by decide +kernel
theorem d_Md_init_35 : decode b_Md_init 35 = .ok (.putfield 20, 3) := by decide +kernel
theorem d_Md_init_38 : decode b_Md_init 38 = .ok (.aload_n 0, 1) := by decide +kernel
theorem d_Md_init_39 : decode b_Md_init 39 = .ok (.bipush (8), 2) := by decide +kernel
theorem d_Md_init_41 : decode b_Md_init 41 = .ok (.newarray .int, 2) := by decide +kernel
theorem d_Md_init_43 : decode b_Md_init 43 = .ok (.putfield 23, 3) := by decide +kernel
theorem d_Md_init_46 : decode b_Md_init 46 = .ok (.aload_n 0, 1) := by decide +kernel
theorem d_Md_init_47 : decode b_Md_init 47 = .ok (.bipush (8), 2) := by decide +kernel
theorem d_Md_init_49 : decode b_Md_init 49 = .ok (.newarray .boolean, 2) := by decide +kernel
theorem d_Md_init_51 : decode b_Md_init 51 = .ok (.putfield 26, 3) := by decide +kernel
theorem d_Md_init_54 : decode b_Md_init 54 = .ok (.aload_n 0, 1) := by decide +kernel
theorem d_Md_init_55 : decode b_Md_init 55 = .ok (.sipush (260), 3) := by decide +kernel
theorem d_Md_init_58 : decode b_Md_init 58 = .ok (.newarray .boolean, 2) := by decide +kernel
theorem d_Md_init_60 : decode b_Md_init 60 = .ok (.putfield 29, 3) := by decide +kernel
theorem d_Md_init_63 : decode b_Md_init 63 = .ok (.aload_n 0, 1) := by decide +kernel
theorem d_Md_init_64 : decode b_Md_init 64 = .ok (.sipush (260), 3) := by decide +kernel
theorem d_Md_init_67 : decode b_Md_init 67 = .ok (.newarray .boolean, 2) := by decide +kernel
theorem d_Md_init_69 : decode b_Md_init 69 = .ok (.putfield 32, 3) := by decide +kernel
theorem d_Md_init_72 : decode b_Md_init 72 = .ok (.aload_n 0, 1) := by decide +kernel
theorem d_Md_init_73 : decode b_Md_init 73 = .ok (.sipush (260), 3) := by decide +kernel
theorem d_Md_init_76 : decode b_Md_init 76 = .ok (.newarray .int, 2) := by decide +kernel
theorem d_Md_init_78 : decode b_Md_init 78 = .ok (.putfield 35, 3) := by decide +kernel
theorem d_Md_init_81 : decode b_Md_init 81 = .ok (.aload_n 0, 1) := by decide +kernel
theorem d_Md_init_82 : decode b_Md_init 82 = .ok (.sipush (260), 3) := by decide +kernel
theorem d_Md_init_85 : decode b_Md_init 85 = .ok (.newarray .int, 2) := by decide +kernel
theorem d_Md_init_87 : decode b_Md_init 87 = .ok (.putfield 38, 3) := by decide +kernel
theorem d_Md_init_90 : decode b_Md_init 90 = .ok (.aload_n 0, 1) := by decide +kernel
theorem d_Md_init_91 : decode b_Md_init 91 = .ok (.sipush (2080), 3) := by decide +kernel
theorem d_Md_init_94 : decode b_Md_init 94 = .ok (.newarray .int, 2) := by decide +kernel
theorem d_Md_init_96 : decode b_Md_init 96 = .ok (.putfield 41, 3) := by decide +kernel
theorem d_Md_init_99 : decode b_Md_init 99 = .ok (.aload_n 0, 1) := by decide +kernel
theorem d_Md_init_100 : decode b_Md_init 100 = .ok (.bipush (-2), 2) := by decide +kernel
theorem d_Md_init_102 : decode b_Md_init 102 = .ok (.putfield 44, 3) := by decide +kernel
theorem d_Md_init_105 : decode b_Md_init 105 = .ok (.aload_n 0, 1) := by decide +kernel
theorem d_Md_init_106 : decode b_Md_init 106 = .ok (.iconst (-1), 1) := by decide +kernel
theorem d_Md_init_107 : decode b_Md_init 107 = .ok (.putfield 48, 3) := by decide +kernel
theorem d_Md_init_110 : decode b_Md_init 110 = .ok (.aload_n 0, 1) := by decide +kernel
theorem d_Md_init_111 : decode b_Md_init 111 = .ok (.iload_n 1, 1) := by decide +kernel
theorem d_Md_init_112 : decode b_Md_init 112 = .ok (.iconst 4, 1) := by decide +kernel
theorem d_Md_init_113 : decode b_Md_init 113 = .ok (.if_icmp .ge (7), 3) := by decide +kernel
theorem d_Md_init_116 : decode b_Md_init 116 = .ok (.iconst 4, 1) := by decide +kernel
theorem d_Md_init_117 : decode b_Md_init 117 = .ok (.goto (15), 3) := by decide +kernel
theorem d_Md_init_120 : decode b_Md_init 120 = .ok (.iload_n 1, 1) := by decide +kernel
theorem d_Md_init_121 : decode b_Md_init 121 = .ok (.bipush (8), 2) := by decide +kernel
theorem d_Md_init_123 : decode b_Md_init 123 = .ok (.if_icmp .le (8), 3) := by decide +kernel
theorem d_Md_init_126 : decode b_Md_init 126 = .ok (.bipush (8), 2) := by decide +kernel
theorem d_Md_init_128 : decode b_Md_init 128 = .ok (.goto (4), 3) := by decide +kernel
theorem d_Md_init_131 : decode b_Md_init 131 = .ok (.iload_n 1, 1) := by decide +kernel
theorem d_Md_init_132 : decode b_Md_init 132 = .ok (.putfield 51, 3) := by decide +kernel
theorem d_Md_init_135 : decode b_Md_init 135 = .ok (.aload_n 0, 1) := by decide +kernel
theorem d_Md_init_136 : decode b_Md_init 136 = .ok (.iload_n 2, 1) := by decide +kernel
theorem d_Md_init_137 : decode b_Md_init 137 = .ok (.iconst 1, 1) := by decide +kernel
theorem d_Md_init_138 : decode b_Md_init 138 = .ok (.if_icmp .ge (7), 3) := by decide +kernel
theorem d_Md_init_141 : decode b_Md_init 141 = .ok (.iconst 1, 1) := by decide +kernel
theorem d_Md_init_142 : decode b_Md_init 142 = .ok (.goto (13), 3) := by decide +kernel
theorem d_Md_init_145 : decode b_Md_init 145 = .ok (.iload_n 2, 1) := by decide +kernel
theorem d_Md_init_146 : decode b_Md_init 146 = .ok (.iconst 3, 1) := by decide +kernel
theorem d_Md_init_147 : decode b_Md_init 147 = .ok (.if_icmp .le (7), 3) := by decide +kernel
theorem d_Md_init_150 : decode b_Md_init 150 = .ok (.iconst 3, 1) := by decide +kernel
theorem d_Md_init_151 : decode b_Md_init 151 = .ok (.goto (4), 3) := by decide +kernel
theorem d_Md_init_154 : decode b_Md_init 154 = .ok (.iload_n 2, 1) := by decide +kernel
theorem d_Md_init_155 : decode b_Md_init 155 = .ok (.putfield 54, 3) := by decide +kernel
theorem d_Md_init_158 : decode b_Md_init 158 = .ok (.iconst 0, 1) := by decide +kernel
theorem d_Md_init_159 : decode b_Md_init 159 = .ok (.istore_n 3, 1) := by decide +kernel
theorem d_Md_init_160 : decode b_Md_init 160 = .ok (.iload_n 3, 1) := by decide +kernel
theorem d_Md_init_161 : decode b_Md_init 161 = .ok (.bipush (8), 2) := by decide +kernel
theorem d_Md_init_163 : decode b_Md_init 163 = .ok (.if_icmp .ge (16), 3) := by decide +kernel
theorem d_Md_init_166 : decode b_Md_init 166 = .ok (.aload_n 0, 1) := by decide +kernel
theorem d_Md_init_167 : decode b_Md_init 167 = .ok (.getfield 26, 3) := by decide +kernel
theorem d_Md_init_170 : decode b_Md_init 170 = .ok (.iload_n 3, 1) := by decide +kernel
theorem d_Md_init_171 : decode b_Md_init 171 = .ok (.iconst 1, 1) := by decide +kernel
theorem d_Md_init_172 : decode b_Md_init 172 = .ok (.bastore, 1) := by decide +kernel
theorem d_Md_init_173 : decode b_Md_init 173 = .ok (.iinc 3 (1), 3) := by decide +kernel
theorem d_Md_init_176 : decode b_Md_init 176 = .ok (.goto (-16), 3) := by decide +kernel
theorem d_Md_init_179 : decode b_Md_init 179 = .ok (.return_, 1) := by decide +kernel
theorem d_Md_begin_0 : decode b_Md_begin 0 = .ok (.aload_n 0, 1) := by decide +kernel
theorem d_Md_begin_1 : decode b_Md_begin 1 = .ok (.getfield 76, 3) := by decide +kernel
theorem d_Md_begin_4 : decode b_Md_begin 4 = .ok (.ifCond .eq (5), 3) := by decide +kernel
theorem d_Md_begin_7 : decode b_Md_begin 7 = .ok (.iconst (-1), 1) := by decide +kernel
theorem d_Md_begin_8 : decode b_Md_begin 8 = .ok (.ireturn, 1) := by decide +kernel
theorem d_Md_begin_9 : decode b_Md_begin 9 = .ok (.aload_n 0, 1) := by decide +kernel
theorem d_Md_begin_10 : decode b_Md_begin 10 = .ok (.iconst 1, 1) := by decide +kernel
theorem d_Md_begin_11 : decode b_Md_begin 11 = .ok (.putfield 76, 3) := by decide +kernel
theorem d_Md_begin_14 : decode b_Md_begin 14 = .ok (.aload_n 0, 1) := by decide +kernel
theorem d_Md_begin_15 : decode b_Md_begin 15 = .ok (.iconst 0, 1) := by decide +kernel
theorem d_Md_begin_16 : decode b_Md_begin 16 = .ok (.putfield 65, 3) := by decide +kernel
theorem d_Md_begin_19 : decode b_Md_begin 19 = .ok (.iconst 0, 1) := by decide +kernel
theorem d_Md_begin_20 : decode b_Md_begin 20 = .ok (.ireturn, 1) := by decide +kernel
theorem d_Md_put_0 : decode b_Md_put 0 = .ok (.iload_n 1, 1) := by decide +kernel
theorem d_Md_put_1 : decode b_Md_put 1 = .ok (.bipush (32), 2) := by decide +kernel
theorem d_Md_put_3 : decode b_Md_put 3 = .ok (.invokestatic 80, 3) := by decide +kernel
theorem d_Md_put_6 : decode b_Md_put 6 = .ok (.ifCond .eq (18), 3) := by decide +kernel
theorem d_Md_put_9 : decode b_Md_put 9 = .ok (.aload_n 0, 1) := by decide +kernel
theorem d_Md_put_10 : decode b_Md_put 10 = .ok (.getfield 76, 3) := by decide +kernel
theorem d_Md_put_13 : decode b_Md_put 13 = .ok (.ifCond .eq (11), 3) := by decide +kernel
theorem d_Md_put_16 : decode b_Md_put 16 = .ok (.aload_n 0, 1) := by decide +kernel
theorem d_Md_put_17 : decode b_Md_put 17 = .ok (.getfield 65, 3) := by decide +kernel
theorem d_Md_put_20 : decode b_Md_put 20 = .ok (.iconst 4, 1) := by decide +kernel
theorem d_Md_put_21 : decode b_Md_put 21 = .ok (.if_icmp .ne (5), 3) := by decide +kernel
theorem d_Md_put_24 : decode b_Md_put 24 = .ok (.iconst (-1), 1) := by decide +kernel
theorem d_Md_put_25 : decode b_Md_put 25 = .ok (.ireturn, 1) := by decide +kernel
theorem d_Md_put_26 : decode b_Md_put 26 = .ok (.aload_n 0, 1) := by decide +kernel
theorem d_Md_put_27 : decode b_Md_put 27 = .ok (.invokevirtual 84, 3) := by decide +kernel
theorem d_Md_put_30 : decode b_Md_put 30 = .ok (.aload_n 0, 1) := by decide +kernel
theorem d_Md_put_31 : decode b_Md_put 31 = .ok (.getfield 65, 3) := by decide +kernel
theorem d_Md_put_34 : decode b_Md_put 34 = .ok (.iconst 3, 1) := by decide +kernel
theorem d_Md_put_35 : decode b_Md_put 35 = .ok (.iadd, 1) := by decide +kernel
theorem d_Md_put_36 : decode b_Md_put 36 = .ok (.if_icmp .ge (6), 3) := by decide +kernel
theorem d_Md_put_39 : decode b_Md_put 39 = .ok (.bipush (-2), 2) := by decide +kernel
theorem d_Md_put_41 : decode b_Md_put 41 = .ok (.ireturn, 1) := by decide +kernel
theorem d_Md_put_42 : decode b_Md_put 42 = .ok (.aload_n 0, 1) := by decide +kernel
theorem d_Md_put_43 : decode b_Md_put 43 = .ok (.getfield 20, 3) := by decide +kernel
theorem d_Md_put_46 : decode b_Md_put 46 = .ok (.aload_n 0, 1) := by decide +kernel
theorem d_Md_put_47 : decode b_Md_put 47 = .ok (.getfield 65, 3) := by decide +kernel
theorem d_Md_put_50 : decode b_Md_put 50 = .ok (.aload_n 0, 1) := by decide +kernel
theorem d_Md_put_51 : decode b_Md_put 51 = .ok (.iload_n 1, 1) := by decide +kernel
theorem d_Md_put_52 : decode b_Md_put 52 = .ok (.iload_n 2, 1) := by decide +kernel
theorem d_Md_put_53 : decode b_Md_put 53 = .ok (.iload_n 3, 1) := by decide +kernel
theorem d_Md_put_54 : decode b_Md_put 54 = .ok (.invokevirtual 72, 3) := by decide +kernel
theorem d_Md_put_57 : decode b_Md_put 57 = .ok (.iastore, 1) := by decide +kernel
theorem d_Md_put_58 : decode b_Md_put 58 = .ok (.aload_n 0, 1) := by decide +kernel
theorem d_Md_put_59 : decode b_Md_put 59 = .ok (.dup, 1) := by decide +kernel
theorem d_Md_put_60 : decode b_Md_put 60 = .ok (.getfield 65, 3) := by decide +kernel
theorem d_Md_put_63 : decode b_Md_put 63 = .ok (.iconst 1, 1) := by decide +kernel
theorem d_Md_put_64 : decode b_Md_put 64 = .ok (.iadd, 1) := by decide +kernel
theorem d_Md_put_65 : decode b_Md_put 65 = .ok (.putfield 65, 3) := by decide +kernel
theorem d_Md_put_68 : decode b_Md_put 68 = .ok (.aload_n 0, 1) := by decide +kernel
theorem d_Md_put_69 : decode b_Md_put 69 = .ok (.getfield 57, 3) := by decide +kernel
theorem d_Md_put_72 : decode b_Md_put 72 = .ok (.ireturn, 1) := by decide +kernel
theorem d_Md_in_0 : decode b_Md_in 0 = .ok (.iload_n 0, 1) := by decide +kernel
theorem d_Md_in_1 : decode b_Md_in 1 = .ok (.ifCond .lt (12), 3) := by decide +kernel
theorem d_Md_in_4 : decode b_Md_in 4 = .ok (.iload_n 0, 1) := by decide +kernel
theorem d_Md_in_5 : decode b_Md_in 5 = .ok (.iload_n 1, 1) := by decide +kernel
theorem d_Md_in_6 : decode b_Md_in 6 = .ok (.if_icmp .ge (7), 3) := by decide +kernel
theorem d_Md_in_9 : decode b_Md_in 9 = .ok (.iconst 1, 1) := by decide +kernel
theorem d_Md_in_10 : decode b_Md_in 10 = .ok (.goto (4), 3) := by decide +kernel
theorem d_Md_in_13 : decode b_Md_in 13 = .ok (.iconst 0, 1) := by decide +kernel
theorem d_Md_in_14 : decode b_Md_in 14 = .ok (.ireturn, 1) := by decide +kernel
theorem d_Md_room_0 : decode b_Md_room 0 = .ok (.aload_n 0, 1) := by decide +kernel
theorem d_Md_room_1 : decode b_Md_room 1 = .ok (.getfield 62, 3) := by decide +kernel
theorem d_Md_room_4 : decode b_Md_room 4 = .ok (.iconst 4, 1) := by decide +kernel
theorem d_Md_room_5 : decode b_Md_room 5 = .ok (.iadd, 1) := by decide +kernel
theorem d_Md_room_6 : decode b_Md_room 6 = .ok (.aload_n 0, 1) := by decide +kernel
theorem d_Md_room_7 : decode b_Md_room 7 = .ok (.getfield 51, 3) := by decide +kernel
theorem d_Md_room_10 : decode b_Md_room 10 = .ok (.imul, 1) := by decide +kernel
theorem d_Md_room_11 : decode b_Md_room 11 = .ok (.aload_n 0, 1) := by decide +kernel
theorem d_Md_room_12 : decode b_Md_room 12 = .ok (.getfield 57, 3) := by decide +kernel
theorem d_Md_room_15 : decode b_Md_room 15 = .ok (.isub, 1) := by decide +kernel
theorem d_Md_room_16 : decode b_Md_room 16 = .ok (.ireturn, 1) := by decide +kernel
theorem d_Md_log_0 : decode b_Md_log 0 = .ok (.aload_n 0, 1) := by decide +kernel
theorem d_Md_log_1 : decode b_Md_log 1 = .ok (.dup, 1) := by decide +kernel
theorem d_Md_log_2 : decode b_Md_log 2 = .ok (.getfield 57, 3) := by decide +kernel
theorem d_Md_log_5 : decode b_Md_log 5 = .ok (.iconst 1, 1) := by decide +kernel
theorem d_Md_log_6 : decode b_Md_log 6 = .ok (.iadd, 1) := by decide +kernel
theorem d_Md_log_7 : decode b_Md_log 7 = .ok (.putfield 57, 3) := by decide +kernel
theorem d_Md_log_10 : decode b_Md_log 10 = .ok (.aload_n 0, 1) := by decide +kernel
theorem d_Md_log_11 : decode b_Md_log 11 = .ok (.getfield 7, 3) := by decide +kernel
theorem d_Md_log_14 : decode b_Md_log 14 = .ok (.aload_n 0, 1) := by decide +kernel
theorem d_Md_log_15 : decode b_Md_log 15 = .ok (.getfield 57, 3) := by decide +kernel
theorem d_Md_log_18 : decode b_Md_log 18 = .ok (.iload_n 1, 1) := by decide +kernel
theorem d_Md_log_19 : decode b_Md_log 19 = .ok (.iastore, 1) := by decide +kernel
theorem d_Md_log_20 : decode b_Md_log 20 = .ok (.aload_n 0, 1) := by decide +kernel
theorem d_Md_log_21 : decode b_Md_log 21 = .ok (.getfield 13, 3) := by decide +kernel
theorem d_Md_log_24 : decode b_Md_log 24 = .ok (.aload_n 0, 1) := by decide +kernel
theorem d_Md_log_25 : decode b_Md_log 25 = .ok (.getfield 57, 3) := by decide +kernel
theorem d_Md_log_28 : decode b_Md_log 28 = .ok (.iload_n 2, 1) := by decide +kernel
theorem d_Md_log_29 : decode b_Md_log 29 = .ok (.iastore, 1) := by decide +kernel
theorem d_Md_log_30 : decode b_Md_log 30 = .ok (.aload_n 0, 1) := by decide +kernel
theorem d_Md_log_31 : decode b_Md_log 31 = .ok (.getfield 16, 3) := by decide +kernel
theorem d_Md_log_34 : decode b_Md_log 34 = .ok (.aload_n 0, 1) := by decide +kernel
theorem d_Md_log_35 : decode b_Md_log 35 = .ok (.getfield 57, 3) := by decide +kernel
theorem d_Md_log_38 : decode b_Md_log 38 = .ok (.iload_n 3, 1) := by decide +kernel
theorem d_Md_log_39 : decode b_Md_log 39 = .ok (.bastore, 1) := by decide +kernel
theorem d_Md_log_40 : decode b_Md_log 40 = .ok (.aload_n 0, 1) := by decide +kernel
theorem d_Md_log_41 : decode b_Md_log 41 = .ok (.getfield 57, 3) := by decide +kernel
theorem d_Md_log_44 : decode b_Md_log 44 = .ok (.ireturn, 1) := by decide +kernel
theorem d_Md_commit_0 : decode b_Md_commit 0 = .ok (.aload_n 0, 1) := by decide +kernel
theorem d_Md_commit_1 : decode b_Md_commit 1 = .ok (.getfield 76, 3) := by decide +kernel
theorem d_Md_commit_4 : decode b_Md_commit 4 = .ok (.ifCond .ne (5), 3) := by decide +kernel
theorem d_Md_commit_7 : decode b_Md_commit 7 = .ok (.iconst (-1), 1) := by decide +kernel
theorem d_Md_commit_8 : decode b_Md_commit 8 = .ok (.ireturn, 1) := by decide +kernel
theorem d_Md_commit_9 : decode b_Md_commit 9 = .ok (.aload_n 0, 1) := by decide +kernel
theorem d_Md_commit_10 : decode b_Md_commit 10 = .ok (.invokevirtual 84, 3) := by decide +kernel
theorem d_Md_commit_13 : decode b_Md_commit 13 = .ok (.ifCond .ne (6), 3) := by decide +kernel
theorem d_Md_commit_16 : decode b_Md_commit 16 = .ok (.bipush (-2), 2) := by decide +kernel
theorem d_Md_commit_18 : decode b_Md_commit 18 = .ok (.ireturn, 1) := by decide +kernel
theorem d_Md_commit_19 : decode b_Md_commit 19 = .ok (.aload_n 0, 1) := by decide +kernel
theorem d_Md_commit_20 : decode b_Md_commit 20 = .ok (.iconst (-1), 1) := by decide +kernel
theorem d_Md_commit_21 : decode b_Md_commit 21 = .ok (.iconst 0, 1) := by decide +kernel
theorem d_Md_commit_22 : decode b_Md_commit 22 = .ok (.iconst 0, 1) := by decide +kernel
theorem d_Md_commit_23 : decode b_Md_commit 23 = .ok (.invokevirtual 72, 3) := by decide +kernel
theorem d_Md_commit_26 : decode b_Md_commit 26 = .ok (.istore_n 1, 1) := by decide +kernel
theorem d_Md_commit_27 : decode b_Md_commit 27 = .ok (.aload_n 0, 1) := by decide +kernel
theorem d_Md_commit_28 : decode b_Md_commit 28 = .ok (.iconst 0, 1) := by decide +kernel
theorem d_Md_commit_29 : decode b_Md_commit 29 = .ok (.putfield 76, 3) := by decide +kernel
theorem d_Md_commit_32 : decode b_Md_commit 32 = .ok (.aload_n 0, 1) := by decide +kernel
theorem d_Md_commit_33 : decode b_Md_commit 33 = .ok (.iconst 0, 1) := by decide +kernel
theorem d_Md_commit_34 : decode b_Md_commit 34 = .ok (.putfield 65, 3) := by decide +kernel
theorem d_Md_commit_37 : decode b_Md_commit 37 = .ok (.aload_n 0, 1) := by decide +kernel
theorem d_Md_commit_38 : decode b_Md_commit 38 = .ok (.invokevirtual 88, 3) := by decide +kernel
theorem d_Md_commit_41 : decode b_Md_commit 41 = .ok (.ireturn, 1) := by decide +kernel
theorem d_Md_commits_0 : decode b_Md_commits 0 = .ok (.iconst 0, 1) := by decide +kernel
theorem d_Md_commits_1 : decode b_Md_commits 1 = .ok (.istore_n 1, 1) := by decide +kernel
theorem d_Md_commits_2 : decode b_Md_commits 2 = .ok (.iconst 1, 1) := by decide +kernel
theorem d_Md_commits_3 : decode b_Md_commits 3 = .ok (.istore_n 2, 1) := by decide +kernel
theorem d_Md_commits_4 : decode b_Md_commits 4 = .ok (.iload_n 2, 1) := by decide +kernel
theorem d_Md_commits_5 : decode b_Md_commits 5 = .ok (.aload_n 0, 1) := by decide +kernel
theorem d_Md_commits_6 : decode b_Md_commits 6 = .ok (.getfield 57, 3) := by decide +kernel
theorem d_Md_commits_9 : decode b_Md_commits 9 = .ok (.if_icmp .gt (22), 3) := by decide +kernel
theorem d_Md_commits_12 : decode b_Md_commits 12 = .ok (.aload_n 0, 1) := by decide +kernel
theorem d_Md_commits_13 : decode b_Md_commits 13 = .ok (.getfield 7, 3) := by decide +kernel
theorem d_Md_commits_16 : decode b_Md_commits 16 = .ok (.iload_n 2, 1) := by decide +kernel
theorem d_Md_commits_17 : decode b_Md_commits 17 = .ok (.iaload, 1) := by decide +kernel
theorem d_Md_commits_18 : decode b_Md_commits 18 = .ok (.iconst (-1), 1) := by decide +kernel
theorem d_Md_commits_19 : decode b_Md_commits 19 = .ok (.if_icmp .ne (6), 3) := by decide +kernel
theorem d_Md_commits_22 : decode b_Md_commits 22 = .ok (.iinc 1 (1), 3) := by decide +kernel
theorem d_Md_commits_25 : decode b_Md_commits 25 = .ok (.iinc 2 (1), 3) := by decide +kernel
theorem d_Md_commits_28 : decode b_Md_commits 28 = .ok (.goto (-24), 3) := by decide +kernel
theorem d_Md_commits_31 : decode b_Md_commits 31 = .ok (.iload_n 1, 1) := by decide +kernel
theorem d_Md_commits_32 : decode b_Md_commits 32 = .ok (.ireturn, 1) := by decide +kernel
theorem d_Md_abort_0 : decode b_Md_abort 0 = .ok (.aload_n 0, 1) := by decide +kernel
theorem d_Md_abort_1 : decode b_Md_abort 1 = .ok (.getfield 76, 3) := by decide +kernel
theorem d_Md_abort_4 : decode b_Md_abort 4 = .ok (.ifCond .ne (5), 3) := by decide +kernel
theorem d_Md_abort_7 : decode b_Md_abort 7 = .ok (.iconst (-1), 1) := by decide +kernel
theorem d_Md_abort_8 : decode b_Md_abort 8 = .ok (.ireturn, 1) := by decide +kernel
theorem d_Md_abort_9 : decode b_Md_abort 9 = .ok (.aload_n 0, 1) := by decide +kernel
theorem d_Md_abort_10 : decode b_Md_abort 10 = .ok (.getfield 65, 3) := by decide +kernel
theorem d_Md_abort_13 : decode b_Md_abort 13 = .ok (.istore_n 1, 1) := by decide +kernel
theorem d_Md_abort_14 : decode b_Md_abort 14 = .ok (.aload_n 0, 1) := by decide +kernel
theorem d_Md_abort_15 : decode b_Md_abort 15 = .ok (.invokevirtual 91, 3) := by decide +kernel
theorem d_Md_abort_18 : decode b_Md_abort 18 = .ok (.iload_n 1, 1) := by decide +kernel
theorem d_Md_abort_19 : decode b_Md_abort 19 = .ok (.ireturn, 1) := by decide +kernel
theorem d_Md_undo_0 : decode b_Md_undo 0 = .ok (.aload_n 0, 1) := by decide +kernel
theorem d_Md_undo_1 : decode b_Md_undo 1 = .ok (.getfield 65, 3) := by decide +kernel
theorem d_Md_undo_4 : decode b_Md_undo 4 = .ok (.iconst 1, 1) := by decide +kernel
theorem d_Md_undo_5 : decode b_Md_undo 5 = .ok (.isub, 1) := by decide +kernel
theorem d_Md_undo_6 : decode b_Md_undo 6 = .ok (.istore_n 1, 1) := by decide +kernel
theorem d_Md_undo_7 : decode b_Md_undo 7 = .ok (.iload_n 1, 1) := by decide +kernel
theorem d_Md_undo_8 : decode b_Md_undo 8 = .ok (.ifCond .lt (77), 3) := by decide +kernel
theorem d_Md_undo_11 : decode b_Md_undo 11 = .ok (.aload_n 0, 1) := by decide +kernel
theorem d_Md_undo_12 : decode b_Md_undo 12 = .ok (.aload_n 0, 1) := by decide +kernel
theorem d_Md_undo_13 : decode b_Md_undo 13 = .ok (.getfield 20, 3) := by decide +kernel
theorem d_Md_undo_16 : decode b_Md_undo 16 = .ok (.iload_n 1, 1) := by decide +kernel
theorem d_Md_undo_17 : decode b_Md_undo 17 = .ok (.iaload, 1) := by decide +kernel
theorem d_Md_undo_18 : decode b_Md_undo 18 = .ok (.iconst 1, 1) := by decide +kernel
theorem d_Md_undo_19 : decode b_Md_undo 19 = .ok (.isub, 1) := by decide +kernel
theorem d_Md_undo_20 : decode b_Md_undo 20 = .ok (.aload_n 0, 1) := by decide +kernel
theorem d_Md_undo_21 : decode b_Md_undo 21 = .ok (.getfield 7, 3) := by decide +kernel
theorem d_Md_undo_24 : decode b_Md_undo 24 = .ok (.aload_n 0, 1) := by decide +kernel
theorem d_Md_undo_25 : decode b_Md_undo 25 = .ok (.getfield 20, 3) := by decide +kernel
theorem d_Md_undo_28 : decode b_Md_undo 28 = .ok (.iload_n 1, 1) := by decide +kernel
theorem d_Md_undo_29 : decode b_Md_undo 29 = .ok (.iaload, 1) := by decide +kernel
theorem d_Md_undo_30 : decode b_Md_undo 30 = .ok (.iaload, 1) := by decide +kernel
theorem d_Md_undo_31 : decode b_Md_undo 31 = .ok (.invokevirtual 68, 3) := by decide +kernel
theorem d_Md_undo_34 : decode b_Md_undo 34 = .ok (.lstore_n 2, 1) := by decide +kernel
theorem d_Md_undo_35 : decode b_Md_undo 35 = .ok (.aload_n 0, 1) := by decide +kernel
theorem d_Md_undo_36 : decode b_Md_undo 36 = .ok (.aload_n 0, 1) := by decide +kernel
theorem d_Md_undo_37 : decode b_Md_undo 37 = .ok (.getfield 7, 3) := by decide +kernel
theorem d_Md_undo_40 : decode b_Md_undo 40 = .ok (.aload_n 0, 1) := by decide +kernel
theorem d_Md_undo_41 : decode b_Md_undo 41 = .ok (.getfield 20, 3) := by decide +kernel
theorem d_Md_undo_44 : decode b_Md_undo 44 = .ok (.iload_n 1, 1) := by decide +kernel
theorem d_Md_undo_45 : decode b_Md_undo 45 = .ok (.iaload, 1) := by decide +kernel
theorem d_Md_undo_46 : decode b_Md_undo 46 = .ok (.iaload, 1) := by decide +kernel
theorem d_Md_undo_47 : decode b_Md_undo 47 = .ok (.lload_n 2, 1) := by decide +kernel
theorem d_Md_undo_48 : decode b_Md_undo 48 = .ok (.ldc2_w 60, 3) := by decide +kernel
theorem d_Md_undo_51 : decode b_Md_undo 51 = .ok (.lcmp, 1) := by decide +kernel
theorem d_Md_undo_52 : decode b_Md_undo 52 = .ok (.ifCond .ne (7), 3) := by decide +kernel
theorem d_Md_undo_55 : decode b_Md_undo 55 = .ok (.iconst 0, 1) := by decide +kernel
theorem d_Md_undo_56 : decode b_Md_undo 56 = .ok (.goto (5), 3) := by decide +kernel
theorem d_Md_undo_59 : decode b_Md_undo 59 = .ok (.lload_n 2, 1) := by decide +kernel
theorem d_Md_undo_60 : decode b_Md_undo 60 = .ok (.l2i, 1) := by decide +kernel
theorem d_Md_undo_61 : decode b_Md_undo 61 = .ok (.lload_n 2, 1) := by decide +kernel
theorem d_Md_undo_62 : decode b_Md_undo 62 = .ok (.ldc2_w 60, 3) := by decide +kernel
theorem d_Md_undo_65 : decode b_Md_undo 65 = .ok (.lcmp, 1) := by decide +kernel
theorem d_Md_undo_66 : decode b_Md_undo 66 = .ok (.ifCond .eq (7), 3) := by decide +kernel
theorem d_Md_undo_69 : decode b_Md_undo 69 = .ok (.iconst 1, 1) := by decide +kernel
theorem d_Md_undo_70 : decode b_Md_undo 70 = .ok (.goto (4), 3) := by decide +kernel
theorem d_Md_undo_73 : decode b_Md_undo 73 = .ok (.iconst 0, 1) := by decide +kernel
theorem d_Md_undo_74 : decode b_Md_undo 74 = .ok (.invokevirtual 72, 3) := by decide +kernel
theorem d_Md_undo_77 : decode b_Md_undo 77 = .ok (.istore 4, 2) := by decide +kernel
theorem d_Md_undo_79 : decode b_Md_undo 79 = .ok (.iinc 1 (-1), 3) := by decide +kernel
theorem d_Md_undo_82 : decode b_Md_undo 82 = .ok (.goto (-75), 3) := by decide +kernel
theorem d_Md_undo_85 : decode b_Md_undo 85 = .ok (.aload_n 0, 1) := by decide +kernel
theorem d_Md_undo_86 : decode b_Md_undo 86 = .ok (.getfield 65, 3) := by decide +kernel
theorem d_Md_undo_89 : decode b_Md_undo 89 = .ok (.ifCond .le (12), 3) := by decide +kernel
theorem d_Md_undo_92 : decode b_Md_undo 92 = .ok (.aload_n 0, 1) := by decide +kernel
theorem d_Md_undo_93 : decode b_Md_undo 93 = .ok (.bipush (-2), 2) := by decide +kernel
theorem d_Md_undo_95 : decode b_Md_undo 95 = .ok (.iconst 0, 1) := by decide +kernel
theorem d_Md_undo_96 : decode b_Md_undo 96 = .ok (.iconst 0, 1) := by decide +kernel
theorem d_Md_undo_97 : decode b_Md_undo 97 = .ok (.invokevirtual 72, 3) := by decide +kernel
theorem d_Md_undo_100 : decode b_Md_undo 100 = .ok (.istore_n 1, 1) := by decide +kernel
theorem d_Md_undo_101 : decode b_Md_undo 101 = .ok (.aload_n 0, 1) := by decide +kernel
theorem d_Md_undo_102 : decode b_Md_undo 102 = .ok (.iconst 0, 1) := by decide +kernel
theorem d_Md_undo_103 : decode b_Md_undo 103 = .ok (.putfield 65, 3) := by decide +kernel
theorem d_Md_undo_106 : decode b_Md_undo 106 = .ok (.aload_n 0, 1) := by decide +kernel
theorem d_Md_undo_107 : decode b_Md_undo 107 = .ok (.iconst 0, 1) := by decide +kernel
theorem d_Md_undo_108 : decode b_Md_undo 108 = .ok (.putfield 76, 3) := by decide +kernel
theorem d_Md_undo_111 : decode b_Md_undo 111 = .ok (.return_, 1) := by decide +kernel
theorem d_Md_after_0 : decode b_Md_after 0 = .ok (.iload_n 1, 1) := by decide +kernel
theorem d_Md_after_1 : decode b_Md_after 1 = .ok (.istore_n 3, 1) := by decide +kernel
theorem d_Md_after_2 : decode b_Md_after 2 = .ok (.iload_n 3, 1) := by decide +kernel
theorem d_Md_after_3 : decode b_Md_after 3 = .ok (.ifCond .le (42), 3) := by decide +kernel
theorem d_Md_after_6 : decode b_Md_after 6 = .ok (.aload_n 0, 1) := by decide +kernel
theorem d_Md_after_7 : decode b_Md_after 7 = .ok (.getfield 7, 3) := by decide +kernel
theorem d_Md_after_10 : decode b_Md_after 10 = .ok (.iload_n 3, 1) := by decide +kernel
theorem d_Md_after_11 : decode b_Md_after 11 = .ok (.iaload, 1) := by decide +kernel
theorem d_Md_after_12 : decode b_Md_after 12 = .ok (.iload_n 2, 1) := by decide +kernel
theorem d_Md_after_13 : decode b_Md_after 13 = .ok (.if_icmp .ne (26), 3) := by decide +kernel
theorem d_Md_after_16 : decode b_Md_after 16 = .ok (.aload_n 0, 1) := by decide +kernel
theorem d_Md_after_17 : decode b_Md_after 17 = .ok (.getfield 16, 3) := by decide +kernel
theorem d_Md_after_20 : decode b_Md_after 20 = .ok (.iload_n 3, 1) := by decide +kernel
theorem d_Md_after_21 : decode b_Md_after 21 = .ok (.baload, 1) := by decide +kernel
theorem d_Md_after_22 : decode b_Md_after 22 = .ok (.ifCond .eq (13), 3) := by decide +kernel
theorem d_Md_after_25 : decode b_Md_after 25 = .ok (.aload_n 0, 1) := by decide +kernel
theorem d_Md_after_26 : decode b_Md_after 26 = .ok (.getfield 13, 3) := by decide +kernel
theorem d_Md_after_29 : decode b_Md_after 29 = .ok (.iload_n 3, 1) := by decide +kernel
theorem d_Md_after_30 : decode b_Md_after 30 = .ok (.iaload, 1) := by decide +kernel
theorem d_Md_after_31 : decode b_Md_after 31 = .ok (.i2l, 1) := by decide +kernel
theorem d_Md_after_32 : decode b_Md_after 32 = .ok (.goto (6), 3) := by decide +kernel
theorem d_Md_after_35 : decode b_Md_after 35 = .ok (.ldc2_w 60, 3) := by decide +kernel
theorem d_Md_after_38 : decode b_Md_after 38 = .ok (.lreturn, 1) := by decide +kernel
theorem d_Md_after_39 : decode b_Md_after 39 = .ok (.iinc 3 (-1), 3) := by decide +kernel
theorem d_Md_after_42 : decode b_Md_after 42 = .ok (.goto (-40), 3) := by decide +kernel
theorem d_Md_after_45 : decode b_Md_after 45 = .ok (.ldc2_w 60, 3) := by decide +kernel
theorem d_Md_after_48 : decode b_Md_after 48 = .ok (.lreturn, 1) := by decide +kernel
theorem d_Md_get_0 : decode b_Md_get 0 = .ok (.iload_n 1, 1) := by decide +kernel
theorem d_Md_get_1 : decode b_Md_get 1 = .ok (.bipush (32), 2) := by decide +kernel
theorem d_Md_get_3 : decode b_Md_get 3 = .ok (.invokestatic 80, 3) := by decide +kernel
theorem d_Md_get_6 : decode b_Md_get 6 = .ok (.ifCond .eq (15), 3) := by decide +kernel
theorem d_Md_get_9 : decode b_Md_get 9 = .ok (.aload_n 0, 1) := by decide +kernel
theorem d_Md_get_10 : decode b_Md_get 10 = .ok (.aload_n 0, 1) := by decide +kernel
theorem d_Md_get_11 : decode b_Md_get 11 = .ok (.getfield 57, 3) := by decide +kernel
theorem d_Md_get_14 : decode b_Md_get 14 = .ok (.iload_n 1, 1) := by decide +kernel
theorem d_Md_get_15 : decode b_Md_get 15 = .ok (.invokevirtual 68, 3) := by decide +kernel
theorem d_Md_get_18 : decode b_Md_get 18 = .ok (.goto (6), 3) := by decide +kernel
theorem d_Md_get_21 : decode b_Md_get 21 = .ok (.ldc2_w 94, 3) := by decide +kernel
theorem d_Md_get_24 : decode b_Md_get 24 = .ok (.lreturn, 1) := by decide +kernel
theorem d_Md_write_0 : decode b_Md_write 0 = .ok (.iload_n 1, 1) := by decide +kernel
theorem d_Md_write_1 : decode b_Md_write 1 = .ok (.bipush (8), 2) := by decide +kernel
theorem d_Md_write_3 : decode b_Md_write 3 = .ok (.invokestatic 80, 3) := by decide +kernel
theorem d_Md_write_6 : decode b_Md_write 6 = .ok (.ifCond .ne (5), 3) := by decide +kernel
theorem d_Md_write_9 : decode b_Md_write 9 = .ok (.iconst (-1), 1) := by decide +kernel
theorem d_Md_write_10 : decode b_Md_write 10 = .ok (.ireturn, 1) := by decide +kernel
theorem d_Md_write_11 : decode b_Md_write 11 = .ok (.aload_n 0, 1) := by decide +kernel
theorem d_Md_write_12 : decode b_Md_write 12 = .ok (.getfield 23, 3) := by decide +kernel
theorem d_Md_write_15 : decode b_Md_write 15 = .ok (.iload_n 1, 1) := by decide +kernel
theorem d_Md_write_16 : decode b_Md_write 16 = .ok (.aload_n 0, 1) := by decide +kernel
theorem d_Md_write_17 : decode b_Md_write 17 = .ok (.iload_n 1, 1) := by decide +kernel
theorem d_Md_write_18 : decode b_Md_write 18 = .ok (.invokevirtual 96, 3) := by decide +kernel
theorem d_Md_write_21 : decode b_Md_write 21 = .ok (.iastore, 1) := by decide +kernel
theorem d_Md_write_22 : decode b_Md_write 22 = .ok (.aload_n 0, 1) := by decide +kernel
theorem d_Md_write_23 : decode b_Md_write 23 = .ok (.getfield 26, 3) := by decide +kernel
theorem d_Md_write_26 : decode b_Md_write 26 = .ok (.iload_n 1, 1) := by decide +kernel
theorem d_Md_write_27 : decode b_Md_write 27 = .ok (.iconst 1, 1) := by decide +kernel
theorem d_Md_write_28 : decode b_Md_write 28 = .ok (.bastore, 1) := by decide +kernel
theorem d_Md_write_29 : decode b_Md_write 29 = .ok (.aload_n 0, 1) := by decide +kernel
theorem d_Md_write_30 : decode b_Md_write 30 = .ok (.getfield 23, 3) := by decide +kernel
theorem d_Md_write_33 : decode b_Md_write 33 = .ok (.iload_n 1, 1) := by decide +kernel
theorem d_Md_write_34 : decode b_Md_write 34 = .ok (.iaload, 1) := by decide +kernel
theorem d_Md_write_35 : decode b_Md_write 35 = .ok (.ireturn, 1) := by decide +kernel
theorem d_Md_numberOf_0 : decode b_Md_numberOf 0 = .ok (.aload_n 0, 1) := by decide +kernel
theorem d_Md_numberOf_1 : decode b_Md_numberOf 1 = .ok (.getfield 57, 3) := by decide +kernel
theorem d_Md_numberOf_4 : decode b_Md_numberOf 4 = .ok (.istore_n 2, 1) := by decide +kernel
theorem d_Md_numberOf_5 : decode b_Md_numberOf 5 = .ok (.iload_n 2, 1) := by decide +kernel
theorem d_Md_numberOf_6 : decode b_Md_numberOf 6 = .ok (.ifCond .le (32), 3) := by decide +kernel
theorem d_Md_numberOf_9 : decode b_Md_numberOf 9 = .ok (.aload_n 0, 1) := by decide +kernel
theorem d_Md_numberOf_10 : decode b_Md_numberOf 10 = .ok (.getfield 7, 3) := by decide +kernel
theorem d_Md_numberOf_13 : decode b_Md_numberOf 13 = .ok (.iload_n 2, 1) := by decide +kernel
theorem d_Md_numberOf_14 : decode b_Md_numberOf 14 = .ok (.iaload, 1) := by decide +kernel
theorem d_Md_numberOf_15 : decode b_Md_numberOf 15 = .ok (.ifCond .lt (17), 3) := by decide +kernel
theorem d_Md_numberOf_18 : decode b_Md_numberOf 18 = .ok (.aload_n 0, 1) := by decide +kernel
theorem d_Md_numberOf_19 : decode b_Md_numberOf 19 = .ok (.getfield 7, 3) := by decide +kernel
theorem d_Md_numberOf_22 : decode b_Md_numberOf 22 = .ok (.iload_n 2, 1) := by decide +kernel
theorem d_Md_numberOf_23 : decode b_Md_numberOf 23 = .ok (.iaload, 1) := by decide +kernel
theorem d_Md_numberOf_24 : decode b_Md_numberOf 24 = .ok (.iconst 4, 1) := by decide +kernel
theorem d_Md_numberOf_25 : decode b_Md_numberOf 25 = .ok (.idiv, 1) := by decide +kernel
theorem d_Md_numberOf_26 : decode b_Md_numberOf 26 = .ok (.iload_n 1, 1) := by decide +kernel
theorem d_Md_numberOf_27 : decode b_Md_numberOf 27 = .ok (.if_icmp .ne (5), 3) := by decide +kernel
theorem d_Md_numberOf_30 : decode b_Md_numberOf 30 = .ok (.iload_n 2, 1) := by decide +kernel
theorem d_Md_numberOf_31 : decode b_Md_numberOf 31 = .ok (.ireturn, 1) := by decide +kernel
theorem d_Md_numberOf_32 : decode b_Md_numberOf 32 = .ok (.iinc 2 (-1), 3) := by decide +kernel
theorem d_Md_numberOf_35 : decode b_Md_numberOf 35 = .ok (.goto (-30), 3) := by decide +kernel
theorem d_Md_numberOf_38 : decode b_Md_numberOf 38 = .ok (.iconst 0, 1) := by decide +kernel
theorem d_Md_numberOf_39 : decode b_Md_numberOf 39 = .ok (.ireturn, 1) := by decide +kernel
theorem d_Md_archive_0 : decode b_Md_archive 0 = .ok (.aload_n 0, 1) := by decide +kernel
theorem d_Md_archive_1 : decode b_Md_archive 1 = .ok (.getfield 62, 3) := by decide +kernel
theorem d_Md_archive_4 : decode b_Md_archive 4 = .ok (.iconst 1, 1) := by decide +kernel
theorem d_Md_archive_5 : decode b_Md_archive 5 = .ok (.iadd, 1) := by decide +kernel
theorem d_Md_archive_6 : decode b_Md_archive 6 = .ok (.aload_n 0, 1) := by decide +kernel
theorem d_Md_archive_7 : decode b_Md_archive 7 = .ok (.getfield 51, 3) := by decide +kernel
theorem d_Md_archive_10 : decode b_Md_archive 10 = .ok (.imul, 1) := by decide +kernel
theorem d_Md_archive_11 : decode b_Md_archive 11 = .ok (.aload_n 0, 1) := by decide +kernel
theorem d_Md_archive_12 : decode b_Md_archive 12 = .ok (.getfield 57, 3) := by decide +kernel
theorem d_Md_archive_15 : decode b_Md_archive 15 = .ok (.if_icmp .le (5), 3) := by decide +kernel
theorem d_Md_archive_18 : decode b_Md_archive 18 = .ok (.iconst (-1), 1) := by decide +kernel
theorem d_Md_archive_19 : decode b_Md_archive 19 = .ok (.ireturn, 1) := by decide +kernel
theorem d_Md_archive_20 : decode b_Md_archive 20 = .ok (.aload_n 0, 1) := by decide +kernel
theorem d_Md_archive_21 : decode b_Md_archive 21 = .ok (.dup, 1) := by decide +kernel
theorem d_Md_archive_22 : decode b_Md_archive 22 = .ok (.getfield 62, 3) := by decide +kernel
theorem d_Md_archive_25 : decode b_Md_archive 25 = .ok (.iconst 1, 1) := by decide +kernel
theorem d_Md_archive_26 : decode b_Md_archive 26 = .ok (.iadd, 1) := by decide +kernel
theorem d_Md_archive_27 : decode b_Md_archive 27 = .ok (.putfield 62, 3) := by decide +kernel
theorem d_Md_archive_30 : decode b_Md_archive 30 = .ok (.aload_n 0, 1) := by decide +kernel
theorem d_Md_archive_31 : decode b_Md_archive 31 = .ok (.getfield 62, 3) := by decide +kernel
theorem d_Md_archive_34 : decode b_Md_archive 34 = .ok (.ireturn, 1) := by decide +kernel
theorem d_Md_backup_0 : decode b_Md_backup 0 = .ok (.aload_n 0, 1) := by decide +kernel
theorem d_Md_backup_1 : decode b_Md_backup 1 = .ok (.getfield 44, 3) := by decide +kernel
theorem d_Md_backup_4 : decode b_Md_backup 4 = .ok (.ifCond .ge (14), 3) := by decide +kernel
theorem d_Md_backup_7 : decode b_Md_backup 7 = .ok (.iload_n 1, 1) := by decide +kernel
theorem d_Md_backup_8 : decode b_Md_backup 8 = .ok (.ifCond .ne (12), 3) := by decide +kernel
theorem d_Md_backup_11 : decode b_Md_backup 11 = .ok (.aload_n 0, 1) := by decide +kernel
theorem d_Md_backup_12 : decode b_Md_backup 12 = .ok (.invokevirtual 103, 3) := by decide +kernel
theorem d_Md_backup_15 : decode b_Md_backup 15 = .ok (.ifCond .ne (5), 3) := by decide +kernel
theorem d_Md_backup_18 : decode b_Md_backup 18 = .ok (.iconst (-1), 1) := by decide +kernel
theorem d_Md_backup_19 : decode b_Md_backup 19 = .ok (.ireturn, 1) := by decide +kernel
theorem d_Md_backup_20 : decode b_Md_backup 20 = .ok (.aload_n 0, 1) := by decide +kernel
theorem d_Md_backup_21 : decode b_Md_backup 21 = .ok (.getfield 100, 3) := by decide +kernel
theorem d_Md_backup_24 : decode b_Md_backup 24 = .ok (.iconst 1, 1) := by decide +kernel
theorem d_Md_backup_25 : decode b_Md_backup 25 = .ok (.iadd, 1) := by decide +kernel
theorem d_Md_backup_26 : decode b_Md_backup 26 = .ok (.istore_n 2, 1) := by decide +kernel
theorem d_Md_backup_27 : decode b_Md_backup 27 = .ok (.aload_n 0, 1) := by decide +kernel
theorem d_Md_backup_28 : decode b_Md_backup 28 = .ok (.getfield 32, 3) := by decide +kernel
theorem d_Md_backup_31 : decode b_Md_backup 31 = .ok (.iload_n 2, 1) := by decide +kernel
theorem d_Md_backup_32 : decode b_Md_backup 32 = .ok (.iload_n 1, 1) := by decide +kernel
theorem d_Md_backup_33 : decode b_Md_backup 33 = .ok (.bastore, 1) := by decide +kernel
theorem d_Md_backup_34 : decode b_Md_backup 34 = .ok (.aload_n 0, 1) := by decide +kernel
theorem d_Md_backup_35 : decode b_Md_backup 35 = .ok (.getfield 35, 3) := by decide +kernel
theorem d_Md_backup_38 : decode b_Md_backup 38 = .ok (.iload_n 2, 1) := by decide +kernel
theorem d_Md_backup_39 : decode b_Md_backup 39 = .ok (.aload_n 0, 1) := by decide +kernel
theorem d_Md_backup_40 : decode b_Md_backup 40 = .ok (.getfield 57, 3) := by decide +kernel
theorem d_Md_backup_43 : decode b_Md_backup 43 = .ok (.iastore, 1) := by decide +kernel
theorem d_Md_backup_44 : decode b_Md_backup 44 = .ok (.iconst 0, 1) := by decide +kernel
theorem d_Md_backup_45 : decode b_Md_backup 45 = .ok (.istore_n 3, 1) := by decide +kernel
theorem d_Md_backup_46 : decode b_Md_backup 46 = .ok (.iload_n 3, 1) := by decide +kernel
theorem d_Md_backup_47 : decode b_Md_backup 47 = .ok (.bipush (8), 2) := by decide +kernel
theorem d_Md_backup_49 : decode b_Md_backup 49 = .ok (.if_icmp .ge (21), 3) := by decide +kernel
theorem d_Md_backup_52 : decode b_Md_backup 52 = .ok (.aload_n 0, 1) := by decide +kernel
theorem d_Md_backup_53 : decode b_Md_backup 53 = .ok (.getfield 41, 3) := by decide +kernel
theorem d_Md_backup_56 : decode b_Md_backup 56 = .ok (.iload_n 2, 1) := by decide +kernel
theorem d_Md_backup_57 : decode b_Md_backup 57 = .ok (.bipush (8), 2) := by decide +kernel
theorem d_Md_backup_59 : decode b_Md_backup 59 = .ok (.imul, 1) := by decide +kernel
theorem d_Md_backup_60 : decode b_Md_backup 60 = .ok (.iload_n 3, 1) := by decide +kernel
theorem d_Md_backup_61 : decode b_Md_backup 61 = .ok (.iadd, 1) := by decide +kernel
theorem d_Md_backup_62 : decode b_Md_backup 62 = .ok (.iconst (-1), 1) := by decide +kernel
theorem d_Md_backup_63 : decode b_Md_backup 63 = .ok (.iastore, 1) := by decide +kernel
theorem d_Md_backup_64 : decode b_Md_backup 64 = .ok (.iinc 3 (1), 3) := by decide +kernel
theorem d_Md_backup_67 : decode b_Md_backup 67 = .ok (.goto (-21), 3) := by decide +kernel
theorem d_Md_backup_70 : decode b_Md_backup 70 = .ok (.aload_n 0, 1) := by decide +kernel
theorem d_Md_backup_71 : decode b_Md_backup 71 = .ok (.bipush (8), 2) := by decide +kernel
theorem d_Md_backup_73 : decode b_Md_backup 73 = .ok (.putfield 44, 3) := by decide +kernel
theorem d_Md_backup_76 : decode b_Md_backup 76 = .ok (.iconst 0, 1) := by decide +kernel
theorem d_Md_backup_77 : decode b_Md_backup 77 = .ok (.ireturn, 1) := by decide +kernel
theorem d_Md_fulls_0 : decode b_Md_fulls 0 = .ok (.iconst 0, 1) := by decide +kernel
theorem d_Md_fulls_1 : decode b_Md_fulls 1 = .ok (.istore_n 1, 1) := by decide +kernel
theorem d_Md_fulls_2 : decode b_Md_fulls 2 = .ok (.iconst 1, 1) := by decide +kernel
theorem d_Md_fulls_3 : decode b_Md_fulls 3 = .ok (.istore_n 2, 1) := by decide +kernel
theorem d_Md_fulls_4 : decode b_Md_fulls 4 = .ok (.iload_n 2, 1) := by decide +kernel
theorem d_Md_fulls_5 : decode b_Md_fulls 5 = .ok (.aload_n 0, 1) := by decide +kernel
theorem d_Md_fulls_6 : decode b_Md_fulls 6 = .ok (.getfield 100, 3) := by decide +kernel
theorem d_Md_fulls_9 : decode b_Md_fulls 9 = .ok (.if_icmp .gt (30), 3) := by decide +kernel
theorem d_Md_fulls_12 : decode b_Md_fulls 12 = .ok (.aload_n 0, 1) := by decide +kernel
theorem d_Md_fulls_13 : decode b_Md_fulls 13 = .ok (.getfield 29, 3) := by decide +kernel
theorem d_Md_fulls_16 : decode b_Md_fulls 16 = .ok (.iload_n 2, 1) := by decide +kernel
theorem d_Md_fulls_17 : decode b_Md_fulls 17 = .ok (.baload, 1) := by decide +kernel
theorem d_Md_fulls_18 : decode b_Md_fulls 18 = .ok (.ifCond .eq (15), 3) := by decide +kernel
theorem d_Md_fulls_21 : decode b_Md_fulls 21 = .ok (.aload_n 0, 1) := by decide +kernel
theorem d_Md_fulls_22 : decode b_Md_fulls 22 = .ok (.getfield 32, 3) := by decide +kernel
theorem d_Md_fulls_25 : decode b_Md_fulls 25 = .ok (.iload_n 2, 1) := by decide +kernel
theorem d_Md_fulls_26 : decode b_Md_fulls 26 = .ok (.baload, 1) := by decide +kernel
theorem d_Md_fulls_27 : decode b_Md_fulls 27 = .ok (.ifCond .eq (6), 3) := by decide +kernel
theorem d_Md_fulls_30 : decode b_Md_fulls 30 = .ok (.iinc 1 (1), 3) := by decide +kernel
theorem d_Md_fulls_33 : decode b_Md_fulls 33 = .ok (.iinc 2 (1), 3) := by decide +kernel
theorem d_Md_fulls_36 : decode b_Md_fulls 36 = .ok (.goto (-32), 3) := by decide +kernel
theorem d_Md_fulls_39 : decode b_Md_fulls 39 = .ok (.iload_n 1, 1) := by decide +kernel
theorem d_Md_fulls_40 : decode b_Md_fulls 40 = .ok (.ireturn, 1) := by decide +kernel
theorem d_Md_step_0 : decode b_Md_step 0 = .ok (.iload_n 1, 1) := by decide +kernel
theorem d_Md_step_1 : decode b_Md_step 1 = .ok (.iconst 1, 1) := by decide +kernel
theorem d_Md_step_2 : decode b_Md_step 2 = .ok (.if_icmp .lt (16), 3) := by decide +kernel
theorem d_Md_step_5 : decode b_Md_step 5 = .ok (.iload_n 1, 1) := by decide +kernel
theorem d_Md_step_6 : decode b_Md_step 6 = .ok (.bipush (8), 2) := by decide +kernel
theorem d_Md_step_8 : decode b_Md_step 8 = .ok (.if_icmp .gt (10), 3) := by decide +kernel
theorem d_Md_step_11 : decode b_Md_step 11 = .ok (.aload_n 0, 1) := by decide +kernel
theorem d_Md_step_12 : decode b_Md_step 12 = .ok (.getfield 44, 3) := by decide +kernel
theorem d_Md_step_15 : decode b_Md_step 15 = .ok (.ifCond .ge (5), 3) := by decide +kernel
theorem d_Md_step_18 : decode b_Md_step 18 = .ok (.iconst (-1), 1) := by decide +kernel
theorem d_Md_step_19 : decode b_Md_step 19 = .ok (.ireturn, 1) := by decide +kernel
theorem d_Md_step_20 : decode b_Md_step 20 = .ok (.aload_n 0, 1) := by decide +kernel
theorem d_Md_step_21 : decode b_Md_step 21 = .ok (.getfield 100, 3) := by decide +kernel
theorem d_Md_step_24 : decode b_Md_step 24 = .ok (.iconst 1, 1) := by decide +kernel
theorem d_Md_step_25 : decode b_Md_step 25 = .ok (.iadd, 1) := by decide +kernel
theorem d_Md_step_26 : decode b_Md_step 26 = .ok (.istore_n 2, 1) := by decide +kernel
theorem d_Md_step_27 : decode b_Md_step 27 = .ok (.iconst 0, 1) := by decide +kernel
theorem d_Md_step_28 : decode b_Md_step 28 = .ok (.istore_n 3, 1) := by decide +kernel
theorem d_Md_step_29 : decode b_Md_step 29 = .ok (.iload_n 3, 1) := by decide +kernel
theorem d_Md_step_30 : decode b_Md_step 30 = .ok (.iload_n 1, 1) := by decide +kernel
theorem d_Md_step_31 : decode b_Md_step 31 = .ok (.if_icmp .ge (80), 3) := by decide +kernel
theorem d_Md_step_34 : decode b_Md_step 34 = .ok (.aload_n 0, 1) := by decide +kernel
theorem d_Md_step_35 : decode b_Md_step 35 = .ok (.getfield 44, 3) := by decide +kernel
theorem d_Md_step_38 : decode b_Md_step 38 = .ok (.ifCond .le (73), 3) := by decide +kernel
theorem d_Md_step_41 : decode b_Md_step 41 = .ok (.bipush (8), 2) := by decide +kernel
theorem d_Md_step_43 : decode b_Md_step 43 = .ok (.aload_n 0, 1) := by decide +kernel
theorem d_Md_step_44 : decode b_Md_step 44 = .ok (.getfield 44, 3) := by decide +kernel
theorem d_Md_step_47 : decode b_Md_step 47 = .ok (.isub, 1) := by decide +kernel
theorem d_Md_step_48 : decode b_Md_step 48 = .ok (.istore 4, 2) := by decide +kernel
theorem d_Md_step_50 : decode b_Md_step 50 = .ok (.aload_n 0, 1) := by decide +kernel
theorem d_Md_step_51 : decode b_Md_step 51 = .ok (.iload 4, 2) := by decide +kernel
theorem d_Md_step_53 : decode b_Md_step 53 = .ok (.invokevirtual 96, 3) := by decide +kernel
theorem d_Md_step_56 : decode b_Md_step 56 = .ok (.istore 5, 2) := by decide +kernel
theorem d_Md_step_58 : decode b_Md_step 58 = .ok (.aload_n 0, 1) := by decide +kernel
theorem d_Md_step_59 : decode b_Md_step 59 = .ok (.getfield 32, 3) := by decide +kernel
theorem d_Md_step_62 : decode b_Md_step 62 = .ok (.iload_n 2, 1) := by decide +kernel
theorem d_Md_step_63 : decode b_Md_step 63 = .ok (.baload, 1) := by decide +kernel
theorem d_Md_step_64 : decode b_Md_step 64 = .ok (.ifCond .ne (17), 3) := by decide +kernel
theorem d_Md_step_67 : decode b_Md_step 67 = .ok (.iload 5, 2) := by decide +kernel
theorem d_Md_step_69 : decode b_Md_step 69 = .ok (.aload_n 0, 1) := by decide +kernel
theorem d_Md_step_70 : decode b_Md_step 70 = .ok (.getfield 35, 3) := by decide +kernel
theorem d_Md_step_73 : decode b_Md_step 73 = .ok (.aload_n 0, 1) := by decide +kernel
theorem d_Md_step_74 : decode b_Md_step 74 = .ok (.getfield 100, 3) := by decide +kernel
theorem d_Md_step_77 : decode b_Md_step 77 = .ok (.iaload, 1) := by decide +kernel
theorem d_Md_step_78 : decode b_Md_step 78 = .ok (.if_icmp .le (17), 3) := by decide +kernel
theorem d_Md_step_81 : decode b_Md_step 81 = .ok (.aload_n 0, 1) := by decide +kernel
theorem d_Md_step_82 : decode b_Md_step 82 = .ok (.getfield 41, 3) := by decide +kernel
theorem d_Md_step_85 : decode b_Md_step 85 = .ok (.iload_n 2, 1) := by decide +kernel
theorem d_Md_step_86 : decode b_Md_step 86 = .ok (.bipush (8), 2) := by decide +kernel
theorem d_Md_step_88 : decode b_Md_step 88 = .ok (.imul, 1) := by decide +kernel
theorem d_Md_step_89 : decode b_Md_step 89 = .ok (.iload 4, 2) := by decide +kernel
theorem d_Md_step_91 : decode b_Md_step 91 = .ok (.iadd, 1) := by decide +kernel
theorem d_Md_step_92 : decode b_Md_step 92 = .ok (.iload 5, 2) := by decide +kernel
theorem d_Md_step_94 : decode b_Md_step 94 = .ok (.iastore, 1) := by decide +kernel
theorem d_Md_step_95 : decode b_Md_step 95 = .ok (.aload_n 0, 1) := by decide +kernel
theorem d_Md_step_96 : decode b_Md_step 96 = .ok (.dup, 1) := by decide +kernel
theorem d_Md_step_97 : decode b_Md_step 97 = .ok (.getfield 44, 3) := by decide +kernel
theorem d_Md_step_100 : decode b_Md_step 100 = .ok (.iconst 1, 1) := by decide +kernel
theorem d_Md_step_101 : decode b_Md_step 101 = .ok (.isub, 1) := by decide +kernel
theorem d_Md_step_102 : decode b_Md_step 102 = .ok (.putfield 44, 3) := by decide +kernel
theorem d_Md_step_105 : decode b_Md_step 105 = .ok (.iinc 3 (1), 3) := by decide +kernel
theorem d_Md_step_108 : decode b_Md_step 108 = .ok (.goto (-79), 3) := by decide +kernel
theorem d_Md_step_111 : decode b_Md_step 111 = .ok (.aload_n 0, 1) := by decide +kernel
theorem d_Md_step_112 : decode b_Md_step 112 = .ok (.getfield 44, 3) := by decide +kernel
theorem d_Md_step_115 : decode b_Md_step 115 = .ok (.ifCond .le (8), 3) := by decide +kernel
theorem d_Md_step_118 : decode b_Md_step 118 = .ok (.aload_n 0, 1) := by decide +kernel
theorem d_Md_step_119 : decode b_Md_step 119 = .ok (.getfield 44, 3) := by decide +kernel
theorem d_Md_step_122 : decode b_Md_step 122 = .ok (.ireturn, 1) := by decide +kernel
theorem d_Md_step_123 : decode b_Md_step 123 = .ok (.aload_n 0, 1) := by decide +kernel
theorem d_Md_step_124 : decode b_Md_step 124 = .ok (.invokevirtual 112, 3) := by decide +kernel
theorem d_Md_step_127 : decode b_Md_step 127 = .ok (.iconst 0, 1) := by decide +kernel
theorem d_Md_step_128 : decode b_Md_step 128 = .ok (.ireturn, 1) := by decide +kernel
theorem d_Md_finish_0 : decode b_Md_finish 0 = .ok (.aload_n 0, 1) := by decide +kernel
theorem d_Md_finish_1 : decode b_Md_finish 1 = .ok (.dup, 1) := by decide +kernel
theorem d_Md_finish_2 : decode b_Md_finish 2 = .ok (.getfield 100, 3) := by decide +kernel
theorem d_Md_finish_5 : decode b_Md_finish 5 = .ok (.iconst 1, 1) := by decide +kernel
theorem d_Md_finish_6 : decode b_Md_finish 6 = .ok (.iadd, 1) := by decide +kernel
theorem d_Md_finish_7 : decode b_Md_finish 7 = .ok (.putfield 100, 3) := by decide +kernel
theorem d_Md_finish_10 : decode b_Md_finish 10 = .ok (.aload_n 0, 1) := by decide +kernel
theorem d_Md_finish_11 : decode b_Md_finish 11 = .ok (.getfield 29, 3) := by decide +kernel
theorem d_Md_finish_14 : decode b_Md_finish 14 = .ok (.aload_n 0, 1) := by decide +kernel
theorem d_Md_finish_15 : decode b_Md_finish 15 = .ok (.getfield 100, 3) := by decide +kernel
theorem d_Md_finish_18 : decode b_Md_finish 18 = .ok (.iconst 1, 1) := by decide +kernel
theorem d_Md_finish_19 : decode b_Md_finish 19 = .ok (.bastore, 1) := by decide +kernel
theorem d_Md_finish_20 : decode b_Md_finish 20 = .ok (.aload_n 0, 1) := by decide +kernel
theorem d_Md_finish_21 : decode b_Md_finish 21 = .ok (.getfield 38, 3) := by decide +kernel
theorem d_Md_finish_24 : decode b_Md_finish 24 = .ok (.aload_n 0, 1) := by decide +kernel
theorem d_Md_finish_25 : decode b_Md_finish 25 = .ok (.getfield 100, 3) := by decide +kernel
theorem d_Md_finish_28 : decode b_Md_finish 28 = .ok (.aload_n 0, 1) := by decide +kernel
theorem d_Md_finish_29 : decode b_Md_finish 29 = .ok (.getfield 57, 3) := by decide +kernel
theorem d_Md_finish_32 : decode b_Md_finish 32 = .ok (.iastore, 1) := by decide +kernel
theorem d_Md_finish_33 : decode b_Md_finish 33 = .ok (.aload_n 0, 1) := by decide +kernel
theorem d_Md_finish_34 : decode b_Md_finish 34 = .ok (.bipush (-2), 2) := by decide +kernel
theorem d_Md_finish_36 : decode b_Md_finish 36 = .ok (.putfield 44, 3) := by decide +kernel
theorem d_Md_finish_39 : decode b_Md_finish 39 = .ok (.aload_n 0, 1) := by decide +kernel
theorem d_Md_finish_40 : decode b_Md_finish 40 = .ok (.getfield 32, 3) := by decide +kernel
theorem d_Md_finish_43 : decode b_Md_finish 43 = .ok (.aload_n 0, 1) := by decide +kernel
theorem d_Md_finish_44 : decode b_Md_finish 44 = .ok (.getfield 100, 3) := by decide +kernel
theorem d_Md_finish_47 : decode b_Md_finish 47 = .ok (.baload, 1) := by decide +kernel
theorem d_Md_finish_48 : decode b_Md_finish 48 = .ok (.ifCond .eq (14), 3) := by decide +kernel
theorem d_Md_finish_51 : decode b_Md_finish 51 = .ok (.aload_n 0, 1) := by decide +kernel
theorem d_Md_finish_52 : decode b_Md_finish 52 = .ok (.invokevirtual 103, 3) := by decide +kernel
theorem d_Md_finish_55 : decode b_Md_finish 55 = .ok (.aload_n 0, 1) := by decide +kernel
theorem d_Md_finish_56 : decode b_Md_finish 56 = .ok (.getfield 54, 3) := by decide +kernel
theorem d_Md_finish_59 : decode b_Md_finish 59 = .ok (.if_icmp .gt (4), 3) := by decide +kernel
theorem d_Md_finish_62 : decode b_Md_finish 62 = .ok (.return_, 1) := by decide +kernel
theorem d_Md_finish_63 : decode b_Md_finish 63 = .ok (.aload_n 0, 1) := by decide +kernel
theorem d_Md_finish_64 : decode b_Md_finish 64 = .ok (.aload_n 0, 1) := by decide +kernel
theorem d_Md_finish_65 : decode b_Md_finish 65 = .ok (.iconst 1, 1) := by decide +kernel
theorem d_Md_finish_66 : decode b_Md_finish 66 = .ok (.invokevirtual 106, 3) := by decide +kernel
theorem d_Md_finish_69 : decode b_Md_finish 69 = .ok (.iconst 1, 1) := by decide +kernel
theorem d_Md_finish_70 : decode b_Md_finish 70 = .ok (.iadd, 1) := by decide +kernel
theorem d_Md_finish_71 : decode b_Md_finish 71 = .ok (.invokevirtual 106, 3) := by decide +kernel
theorem d_Md_finish_74 : decode b_Md_finish 74 = .ok (.istore_n 1, 1) := by decide +kernel
theorem d_Md_finish_75 : decode b_Md_finish 75 = .ok (.iconst 1, 1) := by decide +kernel
theorem d_Md_finish_76 : decode b_Md_finish 76 = .ok (.istore_n 2, 1) := by decide +kernel
theorem d_Md_finish_77 : decode b_Md_finish 77 = .ok (.iload_n 2, 1) := by decide +kernel
theorem d_Md_finish_78 : decode b_Md_finish 78 = .ok (.iload_n 1, 1) := by decide +kernel
theorem d_Md_finish_79 : decode b_Md_finish 79 = .ok (.if_icmp .ge (16), 3) := by decide +kernel
theorem d_Md_finish_82 : decode b_Md_finish 82 = .ok (.aload_n 0, 1) := by decide +kernel
theorem d_Md_finish_83 : decode b_Md_finish 83 = .ok (.getfield 29, 3) := by decide +kernel
theorem d_Md_finish_86 : decode b_Md_finish 86 = .ok (.iload_n 2, 1) := by decide +kernel
theorem d_Md_finish_87 : decode b_Md_finish 87 = .ok (.iconst 0, 1) := by decide +kernel
theorem d_Md_finish_88 : decode b_Md_finish 88 = .ok (.bastore, 1) := by decide +kernel
theorem d_Md_finish_89 : decode b_Md_finish 89 = .ok (.iinc 2 (1), 3) := by decide +kernel
theorem d_Md_finish_92 : decode b_Md_finish 92 = .ok (.goto (-15), 3) := by decide +kernel
theorem d_Md_finish_95 : decode b_Md_finish 95 = .ok (.aload_n 0, 1) := by decide +kernel
theorem d_Md_finish_96 : decode b_Md_finish 96 = .ok (.getfield 35, 3) := by decide +kernel
theorem d_Md_finish_99 : decode b_Md_finish 99 = .ok (.iload_n 1, 1) := by decide +kernel
theorem d_Md_finish_100 : decode b_Md_finish 100 = .ok (.iaload, 1) := by decide +kernel
theorem d_Md_finish_101 : decode b_Md_finish 101 = .ok (.aload_n 0, 1) := by decide +kernel
theorem d_Md_finish_102 : decode b_Md_finish 102 = .ok (.getfield 51, 3) := by decide +kernel
theorem d_Md_finish_105 : decode b_Md_finish 105 = .ok (.idiv, 1) := by decide +kernel
theorem d_Md_finish_106 : decode b_Md_finish 106 = .ok (.istore_n 2, 1) := by decide +kernel
theorem d_Md_finish_107 : decode b_Md_finish 107 = .ok (.iload_n 2, 1) := by decide +kernel
theorem d_Md_finish_108 : decode b_Md_finish 108 = .ok (.aload_n 0, 1) := by decide +kernel
theorem d_Md_finish_109 : decode b_Md_finish 109 = .ok (.getfield 62, 3) := by decide +kernel
theorem d_Md_finish_112 : decode b_Md_finish 112 = .ok (.if_icmp .le (8), 3) := by decide +kernel
theorem d_Md_finish_115 : decode b_Md_finish 115 = .ok (.aload_n 0, 1) := by decide +kernel
theorem d_Md_finish_116 : decode b_Md_finish 116 = .ok (.getfield 62, 3) := by decide +kernel
theorem d_Md_finish_119 : decode b_Md_finish 119 = .ok (.istore_n 2, 1) := by decide +kernel
theorem d_Md_finish_120 : decode b_Md_finish 120 = .ok (.iload_n 2, 1) := by decide +kernel
theorem d_Md_finish_121 : decode b_Md_finish 121 = .ok (.aload_n 0, 1) := by decide +kernel
theorem d_Md_finish_122 : decode b_Md_finish 122 = .ok (.getfield 109, 3) := by decide +kernel
theorem d_Md_finish_125 : decode b_Md_finish 125 = .ok (.if_icmp .le (8), 3) := by decide +kernel
theorem d_Md_finish_128 : decode b_Md_finish 128 = .ok (.aload_n 0, 1) := by decide +kernel
theorem d_Md_finish_129 : decode b_Md_finish 129 = .ok (.iload_n 2, 1) := by decide +kernel
theorem d_Md_finish_130 : decode b_Md_finish 130 = .ok (.putfield 109, 3) := by decide +kernel
theorem d_Md_finish_133 : decode b_Md_finish 133 = .ok (.return_, 1) := by decide +kernel
theorem d_Md_firstFull_0 : decode b_Md_firstFull 0 = .ok (.iload_n 1, 1) := by decide +kernel
theorem d_Md_firstFull_1 : decode b_Md_firstFull 1 = .ok (.istore_n 2, 1) := by decide +kernel
theorem d_Md_firstFull_2 : decode b_Md_firstFull 2 = .ok (.iload_n 2, 1) := by decide +kernel
theorem d_Md_firstFull_3 : decode b_Md_firstFull 3 = .ok (.aload_n 0, 1) := by decide +kernel
theorem d_Md_firstFull_4 : decode b_Md_firstFull 4 = .ok (.getfield 100, 3) := by decide +kernel
theorem d_Md_firstFull_7 : decode b_Md_firstFull 7 = .ok (.if_icmp .gt (29), 3) := by decide +kernel
theorem d_Md_firstFull_10 : decode b_Md_firstFull 10 = .ok (.aload_n 0, 1) := by decide +kernel
theorem d_Md_firstFull_11 : decode b_Md_firstFull 11 = .ok (.getfield 29, 3) := by decide +kernel
theorem d_Md_firstFull_14 : decode b_Md_firstFull 14 = .ok (.iload_n 2, 1) := by decide +kernel
theorem d_Md_firstFull_15 : decode b_Md_firstFull 15 = .ok (.baload, 1) := by decide +kernel
theorem d_Md_firstFull_16 : decode b_Md_firstFull 16 = .ok (.ifCond .eq (14), 3) := by decide +kernel
theorem d_Md_firstFull_19 : decode b_Md_firstFull 19 = .ok (.aload_n 0, 1) := by decide +kernel
theorem d_Md_firstFull_20 : decode b_Md_firstFull 20 = .ok (.getfield 32, 3) := by decide +kernel
theorem d_Md_firstFull_23 : decode b_Md_firstFull 23 = .ok (.iload_n 2, 1) := by decide +kernel
theorem d_Md_firstFull_24 : decode b_Md_firstFull 24 = .ok (.baload, 1) := by decide +kernel
theorem d_Md_firstFull_25 : decode b_Md_firstFull 25 = .ok (.ifCond .eq (5), 3) := by decide +kernel
theorem d_Md_firstFull_28 : decode b_Md_firstFull 28 = .ok (.iload_n 2, 1) := by decide +kernel
theorem d_Md_firstFull_29 : decode b_Md_firstFull 29 = .ok (.ireturn, 1) := by decide +kernel
theorem d_Md_firstFull_30 : decode b_Md_firstFull 30 = .ok (.iinc 2 (1), 3) := by decide +kernel
theorem d_Md_firstFull_33 : decode b_Md_firstFull 33 = .ok (.goto (-31), 3) := by decide +kernel
theorem d_Md_firstFull_36 : decode b_Md_firstFull 36 = .ok (.aload_n 0, 1) := by decide +kernel
theorem d_Md_firstFull_37 : decode b_Md_firstFull 37 = .ok (.getfield 100, 3) := by decide +kernel
theorem d_Md_firstFull_40 : decode b_Md_firstFull 40 = .ok (.iconst 1, 1) := by decide +kernel
theorem d_Md_firstFull_41 : decode b_Md_firstFull 41 = .ok (.iadd, 1) := by decide +kernel
theorem d_Md_firstFull_42 : decode b_Md_firstFull 42 = .ok (.ireturn, 1) := by decide +kernel
theorem d_Md_crash_0 : decode b_Md_crash 0 = .ok (.iload_n 1, 1) := by decide +kernel
theorem d_Md_crash_1 : decode b_Md_crash 1 = .ok (.iconst (-1), 1) := by decide +kernel
theorem d_Md_crash_2 : decode b_Md_crash 2 = .ok (.if_icmp .lt (9), 3) := by decide +kernel
theorem d_Md_crash_5 : decode b_Md_crash 5 = .ok (.iload_n 1, 1) := by decide +kernel
theorem d_Md_crash_6 : decode b_Md_crash 6 = .ok (.bipush (7), 2) := by decide +kernel
theorem d_Md_crash_8 : decode b_Md_crash 8 = .ok (.if_icmp .le (5), 3) := by decide +kernel
theorem d_Md_crash_11 : decode b_Md_crash 11 = .ok (.iconst (-1), 1) := by decide +kernel
theorem d_Md_crash_12 : decode b_Md_crash 12 = .ok (.ireturn, 1) := by decide +kernel
theorem d_Md_crash_13 : decode b_Md_crash 13 = .ok (.iload_n 1, 1) := by decide +kernel
theorem d_Md_crash_14 : decode b_Md_crash 14 = .ok (.ifCond .lt (10), 3) := by decide +kernel
theorem d_Md_crash_17 : decode b_Md_crash 17 = .ok (.aload_n 0, 1) := by decide +kernel
theorem d_Md_crash_18 : decode b_Md_crash 18 = .ok (.getfield 26, 3) := by decide +kernel
theorem d_Md_crash_21 : decode b_Md_crash 21 = .ok (.iload_n 1, 1) := by decide +kernel
theorem d_Md_crash_22 : decode b_Md_crash 22 = .ok (.iconst 0, 1) := by decide +kernel
theorem d_Md_crash_23 : decode b_Md_crash 23 = .ok (.bastore, 1) := by decide +kernel
theorem d_Md_crash_24 : decode b_Md_crash 24 = .ok (.aload_n 0, 1) := by decide +kernel
theorem d_Md_crash_25 : decode b_Md_crash 25 = .ok (.invokevirtual 122, 3) := by decide +kernel
theorem d_Md_crash_28 : decode b_Md_crash 28 = .ok (.ireturn, 1) := by decide +kernel
theorem d_Md_recover_0 : decode b_Md_recover 0 = .ok (.aload_n 0, 1) := by decide +kernel
theorem d_Md_recover_1 : decode b_Md_recover 1 = .ok (.bipush (-2), 2) := by decide +kernel
theorem d_Md_recover_3 : decode b_Md_recover 3 = .ok (.putfield 44, 3) := by decide +kernel
theorem d_Md_recover_6 : decode b_Md_recover 6 = .ok (.iconst 0, 1) := by decide +kernel
theorem d_Md_recover_7 : decode b_Md_recover 7 = .ok (.istore_n 1, 1) := by decide +kernel
theorem d_Md_recover_8 : decode b_Md_recover 8 = .ok (.iconst 0, 1) := by decide +kernel
theorem d_Md_recover_9 : decode b_Md_recover 9 = .ok (.istore_n 2, 1) := by decide +kernel
theorem d_Md_recover_10 : decode b_Md_recover 10 = .ok (.iload_n 2, 1) := by decide +kernel
theorem d_Md_recover_11 : decode b_Md_recover 11 = .ok (.bipush (8), 2) := by decide +kernel
theorem d_Md_recover_13 : decode b_Md_recover 13 = .ok (.if_icmp .ge (26), 3) := by decide +kernel
theorem d_Md_recover_16 : decode b_Md_recover 16 = .ok (.iload_n 1, 1) := by decide +kernel
theorem d_Md_recover_17 : decode b_Md_recover 17 = .ok (.aload_n 0, 1) := by decide +kernel
theorem d_Md_recover_18 : decode b_Md_recover 18 = .ok (.iload_n 2, 1) := by decide +kernel
theorem d_Md_recover_19 : decode b_Md_recover 19 = .ok (.aload_n 0, 1) := by decide +kernel
theorem d_Md_recover_20 : decode b_Md_recover 20 = .ok (.iload_n 2, 1) := by decide +kernel
theorem d_Md_recover_21 : decode b_Md_recover 21 = .ok (.invokevirtual 115, 3) := by decide +kernel
theorem d_Md_recover_24 : decode b_Md_recover 24 = .ok (.aload_n 0, 1) := by decide +kernel
theorem d_Md_recover_25 : decode b_Md_recover 25 = .ok (.getfield 57, 3) := by decide +kernel
theorem d_Md_recover_28 : decode b_Md_recover 28 = .ok (.invokevirtual 118, 3) := by decide +kernel
theorem d_Md_recover_31 : decode b_Md_recover 31 = .ok (.iadd, 1) := by decide +kernel
theorem d_Md_recover_32 : decode b_Md_recover 32 = .ok (.istore_n 1, 1) := by decide +kernel
theorem d_Md_recover_33 : decode b_Md_recover 33 = .ok (.iinc 2 (1), 3) := by decide +kernel
theorem d_Md_recover_36 : decode b_Md_recover 36 = .ok (.goto (-26), 3) := by decide +kernel
theorem d_Md_recover_39 : decode b_Md_recover 39 = .ok (.aload_n 0, 1) := by decide +kernel
theorem d_Md_recover_40 : decode b_Md_recover 40 = .ok (.getfield 76, 3) := by decide +kernel
theorem d_Md_recover_43 : decode b_Md_recover 43 = .ok (.ifCond .eq (7), 3) := by decide +kernel
theorem d_Md_recover_46 : decode b_Md_recover 46 = .ok (.aload_n 0, 1) := by decide +kernel
theorem d_Md_recover_47 : decode b_Md_recover 47 = .ok (.invokevirtual 91, 3) := by decide +kernel
theorem d_Md_recover_50 : decode b_Md_recover 50 = .ok (.iload_n 1, 1) := by decide +kernel
theorem d_Md_recover_51 : decode b_Md_recover 51 = .ok (.ireturn, 1) := by decide +kernel
theorem d_Md_best_0 : decode b_Md_best 0 = .ok (.aload_n 0, 1) := by decide +kernel
theorem d_Md_best_1 : decode b_Md_best 1 = .ok (.getfield 26, 3) := by decide +kernel
theorem d_Md_best_4 : decode b_Md_best 4 = .ok (.iload_n 1, 1) := by decide +kernel
theorem d_Md_best_5 : decode b_Md_best 5 = .ok (.baload, 1) := by decide +kernel
theorem d_Md_best_6 : decode b_Md_best 6 = .ok (.ifCond .eq (12), 3) := by decide +kernel
theorem d_Md_best_9 : decode b_Md_best 9 = .ok (.aload_n 0, 1) := by decide +kernel
theorem d_Md_best_10 : decode b_Md_best 10 = .ok (.getfield 23, 3) := by decide +kernel
theorem d_Md_best_13 : decode b_Md_best 13 = .ok (.iload_n 1, 1) := by decide +kernel
theorem d_Md_best_14 : decode b_Md_best 14 = .ok (.iaload, 1) := by decide +kernel
theorem d_Md_best_15 : decode b_Md_best 15 = .ok (.goto (4), 3) := by decide +kernel
theorem d_Md_best_18 : decode b_Md_best 18 = .ok (.iconst 0, 1) := by decide +kernel
theorem d_Md_best_19 : decode b_Md_best 19 = .ok (.istore_n 2, 1) := by decide +kernel
theorem d_Md_best_20 : decode b_Md_best 20 = .ok (.iconst 1, 1) := by decide +kernel
theorem d_Md_best_21 : decode b_Md_best 21 = .ok (.istore_n 3, 1) := by decide +kernel
theorem d_Md_best_22 : decode b_Md_best 22 = .ok (.iload_n 3, 1) := by decide +kernel
theorem d_Md_best_23 : decode b_Md_best 23 = .ok (.aload_n 0, 1) := by decide +kernel
theorem d_Md_best_24 : decode b_Md_best 24 = .ok (.getfield 100, 3) := by decide +kernel
theorem d_Md_best_27 : decode b_Md_best 27 = .ok (.if_icmp .gt (45), 3) := by decide +kernel
theorem d_Md_best_30 : decode b_Md_best 30 = .ok (.aload_n 0, 1) := by decide +kernel
theorem d_Md_best_31 : decode b_Md_best 31 = .ok (.getfield 29, 3) := by decide +kernel
theorem d_Md_best_34 : decode b_Md_best 34 = .ok (.iload_n 3, 1) := by decide +kernel
theorem d_Md_best_35 : decode b_Md_best 35 = .ok (.baload, 1) := by decide +kernel
theorem d_Md_best_36 : decode b_Md_best 36 = .ok (.ifCond .eq (30), 3) := by decide +kernel
theorem d_Md_best_39 : decode b_Md_best 39 = .ok (.aload_n 0, 1) := by decide +kernel
theorem d_Md_best_40 : decode b_Md_best 40 = .ok (.getfield 41, 3) := by decide +kernel
theorem d_Md_best_43 : decode b_Md_best 43 = .ok (.iload_n 3, 1) := by decide +kernel
theorem d_Md_best_44 : decode b_Md_best 44 = .ok (.bipush (8), 2) := by decide +kernel
theorem d_Md_best_46 : decode b_Md_best 46 = .ok (.imul, 1) := by decide +kernel
theorem d_Md_best_47 : decode b_Md_best 47 = .ok (.iload_n 1, 1) := by decide +kernel
theorem d_Md_best_48 : decode b_Md_best 48 = .ok (.iadd, 1) := by decide +kernel
theorem d_Md_best_49 : decode b_Md_best 49 = .ok (.iaload, 1) := by decide +kernel
theorem d_Md_best_50 : decode b_Md_best 50 = .ok (.iload_n 2, 1) := by decide +kernel
theorem d_Md_best_51 : decode b_Md_best 51 = .ok (.if_icmp .le (15), 3) := by decide +kernel
theorem d_Md_best_54 : decode b_Md_best 54 = .ok (.aload_n 0, 1) := by decide +kernel
theorem d_Md_best_55 : decode b_Md_best 55 = .ok (.getfield 41, 3) := by decide +kernel
theorem d_Md_best_58 : decode b_Md_best 58 = .ok (.iload_n 3, 1) := by decide +kernel
theorem d_Md_best_59 : decode b_Md_best 59 = .ok (.bipush (8), 2) := by decide +kernel
theorem d_Md_best_61 : decode b_Md_best 61 = .ok (.imul, 1) := by decide +kernel
theorem d_Md_best_62 : decode b_Md_best 62 = .ok (.iload_n 1, 1) := by decide +kernel
theorem d_Md_best_63 : decode b_Md_best 63 = .ok (.iadd, 1) := by decide +kernel
theorem d_Md_best_64 : decode b_Md_best 64 = .ok (.iaload, 1) := by decide +kernel
theorem d_Md_best_65 : decode b_Md_best 65 = .ok (.istore_n 2, 1) := by decide +kernel
theorem d_Md_best_66 : decode b_Md_best 66 = .ok (.iinc 3 (1), 3) := by decide +kernel
theorem d_Md_best_69 : decode b_Md_best 69 = .ok (.goto (-47), 3) := by decide +kernel
theorem d_Md_best_72 : decode b_Md_best 72 = .ok (.iload_n 2, 1) := by decide +kernel
theorem d_Md_best_73 : decode b_Md_best 73 = .ok (.ireturn, 1) := by decide +kernel
theorem d_Md_changesOn_0 : decode b_Md_changesOn 0 = .ok (.iconst 0, 1) := by decide +kernel
theorem d_Md_changesOn_1 : decode b_Md_changesOn 1 = .ok (.istore 4, 2) := by decide +kernel
theorem d_Md_changesOn_3 : decode b_Md_changesOn 3 = .ok (.iload_n 2, 1) := by decide +kernel
theorem d_Md_changesOn_4 : decode b_Md_changesOn 4 = .ok (.iconst 1, 1) := by decide +kernel
theorem d_Md_changesOn_5 : decode b_Md_changesOn 5 = .ok (.iadd, 1) := by decide +kernel
theorem d_Md_changesOn_6 : decode b_Md_changesOn 6 = .ok (.istore 5, 2) := by decide +kernel
theorem d_Md_changesOn_8 : decode b_Md_changesOn 8 = .ok (.iload 5, 2) := by decide +kernel
theorem d_Md_changesOn_10 : decode b_Md_changesOn 10 = .ok (.iload_n 3, 1) := by decide +kernel
theorem d_Md_changesOn_11 : decode b_Md_changesOn 11 = .ok (.if_icmp .gt (35), 3) := by decide +kernel
theorem d_Md_changesOn_14 : decode b_Md_changesOn 14 = .ok (.aload_n 0, 1) := by decide +kernel
theorem d_Md_changesOn_15 : decode b_Md_changesOn 15 = .ok (.getfield 7, 3) := by decide +kernel
theorem d_Md_changesOn_18 : decode b_Md_changesOn 18 = .ok (.iload 5, 2) := by decide +kernel
theorem d_Md_changesOn_20 : decode b_Md_changesOn 20 = .ok (.iaload, 1) := by decide +kernel
theorem d_Md_changesOn_21 : decode b_Md_changesOn 21 = .ok (.ifCond .lt (19), 3) := by decide +kernel
theorem d_Md_changesOn_24 : decode b_Md_changesOn 24 = .ok (.aload_n 0, 1) := by decide +kernel
theorem d_Md_changesOn_25 : decode b_Md_changesOn 25 = .ok (.getfield 7, 3) := by decide +kernel
theorem d_Md_changesOn_28 : decode b_Md_changesOn 28 = .ok (.iload 5, 2) := by decide +kernel
theorem d_Md_changesOn_30 : decode b_Md_changesOn 30 = .ok (.iaload, 1) := by decide +kernel
theorem d_Md_changesOn_31 : decode b_Md_changesOn 31 = .ok (.iconst 4, 1) := by decide +kernel
theorem d_Md_changesOn_32 : decode b_Md_changesOn 32 = .ok (.idiv, 1) := by decide +kernel
theorem d_Md_changesOn_33 : decode b_Md_changesOn 33 = .ok (.iload_n 1, 1) := by decide +kernel
theorem d_Md_changesOn_34 : decode b_Md_changesOn 34 = .ok (.if_icmp .ne (6), 3) := by decide +kernel
theorem d_Md_changesOn_37 : decode b_Md_changesOn 37 = .ok (.iinc 4 (1), 3) := by decide +kernel
theorem d_Md_changesOn_40 : decode b_Md_changesOn 40 = .ok (.iinc 5 (1), 3) := by decide +kernel
theorem d_Md_changesOn_43 : decode b_Md_changesOn 43 = .ok (.goto (-35), 3) := by decide +kernel
theorem d_Md_changesOn_46 : decode b_Md_changesOn 46 = .ok (.iload 4, 2) := by decide +kernel
theorem d_Md_changesOn_48 : decode b_Md_changesOn 48 = .ok (.ireturn, 1) := by decide +kernel
theorem d_Md_lose_0 : decode b_Md_lose 0 = .ok (.iconst 0, 1) := by decide +kernel
theorem d_Md_lose_1 : decode b_Md_lose 1 = .ok (.istore_n 1, 1) := by decide +kernel
theorem d_Md_lose_2 : decode b_Md_lose 2 = .ok (.iload_n 1, 1) := by decide +kernel
theorem d_Md_lose_3 : decode b_Md_lose 3 = .ok (.bipush (8), 2) := by decide +kernel
theorem d_Md_lose_5 : decode b_Md_lose 5 = .ok (.if_icmp .ge (16), 3) := by decide +kernel
theorem d_Md_lose_8 : decode b_Md_lose 8 = .ok (.aload_n 0, 1) := by decide +kernel
theorem d_Md_lose_9 : decode b_Md_lose 9 = .ok (.getfield 26, 3) := by decide +kernel
theorem d_Md_lose_12 : decode b_Md_lose 12 = .ok (.iload_n 1, 1) := by decide +kernel
theorem d_Md_lose_13 : decode b_Md_lose 13 = .ok (.iconst 0, 1) := by decide +kernel
theorem d_Md_lose_14 : decode b_Md_lose 14 = .ok (.bastore, 1) := by decide +kernel
theorem d_Md_lose_15 : decode b_Md_lose 15 = .ok (.iinc 1 (1), 3) := by decide +kernel
theorem d_Md_lose_18 : decode b_Md_lose 18 = .ok (.goto (-16), 3) := by decide +kernel
theorem d_Md_lose_21 : decode b_Md_lose 21 = .ok (.aload_n 0, 1) := by decide +kernel
theorem d_Md_lose_22 : decode b_Md_lose 22 = .ok (.invokevirtual 122, 3) := by decide +kernel
theorem d_Md_lose_25 : decode b_Md_lose 25 = .ok (.ireturn, 1) := by decide +kernel
theorem d_Md_restore_0 : decode b_Md_restore 0 = .ok (.iload_n 1, 1) := by decide +kernel
theorem d_Md_restore_1 : decode b_Md_restore 1 = .ok (.iconst 1, 1) := by decide +kernel
theorem d_Md_restore_2 : decode b_Md_restore 2 = .ok (.if_icmp .lt (11), 3) := by decide +kernel
theorem d_Md_restore_5 : decode b_Md_restore 5 = .ok (.iload_n 1, 1) := by decide +kernel
theorem d_Md_restore_6 : decode b_Md_restore 6 = .ok (.aload_n 0, 1) := by decide +kernel
theorem d_Md_restore_7 : decode b_Md_restore 7 = .ok (.invokevirtual 88, 3) := by decide +kernel
theorem d_Md_restore_10 : decode b_Md_restore 10 = .ok (.if_icmp .le (5), 3) := by decide +kernel
theorem d_Md_restore_13 : decode b_Md_restore 13 = .ok (.iconst (-1), 1) := by decide +kernel
theorem d_Md_restore_14 : decode b_Md_restore 14 = .ok (.ireturn, 1) := by decide +kernel
theorem d_Md_restore_15 : decode b_Md_restore 15 = .ok (.aload_n 0, 1) := by decide +kernel
theorem d_Md_restore_16 : decode b_Md_restore 16 = .ok (.iload_n 1, 1) := by decide +kernel
theorem d_Md_restore_17 : decode b_Md_restore 17 = .ok (.invokevirtual 125, 3) := by decide +kernel
theorem d_Md_restore_20 : decode b_Md_restore 20 = .ok (.istore_n 2, 1) := by decide +kernel
theorem d_Md_restore_21 : decode b_Md_restore 21 = .ok (.iconst 0, 1) := by decide +kernel
theorem d_Md_restore_22 : decode b_Md_restore 22 = .ok (.istore_n 3, 1) := by decide +kernel
theorem d_Md_restore_23 : decode b_Md_restore 23 = .ok (.iconst 1, 1) := by decide +kernel
theorem d_Md_restore_24 : decode b_Md_restore 24 = .ok (.istore 4, 2) := by decide +kernel
theorem d_Md_restore_26 : decode b_Md_restore 26 = .ok (.iload 4, 2) := by decide +kernel
theorem d_Md_restore_28 : decode b_Md_restore 28 = .ok (.aload_n 0, 1) := by decide +kernel
theorem d_Md_restore_29 : decode b_Md_restore 29 = .ok (.getfield 100, 3) := by decide +kernel
theorem d_Md_restore_32 : decode b_Md_restore 32 = .ok (.if_icmp .gt (33), 3) := by decide +kernel
theorem d_Md_restore_35 : decode b_Md_restore 35 = .ok (.aload_n 0, 1) := by decide +kernel
theorem d_Md_restore_36 : decode b_Md_restore 36 = .ok (.getfield 29, 3) := by decide +kernel
theorem d_Md_restore_39 : decode b_Md_restore 39 = .ok (.iload 4, 2) := by decide +kernel
theorem d_Md_restore_41 : decode b_Md_restore 41 = .ok (.baload, 1) := by decide +kernel
theorem d_Md_restore_42 : decode b_Md_restore 42 = .ok (.ifCond .eq (17), 3) := by decide +kernel
theorem d_Md_restore_45 : decode b_Md_restore 45 = .ok (.aload_n 0, 1) := by decide +kernel
theorem d_Md_restore_46 : decode b_Md_restore 46 = .ok (.getfield 38, 3) := by decide +kernel
theorem d_Md_restore_49 : decode b_Md_restore 49 = .ok (.iload 4, 2) := by decide +kernel
theorem d_Md_restore_51 : decode b_Md_restore 51 = .ok (.iaload, 1) := by decide +kernel
theorem d_Md_restore_52 : decode b_Md_restore 52 = .ok (.iload_n 2, 1) := by decide +kernel
theorem d_Md_restore_53 : decode b_Md_restore 53 = .ok (.if_icmp .ge (6), 3) := by decide +kernel
theorem d_Md_restore_56 : decode b_Md_restore 56 = .ok (.iload 4, 2) := by decide +kernel
theorem d_Md_restore_58 : decode b_Md_restore 58 = .ok (.istore_n 3, 1) := by decide +kernel
theorem d_Md_restore_59 : decode b_Md_restore 59 = .ok (.iinc 4 (1), 3) := by decide +kernel
theorem d_Md_restore_62 : decode b_Md_restore 62 = .ok (.goto (-36), 3) := by decide +kernel
theorem d_Md_restore_65 : decode b_Md_restore 65 = .ok (.iload_n 3, 1) := by decide +kernel
theorem d_Md_restore_66 : decode b_Md_restore 66 = .ok (.ifCond .ne (13), 3) := by decide +kernel
theorem d_Md_restore_69 : decode b_Md_restore 69 = .ok (.aload_n 0, 1) := by decide +kernel
theorem d_Md_restore_70 : decode b_Md_restore 70 = .ok (.getfield 109, 3) := by decide +kernel
theorem d_Md_restore_73 : decode b_Md_restore 73 = .ok (.ifCond .le (6), 3) := by decide +kernel
theorem d_Md_restore_76 : decode b_Md_restore 76 = .ok (.bipush (-3), 2) := by decide +kernel
theorem d_Md_restore_78 : decode b_Md_restore 78 = .ok (.ireturn, 1) := by decide +kernel
theorem d_Md_restore_79 : decode b_Md_restore 79 = .ok (.iconst 0, 1) := by decide +kernel
theorem d_Md_restore_80 : decode b_Md_restore 80 = .ok (.istore 4, 2) := by decide +kernel
theorem d_Md_restore_82 : decode b_Md_restore 82 = .ok (.iconst 0, 1) := by decide +kernel
theorem d_Md_restore_83 : decode b_Md_restore 83 = .ok (.istore 5, 2) := by decide +kernel
theorem d_Md_restore_85 : decode b_Md_restore 85 = .ok (.iload 5, 2) := by decide +kernel
theorem d_Md_restore_87 : decode b_Md_restore 87 = .ok (.bipush (8), 2) := by decide +kernel
theorem d_Md_restore_89 : decode b_Md_restore 89 = .ok (.if_icmp .ge (91), 3) := by decide +kernel
theorem d_Md_restore_92 : decode b_Md_restore 92 = .ok (.iconst 0, 1) := by decide +kernel
theorem d_Md_restore_93 : decode b_Md_restore 93 = .ok (.istore 6, 2) := by decide +kernel
theorem d_Md_restore_95 : decode b_Md_restore 95 = .ok (.iload_n 3, 1) := by decide +kernel
theorem d_Md_restore_96 : decode b_Md_restore 96 = .ok (.ifCond .ne (7), 3) := by decide +kernel
theorem d_Md_restore_99 : decode b_Md_restore 99 = .ok (.iconst 1, 1) := by decide +kernel
theorem d_Md_restore_100 : decode b_Md_restore 100 = .ok (.goto (4), 3) := by decide +kernel
theorem d_Md_restore_103 : decode b_Md_restore 103 = .ok (.iconst 0, 1) := by decide +kernel
theorem d_Md_restore_104 : decode b_Md_restore 104 = .ok (.istore 7, 2) := by decide +kernel
theorem d_Md_restore_106 : decode b_Md_restore 106 = .ok (.iload_n 3, 1) := by decide +kernel
theorem d_Md_restore_107 : decode b_Md_restore 107 = .ok (.istore 8, 2) := by decide +kernel
theorem d_Md_restore_109 : decode b_Md_restore 109 = .ok (.iload 8, 2) := by decide +kernel
theorem d_Md_restore_111 : decode b_Md_restore 111 = .ok (.iconst 1, 1) := by decide +kernel
theorem d_Md_restore_112 : decode b_Md_restore 112 = .ok (.if_icmp .lt (48), 3) := by decide +kernel
theorem d_Md_restore_115 : decode b_Md_restore 115 = .ok (.iload 7, 2) := by decide +kernel
theorem d_Md_restore_117 : decode b_Md_restore 117 = .ok (.ifCond .ne (43), 3) := by decide +kernel
theorem d_Md_restore_120 : decode b_Md_restore 120 = .ok (.aload_n 0, 1) := by decide +kernel
theorem d_Md_restore_121 : decode b_Md_restore 121 = .ok (.getfield 41, 3) := by decide +kernel
theorem d_Md_restore_124 : decode b_Md_restore 124 = .ok (.iload 8, 2) := by decide +kernel
theorem d_Md_restore_126 : decode b_Md_restore 126 = .ok (.bipush (8), 2) := by decide +kernel
theorem d_Md_restore_128 : decode b_Md_restore 128 = .ok (.imul, 1) := by decide +kernel
theorem d_Md_restore_129 : decode b_Md_restore 129 = .ok (.iload 5, 2) := by decide +kernel
theorem d_Md_restore_131 : decode b_Md_restore 131 = .ok (.iadd, 1) := by decide +kernel
theorem d_Md_restore_132 : decode b_Md_restore 132 = .ok (.iaload, 1) := by decide +kernel
theorem d_Md_restore_133 : decode b_Md_restore 133 = .ok (.ifCond .lt (21), 3) := by decide +kernel
theorem d_Md_restore_136 : decode b_Md_restore 136 = .ok (.aload_n 0, 1) := by decide +kernel
theorem d_Md_restore_137 : decode b_Md_restore 137 = .ok (.getfield 41, 3) := by decide +kernel
theorem d_Md_restore_140 : decode b_Md_restore 140 = .ok (.iload 8, 2) := by decide +kernel
theorem d_Md_restore_142 : decode b_Md_restore 142 = .ok (.bipush (8), 2) := by decide +kernel
theorem d_Md_restore_144 : decode b_Md_restore 144 = .ok (.imul, 1) := by decide +kernel
theorem d_Md_restore_145 : decode b_Md_restore 145 = .ok (.iload 5, 2) := by decide +kernel
theorem d_Md_restore_147 : decode b_Md_restore 147 = .ok (.iadd, 1) := by decide +kernel
theorem d_Md_restore_148 : decode b_Md_restore 148 = .ok (.iaload, 1) := by decide +kernel
theorem d_Md_restore_149 : decode b_Md_restore 149 = .ok (.istore 6, 2) := by decide +kernel
theorem d_Md_restore_151 : decode b_Md_restore 151 = .ok (.iconst 1, 1) := by decide +kernel
theorem d_Md_restore_152 : decode b_Md_restore 152 = .ok (.istore 7, 2) := by decide +kernel
theorem d_Md_restore_154 : decode b_Md_restore 154 = .ok (.iinc 8 (-1), 3) := by decide +kernel
theorem d_Md_restore_157 : decode b_Md_restore 157 = .ok (.goto (-48), 3) := by decide +kernel
theorem d_Md_restore_160 : decode b_Md_restore 160 = .ok (.iload 4, 2) := by decide +kernel
theorem d_Md_restore_162 : decode b_Md_restore 162 = .ok (.aload_n 0, 1) := by decide +kernel
theorem d_Md_restore_163 : decode b_Md_restore 163 = .ok (.iload 5, 2) := by decide +kernel
theorem d_Md_restore_165 : decode b_Md_restore 165 = .ok (.iload 6, 2) := by decide +kernel
theorem d_Md_restore_167 : decode b_Md_restore 167 = .ok (.iload_n 2, 1) := by decide +kernel
theorem d_Md_restore_168 : decode b_Md_restore 168 = .ok (.invokevirtual 118, 3) := by decide +kernel
theorem d_Md_restore_171 : decode b_Md_restore 171 = .ok (.iadd, 1) := by decide +kernel
theorem d_Md_restore_172 : decode b_Md_restore 172 = .ok (.istore 4, 2) := by decide +kernel
theorem d_Md_restore_174 : decode b_Md_restore 174 = .ok (.iinc 5 (1), 3) := by decide +kernel
theorem d_Md_restore_177 : decode b_Md_restore 177 = .ok (.goto (-92), 3) := by decide +kernel
theorem d_Md_restore_180 : decode b_Md_restore 180 = .ok (.aload_n 0, 1) := by decide +kernel
theorem d_Md_restore_181 : decode b_Md_restore 181 = .ok (.iload_n 2, 1) := by decide +kernel
theorem d_Md_restore_182 : decode b_Md_restore 182 = .ok (.putfield 48, 3) := by decide +kernel
theorem d_Md_restore_185 : decode b_Md_restore 185 = .ok (.iload 4, 2) := by decide +kernel
theorem d_Md_restore_187 : decode b_Md_restore 187 = .ok (.ireturn, 1) := by decide +kernel
theorem d_Md_commitRecord_0 : decode b_Md_commitRecord 0 = .ok (.iconst 0, 1) := by decide +kernel
theorem d_Md_commitRecord_1 : decode b_Md_commitRecord 1 = .ok (.istore_n 2, 1) := by decide +kernel
theorem d_Md_commitRecord_2 : decode b_Md_commitRecord 2 = .ok (.iconst 1, 1) := by decide +kernel
theorem d_Md_commitRecord_3 : decode b_Md_commitRecord 3 = .ok (.istore_n 3, 1) := by decide +kernel
theorem d_Md_commitRecord_4 : decode b_Md_commitRecord 4 = .ok (.iload_n 3, 1) := by decide +kernel
theorem d_Md_commitRecord_5 : decode b_Md_commitRecord 5 = .ok (.aload_n 0, 1) := by decide +kernel
theorem d_Md_commitRecord_6 : decode b_Md_commitRecord 6 = .ok (.getfield 57, 3) := by decide +kernel
theorem d_Md_commitRecord_9 : decode b_Md_commitRecord 9 = .ok (.if_icmp .gt (29), 3) := by decide +kernel
theorem d_Md_commitRecord_12 : decode b_Md_commitRecord 12 = .ok (.aload_n 0, 1) := by decide +kernel
theorem d_Md_commitRecord_13 : decode b_Md_commitRecord 13 = .ok (.getfield 7, 3) := by decide +kernel
theorem d_Md_commitRecord_16 : decode b_Md_commitRecord 16 = .ok (.iload_n 3, 1) := by decide +kernel
theorem d_Md_commitRecord_17 : decode b_Md_commitRecord 17 = .ok (.iaload, 1) := by decide +kernel
theorem d_Md_commitRecord_18 : decode b_Md_commitRecord 18 = .ok (.iconst (-1), 1) := by decide +kernel
theorem d_Md_commitRecord_19 : decode b_Md_commitRecord 19 = .ok (.if_icmp .ne (6), 3) := by decide +kernel
theorem d_Md_commitRecord_22 : decode b_Md_commitRecord 22 = .ok (.iinc 2 (1), 3) := by decide +kernel
theorem d_Md_commitRecord_25 : decode b_Md_commitRecord 25 = .ok (.iload_n 2, 1) := by decide +kernel
theorem d_Md_commitRecord_26 : decode b_Md_commitRecord 26 = .ok (.iload_n 1, 1) := by decide +kernel
theorem d_Md_commitRecord_27 : decode b_Md_commitRecord 27 = .ok (.if_icmp .ne (5), 3) := by decide +kernel
theorem d_Md_commitRecord_30 : decode b_Md_commitRecord 30 = .ok (.iload_n 3, 1) := by decide +kernel
theorem d_Md_commitRecord_31 : decode b_Md_commitRecord 31 = .ok (.ireturn, 1) := by decide +kernel
theorem d_Md_commitRecord_32 : decode b_Md_commitRecord 32 = .ok (.iinc 3 (1), 3) := by decide +kernel
theorem d_Md_commitRecord_35 : decode b_Md_commitRecord 35 = .ok (.goto (-31), 3) := by decide +kernel
theorem d_Md_commitRecord_38 : decode b_Md_commitRecord 38 = .ok (.iconst 0, 1) := by decide +kernel
theorem d_Md_commitRecord_39 : decode b_Md_commitRecord 39 = .ok (.ireturn, 1) := by decide +kernel
theorem d_Md_look_0 : decode b_Md_look 0 = .ok (.iload_n 1, 1) := by decide +kernel
theorem d_Md_look_1 : decode b_Md_look 1 = .ok (.bipush (32), 2) := by decide +kernel
theorem d_Md_look_3 : decode b_Md_look 3 = .ok (.invokestatic 80, 3) := by decide +kernel
theorem d_Md_look_6 : decode b_Md_look 6 = .ok (.ifCond .eq (22), 3) := by decide +kernel
theorem d_Md_look_9 : decode b_Md_look 9 = .ok (.aload_n 0, 1) := by decide +kernel
theorem d_Md_look_10 : decode b_Md_look 10 = .ok (.getfield 48, 3) := by decide +kernel
theorem d_Md_look_13 : decode b_Md_look 13 = .ok (.ifCond .lt (15), 3) := by decide +kernel
theorem d_Md_look_16 : decode b_Md_look 16 = .ok (.aload_n 0, 1) := by decide +kernel
theorem d_Md_look_17 : decode b_Md_look 17 = .ok (.aload_n 0, 1) := by decide +kernel
theorem d_Md_look_18 : decode b_Md_look 18 = .ok (.getfield 48, 3) := by decide +kernel
theorem d_Md_look_21 : decode b_Md_look 21 = .ok (.iload_n 1, 1) := by decide +kernel
theorem d_Md_look_22 : decode b_Md_look 22 = .ok (.invokevirtual 68, 3) := by decide +kernel
theorem d_Md_look_25 : decode b_Md_look 25 = .ok (.goto (6), 3) := by decide +kernel
theorem d_Md_look_28 : decode b_Md_look 28 = .ok (.ldc2_w 94, 3) := by decide +kernel
theorem d_Md_look_31 : decode b_Md_look 31 = .ok (.lreturn, 1) := by decide +kernel
theorem d_Md_page_0 : decode b_Md_page 0 = .ok (.iload_n 1, 1) := by decide +kernel
theorem d_Md_page_1 : decode b_Md_page 1 = .ok (.bipush (8), 2) := by decide +kernel
theorem d_Md_page_3 : decode b_Md_page 3 = .ok (.invokestatic 80, 3) := by decide +kernel
theorem d_Md_page_6 : decode b_Md_page 6 = .ok (.ifCond .eq (11), 3) := by decide +kernel
theorem d_Md_page_9 : decode b_Md_page 9 = .ok (.iload_n 2, 1) := by decide +kernel
theorem d_Md_page_10 : decode b_Md_page 10 = .ok (.iconst 4, 1) := by decide +kernel
theorem d_Md_page_11 : decode b_Md_page 11 = .ok (.invokestatic 80, 3) := by decide +kernel
theorem d_Md_page_14 : decode b_Md_page 14 = .ok (.ifCond .ne (5), 3) := by decide +kernel
theorem d_Md_page_17 : decode b_Md_page 17 = .ok (.iconst (-1), 1) := by decide +kernel
theorem d_Md_page_18 : decode b_Md_page 18 = .ok (.ireturn, 1) := by decide +kernel
theorem d_Md_page_19 : decode b_Md_page 19 = .ok (.iload_n 2, 1) := by decide +kernel
theorem d_Md_page_20 : decode b_Md_page 20 = .ok (.ifCond .ne (9), 3) := by decide +kernel
theorem d_Md_page_23 : decode b_Md_page 23 = .ok (.aload_n 0, 1) := by decide +kernel
theorem d_Md_page_24 : decode b_Md_page 24 = .ok (.iload_n 1, 1) := by decide +kernel
theorem d_Md_page_25 : decode b_Md_page 25 = .ok (.invokevirtual 96, 3) := by decide +kernel
theorem d_Md_page_28 : decode b_Md_page 28 = .ok (.ireturn, 1) := by decide +kernel
theorem d_Md_page_29 : decode b_Md_page 29 = .ok (.iload_n 2, 1) := by decide +kernel
theorem d_Md_page_30 : decode b_Md_page 30 = .ok (.iconst 1, 1) := by decide +kernel
theorem d_Md_page_31 : decode b_Md_page 31 = .ok (.if_icmp .ne (10), 3) := by decide +kernel
theorem d_Md_page_34 : decode b_Md_page 34 = .ok (.aload_n 0, 1) := by decide +kernel
theorem d_Md_page_35 : decode b_Md_page 35 = .ok (.getfield 23, 3) := by decide +kernel
theorem d_Md_page_38 : decode b_Md_page 38 = .ok (.iload_n 1, 1) := by decide +kernel
theorem d_Md_page_39 : decode b_Md_page 39 = .ok (.iaload, 1) := by decide +kernel
theorem d_Md_page_40 : decode b_Md_page 40 = .ok (.ireturn, 1) := by decide +kernel
theorem d_Md_page_41 : decode b_Md_page 41 = .ok (.iload_n 2, 1) := by decide +kernel
theorem d_Md_page_42 : decode b_Md_page 42 = .ok (.iconst 2, 1) := by decide +kernel
theorem d_Md_page_43 : decode b_Md_page 43 = .ok (.if_icmp .ne (18), 3) := by decide +kernel
theorem d_Md_page_46 : decode b_Md_page 46 = .ok (.aload_n 0, 1) := by decide +kernel
theorem d_Md_page_47 : decode b_Md_page 47 = .ok (.getfield 26, 3) := by decide +kernel
theorem d_Md_page_50 : decode b_Md_page 50 = .ok (.iload_n 1, 1) := by decide +kernel
theorem d_Md_page_51 : decode b_Md_page 51 = .ok (.baload, 1) := by decide +kernel
theorem d_Md_page_52 : decode b_Md_page 52 = .ok (.ifCond .eq (7), 3) := by decide +kernel
theorem d_Md_page_55 : decode b_Md_page 55 = .ok (.iconst 1, 1) := by decide +kernel
theorem d_Md_page_56 : decode b_Md_page 56 = .ok (.goto (4), 3) := by decide +kernel
theorem d_Md_page_59 : decode b_Md_page 59 = .ok (.iconst 0, 1) := by decide +kernel
theorem d_Md_page_60 : decode b_Md_page 60 = .ok (.ireturn, 1) := by decide +kernel
theorem d_Md_page_61 : decode b_Md_page 61 = .ok (.iconst 0, 1) := by decide +kernel
theorem d_Md_page_62 : decode b_Md_page 62 = .ok (.istore_n 3, 1) := by decide +kernel
theorem d_Md_page_63 : decode b_Md_page 63 = .ok (.iconst 1, 1) := by decide +kernel
theorem d_Md_page_64 : decode b_Md_page 64 = .ok (.istore 4, 2) := by decide +kernel
theorem d_Md_page_66 : decode b_Md_page 66 = .ok (.iload 4, 2) := by decide +kernel
theorem d_Md_page_68 : decode b_Md_page 68 = .ok (.aload_n 0, 1) := by decide +kernel
theorem d_Md_page_69 : decode b_Md_page 69 = .ok (.getfield 100, 3) := by decide +kernel
theorem d_Md_page_72 : decode b_Md_page 72 = .ok (.if_icmp .gt (37), 3) := by decide +kernel
theorem d_Md_page_75 : decode b_Md_page 75 = .ok (.aload_n 0, 1) := by decide +kernel
theorem d_Md_page_76 : decode b_Md_page 76 = .ok (.getfield 29, 3) := by decide +kernel
theorem d_Md_page_79 : decode b_Md_page 79 = .ok (.iload 4, 2) := by decide +kernel
theorem d_Md_page_81 : decode b_Md_page 81 = .ok (.baload, 1) := by decide +kernel
theorem d_Md_page_82 : decode b_Md_page 82 = .ok (.ifCond .eq (21), 3) := by decide +kernel
theorem d_Md_page_85 : decode b_Md_page 85 = .ok (.aload_n 0, 1) := by decide +kernel
theorem d_Md_page_86 : decode b_Md_page 86 = .ok (.getfield 41, 3) := by decide +kernel
theorem d_Md_page_89 : decode b_Md_page 89 = .ok (.iload 4, 2) := by decide +kernel
theorem d_Md_page_91 : decode b_Md_page 91 = .ok (.bipush (8), 2) := by decide +kernel
theorem d_Md_page_93 : decode b_Md_page 93 = .ok (.imul, 1) := by decide +kernel
theorem d_Md_page_94 : decode b_Md_page 94 = .ok (.iload_n 1, 1) := by decide +kernel
theorem d_Md_page_95 : decode b_Md_page 95 = .ok (.iadd, 1) := by decide +kernel
theorem d_Md_page_96 : decode b_Md_page 96 = .ok (.iaload, 1) := by decide +kernel
theorem d_Md_page_97 : decode b_Md_page 97 = .ok (.ifCond .lt (6), 3) := by decide +kernel
theorem d_Md_page_100 : decode b_Md_page 100 = .ok (.iinc 3 (1), 3) := by decide +kernel
theorem d_Md_page_103 : decode b_Md_page 103 = .ok (.iinc 4 (1), 3) := by decide +kernel
theorem d_Md_page_106 : decode b_Md_page 106 = .ok (.goto (-40), 3) := by decide +kernel
theorem d_Md_page_109 : decode b_Md_page 109 = .ok (.iload_n 3, 1) := by decide +kernel
theorem d_Md_page_110 : decode b_Md_page 110 = .ok (.ireturn, 1) := by decide +kernel
theorem d_Md_ofBackup_0 : decode b_Md_ofBackup 0 = .ok (.iload_n 1, 1) := by decide +kernel
theorem d_Md_ofBackup_1 : decode b_Md_ofBackup 1 = .ok (.iconst 1, 1) := by decide +kernel
theorem d_Md_ofBackup_2 : decode b_Md_ofBackup 2 = .ok (.if_icmp .lt (19), 3) := by decide +kernel
theorem d_Md_ofBackup_5 : decode b_Md_ofBackup 5 = .ok (.iload_n 1, 1) := by decide +kernel
theorem d_Md_ofBackup_6 : decode b_Md_ofBackup 6 = .ok (.aload_n 0, 1) := by decide +kernel
theorem d_Md_ofBackup_7 : decode b_Md_ofBackup 7 = .ok (.getfield 100, 3) := by decide +kernel
theorem d_Md_ofBackup_10 : decode b_Md_ofBackup 10 = .ok (.if_icmp .gt (11), 3) := by decide +kernel
theorem d_Md_ofBackup_13 : decode b_Md_ofBackup 13 = .ok (.iload_n 2, 1) := by decide +kernel
theorem d_Md_ofBackup_14 : decode b_Md_ofBackup 14 = .ok (.iconst 5, 1) := by decide +kernel
theorem d_Md_ofBackup_15 : decode b_Md_ofBackup 15 = .ok (.invokestatic 80, 3) := by decide +kernel
theorem d_Md_ofBackup_18 : decode b_Md_ofBackup 18 = .ok (.ifCond .ne (5), 3) := by decide +kernel
theorem d_Md_ofBackup_21 : decode b_Md_ofBackup 21 = .ok (.iconst (-1), 1) := by decide +kernel
theorem d_Md_ofBackup_22 : decode b_Md_ofBackup 22 = .ok (.ireturn, 1) := by decide +kernel
theorem d_Md_ofBackup_23 : decode b_Md_ofBackup 23 = .ok (.iload_n 2, 1) := by decide +kernel
theorem d_Md_ofBackup_24 : decode b_Md_ofBackup 24 = .ok (.ifCond .ne (18), 3) := by decide +kernel
theorem d_Md_ofBackup_27 : decode b_Md_ofBackup 27 = .ok (.aload_n 0, 1) := by decide +kernel
theorem d_Md_ofBackup_28 : decode b_Md_ofBackup 28 = .ok (.getfield 29, 3) := by decide +kernel
theorem d_Md_ofBackup_31 : decode b_Md_ofBackup 31 = .ok (.iload_n 1, 1) := by decide +kernel
theorem d_Md_ofBackup_32 : decode b_Md_ofBackup 32 = .ok (.baload, 1) := by decide +kernel
theorem d_Md_ofBackup_33 : decode b_Md_ofBackup 33 = .ok (.ifCond .eq (7), 3) := by decide +kernel
theorem d_Md_ofBackup_36 : decode b_Md_ofBackup 36 = .ok (.iconst 1, 1) := by decide +kernel
theorem d_Md_ofBackup_37 : decode b_Md_ofBackup 37 = .ok (.goto (4), 3) := by decide +kernel
theorem d_Md_ofBackup_40 : decode b_Md_ofBackup 40 = .ok (.iconst 0, 1) := by decide +kernel
theorem d_Md_ofBackup_41 : decode b_Md_ofBackup 41 = .ok (.ireturn, 1) := by decide +kernel
theorem d_Md_ofBackup_42 : decode b_Md_ofBackup 42 = .ok (.iload_n 2, 1) := by decide +kernel
theorem d_Md_ofBackup_43 : decode b_Md_ofBackup 43 = .ok (.iconst 1, 1) := by decide +kernel
theorem d_Md_ofBackup_44 : decode b_Md_ofBackup 44 = .ok (.if_icmp .ne (18), 3) := by decide +kernel
theorem d_Md_ofBackup_47 : decode b_Md_ofBackup 47 = .ok (.aload_n 0, 1) := by decide +kernel
theorem d_Md_ofBackup_48 : decode b_Md_ofBackup 48 = .ok (.getfield 32, 3) := by decide +kernel
theorem d_Md_ofBackup_51 : decode b_Md_ofBackup 51 = .ok (.iload_n 1, 1) := by decide +kernel
theorem d_Md_ofBackup_52 : decode b_Md_ofBackup 52 = .ok (.baload, 1) := by decide +kernel
theorem d_Md_ofBackup_53 : decode b_Md_ofBackup 53 = .ok (.ifCond .eq (7), 3) := by decide +kernel
theorem d_Md_ofBackup_56 : decode b_Md_ofBackup 56 = .ok (.iconst 1, 1) := by decide +kernel
theorem d_Md_ofBackup_57 : decode b_Md_ofBackup 57 = .ok (.goto (4), 3) := by decide +kernel
theorem d_Md_ofBackup_60 : decode b_Md_ofBackup 60 = .ok (.iconst 0, 1) := by decide +kernel
theorem d_Md_ofBackup_61 : decode b_Md_ofBackup 61 = .ok (.ireturn, 1) := by decide +kernel
theorem d_Md_ofBackup_62 : decode b_Md_ofBackup 62 = .ok (.iload_n 2, 1) := by decide +kernel
theorem d_Md_ofBackup_63 : decode b_Md_ofBackup 63 = .ok (.iconst 2, 1) := by decide +kernel
theorem d_Md_ofBackup_64 : decode b_Md_ofBackup 64 = .ok (.if_icmp .ne (10), 3) := by decide +kernel
theorem d_Md_ofBackup_67 : decode b_Md_ofBackup 67 = .ok (.aload_n 0, 1) := by decide +kernel
theorem d_Md_ofBackup_68 : decode b_Md_ofBackup 68 = .ok (.getfield 35, 3) := by decide +kernel
theorem d_Md_ofBackup_71 : decode b_Md_ofBackup 71 = .ok (.iload_n 1, 1) := by decide +kernel
theorem d_Md_ofBackup_72 : decode b_Md_ofBackup 72 = .ok (.iaload, 1) := by decide +kernel
theorem d_Md_ofBackup_73 : decode b_Md_ofBackup 73 = .ok (.ireturn, 1) := by decide +kernel
theorem d_Md_ofBackup_74 : decode b_Md_ofBackup 74 = .ok (.iload_n 2, 1) := by decide +kernel
theorem d_Md_ofBackup_75 : decode b_Md_ofBackup 75 = .ok (.iconst 3, 1) := by decide +kernel
theorem d_Md_ofBackup_76 : decode b_Md_ofBackup 76 = .ok (.if_icmp .ne (10), 3) := by decide +kernel
theorem d_Md_ofBackup_79 : decode b_Md_ofBackup 79 = .ok (.aload_n 0, 1) := by decide +kernel
theorem d_Md_ofBackup_80 : decode b_Md_ofBackup 80 = .ok (.getfield 38, 3) := by decide +kernel
theorem d_Md_ofBackup_83 : decode b_Md_ofBackup 83 = .ok (.iload_n 1, 1) := by decide +kernel
theorem d_Md_ofBackup_84 : decode b_Md_ofBackup 84 = .ok (.iaload, 1) := by decide +kernel
theorem d_Md_ofBackup_85 : decode b_Md_ofBackup 85 = .ok (.ireturn, 1) := by decide +kernel
theorem d_Md_ofBackup_86 : decode b_Md_ofBackup 86 = .ok (.iconst 0, 1) := by decide +kernel
theorem d_Md_ofBackup_87 : decode b_Md_ofBackup 87 = .ok (.istore_n 3, 1) := by decide +kernel
theorem d_Md_ofBackup_88 : decode b_Md_ofBackup 88 = .ok (.iconst 0, 1) := by decide +kernel
theorem d_Md_ofBackup_89 : decode b_Md_ofBackup 89 = .ok (.istore 4, 2) := by decide +kernel
theorem d_Md_ofBackup_91 : decode b_Md_ofBackup 91 = .ok (.iload 4, 2) := by decide +kernel
theorem d_Md_ofBackup_93 : decode b_Md_ofBackup 93 = .ok (.bipush (8), 2) := by decide +kernel
theorem d_Md_ofBackup_95 : decode b_Md_ofBackup 95 = .ok (.if_icmp .ge (27), 3) := by decide +kernel
theorem d_Md_ofBackup_98 : decode b_Md_ofBackup 98 = .ok (.aload_n 0, 1) := by decide +kernel
theorem d_Md_ofBackup_99 : decode b_Md_ofBackup 99 = .ok (.getfield 41, 3) := by decide +kernel
theorem d_Md_ofBackup_102 : decode b_Md_ofBackup 102 = .ok (.iload_n 1, 1) := by decide +kernel
theorem d_Md_ofBackup_103 : decode b_Md_ofBackup 103 = .ok (.bipush (8), 2) := by decide +kernel
theorem d_Md_ofBackup_105 : decode b_Md_ofBackup 105 = .ok (.imul, 1) := by decide +kernel
theorem d_Md_ofBackup_106 : decode b_Md_ofBackup 106 = .ok (.iload 4, 2) := by decide +kernel
theorem d_Md_ofBackup_108 : decode b_Md_ofBackup 108 = .ok (.iadd, 1) := by decide +kernel
theorem d_Md_ofBackup_109 : decode b_Md_ofBackup 109 = .ok (.iaload, 1) := by decide +kernel
theorem d_Md_ofBackup_110 : decode b_Md_ofBackup 110 = .ok (.ifCond .lt (6), 3) := by decide +kernel
theorem d_Md_ofBackup_113 : decode b_Md_ofBackup 113 = .ok (.iinc 3 (1), 3) := by decide +kernel
theorem d_Md_ofBackup_116 : decode b_Md_ofBackup 116 = .ok (.iinc 4 (1), 3) := by decide +kernel
theorem d_Md_ofBackup_119 : decode b_Md_ofBackup 119 = .ok (.goto (-28), 3) := by decide +kernel
theorem d_Md_ofBackup_122 : decode b_Md_ofBackup 122 = .ok (.iload_n 3, 1) := by decide +kernel
theorem d_Md_ofBackup_123 : decode b_Md_ofBackup 123 = .ok (.ireturn, 1) := by decide +kernel
theorem d_Md_count_0 : decode b_Md_count 0 = .ok (.iload_n 1, 1) := by decide +kernel
theorem d_Md_count_1 : decode b_Md_count 1 = .ok (.ifCond .ne (8), 3) := by decide +kernel
theorem d_Md_count_4 : decode b_Md_count 4 = .ok (.aload_n 0, 1) := by decide +kernel
theorem d_Md_count_5 : decode b_Md_count 5 = .ok (.getfield 57, 3) := by decide +kernel
theorem d_Md_count_8 : decode b_Md_count 8 = .ok (.ireturn, 1) := by decide +kernel
theorem d_Md_count_9 : decode b_Md_count 9 = .ok (.iload_n 1, 1) := by decide +kernel
theorem d_Md_count_10 : decode b_Md_count 10 = .ok (.iconst 1, 1) := by decide +kernel
theorem d_Md_count_11 : decode b_Md_count 11 = .ok (.if_icmp .ne (8), 3) := by decide +kernel
theorem d_Md_count_14 : decode b_Md_count 14 = .ok (.aload_n 0, 1) := by decide +kernel
theorem d_Md_count_15 : decode b_Md_count 15 = .ok (.invokevirtual 88, 3) := by decide +kernel
theorem d_Md_count_18 : decode b_Md_count 18 = .ok (.ireturn, 1) := by decide +kernel
theorem d_Md_count_19 : decode b_Md_count 19 = .ok (.iload_n 1, 1) := by decide +kernel
theorem d_Md_count_20 : decode b_Md_count 20 = .ok (.iconst 2, 1) := by decide +kernel
theorem d_Md_count_21 : decode b_Md_count 21 = .ok (.if_icmp .ne (8), 3) := by decide +kernel
theorem d_Md_count_24 : decode b_Md_count 24 = .ok (.aload_n 0, 1) := by decide +kernel
theorem d_Md_count_25 : decode b_Md_count 25 = .ok (.getfield 100, 3) := by decide +kernel
theorem d_Md_count_28 : decode b_Md_count 28 = .ok (.ireturn, 1) := by decide +kernel
theorem d_Md_count_29 : decode b_Md_count 29 = .ok (.iload_n 1, 1) := by decide +kernel
theorem d_Md_count_30 : decode b_Md_count 30 = .ok (.iconst 3, 1) := by decide +kernel
theorem d_Md_count_31 : decode b_Md_count 31 = .ok (.if_icmp .ne (13), 3) := by decide +kernel
theorem d_Md_count_34 : decode b_Md_count 34 = .ok (.aload_n 0, 1) := by decide +kernel
theorem d_Md_count_35 : decode b_Md_count 35 = .ok (.invokevirtual 128, 3) := by decide +kernel
theorem d_Md_count_38 : decode b_Md_count 38 = .ok (.aload_n 0, 1) := by decide +kernel
theorem d_Md_count_39 : decode b_Md_count 39 = .ok (.getfield 62, 3) := by decide +kernel
theorem d_Md_count_42 : decode b_Md_count 42 = .ok (.isub, 1) := by decide +kernel
theorem d_Md_count_43 : decode b_Md_count 43 = .ok (.ireturn, 1) := by decide +kernel
theorem d_Md_count_44 : decode b_Md_count 44 = .ok (.iload_n 1, 1) := by decide +kernel
theorem d_Md_count_45 : decode b_Md_count 45 = .ok (.iconst 4, 1) := by decide +kernel
theorem d_Md_count_46 : decode b_Md_count 46 = .ok (.if_icmp .ne (13), 3) := by decide +kernel
theorem d_Md_count_49 : decode b_Md_count 49 = .ok (.aload_n 0, 1) := by decide +kernel
theorem d_Md_count_50 : decode b_Md_count 50 = .ok (.getfield 62, 3) := by decide +kernel
theorem d_Md_count_53 : decode b_Md_count 53 = .ok (.aload_n 0, 1) := by decide +kernel
theorem d_Md_count_54 : decode b_Md_count 54 = .ok (.getfield 109, 3) := by decide +kernel
theorem d_Md_count_57 : decode b_Md_count 57 = .ok (.isub, 1) := by decide +kernel
theorem d_Md_count_58 : decode b_Md_count 58 = .ok (.ireturn, 1) := by decide +kernel
theorem d_Md_count_59 : decode b_Md_count 59 = .ok (.iload_n 1, 1) := by decide +kernel
theorem d_Md_count_60 : decode b_Md_count 60 = .ok (.iconst 5, 1) := by decide +kernel
theorem d_Md_count_61 : decode b_Md_count 61 = .ok (.if_icmp .ne (8), 3) := by decide +kernel
theorem d_Md_count_64 : decode b_Md_count 64 = .ok (.aload_n 0, 1) := by decide +kernel
theorem d_Md_count_65 : decode b_Md_count 65 = .ok (.invokevirtual 84, 3) := by decide +kernel
theorem d_Md_count_68 : decode b_Md_count 68 = .ok (.ireturn, 1) := by decide +kernel
theorem d_Md_count_69 : decode b_Md_count 69 = .ok (.iload_n 1, 1) := by decide +kernel
theorem d_Md_count_70 : decode b_Md_count 70 = .ok (.bipush (6), 2) := by decide +kernel
theorem d_Md_count_72 : decode b_Md_count 72 = .ok (.if_icmp .ne (16), 3) := by decide +kernel
theorem d_Md_count_75 : decode b_Md_count 75 = .ok (.aload_n 0, 1) := by decide +kernel
theorem d_Md_count_76 : decode b_Md_count 76 = .ok (.getfield 76, 3) := by decide +kernel
theorem d_Md_count_79 : decode b_Md_count 79 = .ok (.ifCond .eq (7), 3) := by decide +kernel
theorem d_Md_count_82 : decode b_Md_count 82 = .ok (.iconst 1, 1) := by decide +kernel
theorem d_Md_count_83 : decode b_Md_count 83 = .ok (.goto (4), 3) := by decide +kernel
theorem d_Md_count_86 : decode b_Md_count 86 = .ok (.iconst 0, 1) := by decide +kernel
theorem d_Md_count_87 : decode b_Md_count 87 = .ok (.ireturn, 1) := by decide +kernel
theorem d_Md_count_88 : decode b_Md_count 88 = .ok (.iload_n 1, 1) := by decide +kernel
theorem d_Md_count_89 : decode b_Md_count 89 = .ok (.bipush (7), 2) := by decide +kernel
theorem d_Md_count_91 : decode b_Md_count 91 = .ok (.if_icmp .ne (8), 3) := by decide +kernel
theorem d_Md_count_94 : decode b_Md_count 94 = .ok (.aload_n 0, 1) := by decide +kernel
theorem d_Md_count_95 : decode b_Md_count 95 = .ok (.getfield 44, 3) := by decide +kernel
theorem d_Md_count_98 : decode b_Md_count 98 = .ok (.ireturn, 1) := by decide +kernel
theorem d_Md_count_99 : decode b_Md_count 99 = .ok (.iload_n 1, 1) := by decide +kernel
theorem d_Md_count_100 : decode b_Md_count 100 = .ok (.bipush (8), 2) := by decide +kernel
theorem d_Md_count_102 : decode b_Md_count 102 = .ok (.if_icmp .ne (10), 3) := by decide +kernel
theorem d_Md_count_105 : decode b_Md_count 105 = .ok (.aload_n 0, 1) := by decide +kernel
theorem d_Md_count_106 : decode b_Md_count 106 = .ok (.getfield 65, 3) := by decide +kernel
theorem d_Md_count_109 : decode b_Md_count 109 = .ok (.goto (4), 3) := by decide +kernel
theorem d_Md_count_112 : decode b_Md_count 112 = .ok (.iconst (-1), 1) := by decide +kernel
theorem d_Md_count_113 : decode b_Md_count 113 = .ok (.ireturn, 1) := by decide +kernel
theorem d_Md_begun_0 : decode b_Md_begun 0 = .ok (.aload_n 0, 1) := by decide +kernel
theorem d_Md_begun_1 : decode b_Md_begun 1 = .ok (.getfield 57, 3) := by decide +kernel
theorem d_Md_begun_4 : decode b_Md_begun 4 = .ok (.aload_n 0, 1) := by decide +kernel
theorem d_Md_begun_5 : decode b_Md_begun 5 = .ok (.getfield 51, 3) := by decide +kernel
theorem d_Md_begun_8 : decode b_Md_begun 8 = .ok (.iadd, 1) := by decide +kernel
theorem d_Md_begun_9 : decode b_Md_begun 9 = .ok (.iconst 1, 1) := by decide +kernel
theorem d_Md_begun_10 : decode b_Md_begun 10 = .ok (.isub, 1) := by decide +kernel
theorem d_Md_begun_11 : decode b_Md_begun 11 = .ok (.aload_n 0, 1) := by decide +kernel
theorem d_Md_begun_12 : decode b_Md_begun 12 = .ok (.getfield 51, 3) := by decide +kernel
theorem d_Md_begun_15 : decode b_Md_begun 15 = .ok (.idiv, 1) := by decide +kernel
theorem d_Md_begun_16 : decode b_Md_begun 16 = .ok (.ireturn, 1) := by decide +kernel
