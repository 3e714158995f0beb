theorem dX0_init_0 : decode cX0_init 0 = .ok (.aload_n 0, 1) := by decide +kernel
theorem dX0_init_1 : decode cX0_init 1 = .ok (.invokespecial 3, 3) := by decide +kernel
theorem dX0_init_4 : decode cX0_init 4 = .ok (.aload_n 0, 1) := by decide +kernel
theorem dX0_init_5 : decode cX0_init 5 = .ok (.bipush 24, 2) := by decide +kernel
theorem dX0_init_7 : decode cX0_init 7 = .ok (.anewarray 9, 3) := by decide +kernel
theorem dX0_init_10 : decode cX0_init 10 = .ok (.putfield 11, 3) := by decide +kernel
theorem dX0_init_13 : decode cX0_init 13 = .ok (.aload_n 0, 1) := by decide +kernel
theorem dX0_init_14 : decode cX0_init 14 = .ok (.iconst 0, 1) := by decide +kernel
theorem dX0_init_15 : decode cX0_init 15 = .ok (.putfield 17, 3) := by decide +kernel
theorem dX0_init_18 : decode cX0_init 18 = .ok (.aload_n 0, 1) := by decide +kernel
theorem dX0_init_19 : decode cX0_init 19 = .ok (.iconst 0, 1) := by decide +kernel
theorem dX0_init_20 : decode cX0_init 20 = .ok (.putfield 21, 3) := by decide +kernel
theorem dX0_init_23 : decode cX0_init 23 = .ok (.iconst 0, 1) := by decide +kernel
theorem dX0_init_24 : decode cX0_init 24 = .ok (.istore_n 1, 1) := by decide +kernel
theorem dX0_init_25 : decode cX0_init 25 = .ok (.iload_n 1, 1) := by decide +kernel
theorem dX0_init_26 : decode cX0_init 26 = .ok (.bipush 24, 2) := by decide +kernel
theorem dX0_init_28 : decode cX0_init 28 = .ok (.if_icmp .ge 22, 3) := by decide +kernel
theorem dX0_init_31 : decode cX0_init 31 = .ok (.aload_n 0, 1) := by decide +kernel
theorem dX0_init_32 : decode cX0_init 32 = .ok (.getfield 11, 3) := by decide +kernel
theorem dX0_init_35 : decode cX0_init 35 = .ok (.iload_n 1, 1) := by decide +kernel
theorem dX0_init_36 : decode cX0_init 36 = .ok (.new 9, 3) := by decide +kernel
theorem dX0_init_39 : decode cX0_init 39 = .ok (.dup, 1) := by decide +kernel
theorem dX0_init_40 : decode cX0_init 40 = .ok (.invokespecial 24, 3) := by decide +kernel
theorem dX0_init_43 : decode cX0_init 43 = .ok (.aastore, 1) := by decide +kernel
theorem dX0_init_44 : decode cX0_init 44 = .ok (.iinc 1 1, 3) := by decide +kernel
theorem dX0_init_47 : decode cX0_init 47 = .ok (.goto (-22), 3) := by decide +kernel
theorem dX0_init_50 : decode cX0_init 50 = .ok (.return_, 1) := by decide +kernel
theorem dX0_keep_0 : decode cX0_keep 0 = .ok (.aload_n 0, 1) := by decide +kernel
theorem dX0_keep_1 : decode cX0_keep 1 = .ok (.getfield 11, 3) := by decide +kernel
theorem dX0_keep_4 : decode cX0_keep 4 = .ok (.aload_n 0, 1) := by decide +kernel
theorem dX0_keep_5 : decode cX0_keep 5 = .ok (.getfield 17, 3) := by decide +kernel
theorem dX0_keep_8 : decode cX0_keep 8 = .ok (.aaload, 1) := by decide +kernel
theorem dX0_keep_9 : decode cX0_keep 9 = .ok (.aload_n 1, 1) := by decide +kernel
theorem dX0_keep_10 : decode cX0_keep 10 = .ok (.invokevirtual 25, 3) := by decide +kernel
theorem dX0_keep_13 : decode cX0_keep 13 = .ok (.aload_n 0, 1) := by decide +kernel
theorem dX0_keep_14 : decode cX0_keep 14 = .ok (.aload_n 0, 1) := by decide +kernel
theorem dX0_keep_15 : decode cX0_keep 15 = .ok (.getfield 17, 3) := by decide +kernel
theorem dX0_keep_18 : decode cX0_keep 18 = .ok (.iconst 1, 1) := by decide +kernel
theorem dX0_keep_19 : decode cX0_keep 19 = .ok (.iadd, 1) := by decide +kernel
theorem dX0_keep_20 : decode cX0_keep 20 = .ok (.bipush 24, 2) := by decide +kernel
theorem dX0_keep_22 : decode cX0_keep 22 = .ok (.irem, 1) := by decide +kernel
theorem dX0_keep_23 : decode cX0_keep 23 = .ok (.putfield 17, 3) := by decide +kernel
theorem dX0_keep_26 : decode cX0_keep 26 = .ok (.aload_n 0, 1) := by decide +kernel
theorem dX0_keep_27 : decode cX0_keep 27 = .ok (.aload_n 0, 1) := by decide +kernel
theorem dX0_keep_28 : decode cX0_keep 28 = .ok (.getfield 21, 3) := by decide +kernel
theorem dX0_keep_31 : decode cX0_keep 31 = .ok (.iconst 1, 1) := by decide +kernel
theorem dX0_keep_32 : decode cX0_keep 32 = .ok (.iadd, 1) := by decide +kernel
theorem dX0_keep_33 : decode cX0_keep 33 = .ok (.bipush 24, 2) := by decide +kernel
theorem dX0_keep_35 : decode cX0_keep 35 = .ok (.invokestatic 29, 3) := by decide +kernel
theorem dX0_keep_38 : decode cX0_keep 38 = .ok (.putfield 21, 3) := by decide +kernel
theorem dX0_keep_41 : decode cX0_keep 41 = .ok (.return_, 1) := by decide +kernel
theorem dX0_takeBack_0 : decode cX0_takeBack 0 = .ok (.aload_n 0, 1) := by decide +kernel
theorem dX0_takeBack_1 : decode cX0_takeBack 1 = .ok (.getfield 21, 3) := by decide +kernel
theorem dX0_takeBack_4 : decode cX0_takeBack 4 = .ok (.iconst 1, 1) := by decide +kernel
theorem dX0_takeBack_5 : decode cX0_takeBack 5 = .ok (.if_icmp .ge 4, 3) := by decide +kernel
theorem dX0_takeBack_8 : decode cX0_takeBack 8 = .ok (.return_, 1) := by decide +kernel
theorem dX0_takeBack_9 : decode cX0_takeBack 9 = .ok (.aload_n 0, 1) := by decide +kernel
theorem dX0_takeBack_10 : decode cX0_takeBack 10 = .ok (.aload_n 0, 1) := by decide +kernel
theorem dX0_takeBack_11 : decode cX0_takeBack 11 = .ok (.getfield 17, 3) := by decide +kernel
theorem dX0_takeBack_14 : decode cX0_takeBack 14 = .ok (.bipush 24, 2) := by decide +kernel
theorem dX0_takeBack_16 : decode cX0_takeBack 16 = .ok (.iadd, 1) := by decide +kernel
theorem dX0_takeBack_17 : decode cX0_takeBack 17 = .ok (.iconst 1, 1) := by decide +kernel
theorem dX0_takeBack_18 : decode cX0_takeBack 18 = .ok (.isub, 1) := by decide +kernel
theorem dX0_takeBack_19 : decode cX0_takeBack 19 = .ok (.bipush 24, 2) := by decide +kernel
theorem dX0_takeBack_21 : decode cX0_takeBack 21 = .ok (.irem, 1) := by decide +kernel
theorem dX0_takeBack_22 : decode cX0_takeBack 22 = .ok (.putfield 17, 3) := by decide +kernel
theorem dX0_takeBack_25 : decode cX0_takeBack 25 = .ok (.aload_n 0, 1) := by decide +kernel
theorem dX0_takeBack_26 : decode cX0_takeBack 26 = .ok (.dup, 1) := by decide +kernel
theorem dX0_takeBack_27 : decode cX0_takeBack 27 = .ok (.getfield 21, 3) := by decide +kernel
theorem dX0_takeBack_30 : decode cX0_takeBack 30 = .ok (.iconst 1, 1) := by decide +kernel
theorem dX0_takeBack_31 : decode cX0_takeBack 31 = .ok (.isub, 1) := by decide +kernel
theorem dX0_takeBack_32 : decode cX0_takeBack 32 = .ok (.putfield 21, 3) := by decide +kernel
theorem dX0_takeBack_35 : decode cX0_takeBack 35 = .ok (.aload_n 1, 1) := by decide +kernel
theorem dX0_takeBack_36 : decode cX0_takeBack 36 = .ok (.aload_n 0, 1) := by decide +kernel
theorem dX0_takeBack_37 : decode cX0_takeBack 37 = .ok (.getfield 11, 3) := by decide +kernel
theorem dX0_takeBack_40 : decode cX0_takeBack 40 = .ok (.aload_n 0, 1) := by decide +kernel
theorem dX0_takeBack_41 : decode cX0_takeBack 41 = .ok (.getfield 17, 3) := by decide +kernel
theorem dX0_takeBack_44 : decode cX0_takeBack 44 = .ok (.aaload, 1) := by decide +kernel
theorem dX0_takeBack_45 : decode cX0_takeBack 45 = .ok (.invokevirtual 25, 3) := by decide +kernel
theorem dX0_takeBack_48 : decode cX0_takeBack 48 = .ok (.return_, 1) := by decide +kernel
theorem dX0_forget_0 : decode cX0_forget 0 = .ok (.aload_n 0, 1) := by decide +kernel
theorem dX0_forget_1 : decode cX0_forget 1 = .ok (.iconst 0, 1) := by decide +kernel
theorem dX0_forget_2 : decode cX0_forget 2 = .ok (.putfield 21, 3) := by decide +kernel
theorem dX0_forget_5 : decode cX0_forget 5 = .ok (.return_, 1) := by decide +kernel
theorem dX1_init_0 : decode cX1_init 0 = .ok (.aload_n 0, 1) := by decide +kernel
theorem dX1_init_1 : decode cX1_init 1 = .ok (.invokespecial 1, 3) := by decide +kernel
theorem dX1_init_4 : decode cX1_init 4 = .ok (.aload_n 0, 1) := by decide +kernel
theorem dX1_init_5 : decode cX1_init 5 = .ok (.bipush 16, 2) := by decide +kernel
theorem dX1_init_7 : decode cX1_init 7 = .ok (.newarray .int, 2) := by decide +kernel
theorem dX1_init_9 : decode cX1_init 9 = .ok (.putfield 9, 3) := by decide +kernel
theorem dX1_init_12 : decode cX1_init 12 = .ok (.aload_n 0, 1) := by decide +kernel
theorem dX1_init_13 : decode cX1_init 13 = .ok (.iconst 0, 1) := by decide +kernel
theorem dX1_init_14 : decode cX1_init 14 = .ok (.putfield 13, 3) := by decide +kernel
theorem dX1_init_17 : decode cX1_init 17 = .ok (.aload_n 0, 1) := by decide +kernel
theorem dX1_init_18 : decode cX1_init 18 = .ok (.aload_n 1, 1) := by decide +kernel
theorem dX1_init_19 : decode cX1_init 19 = .ok (.putfield 17, 3) := by decide +kernel
theorem dX1_init_22 : decode cX1_init 22 = .ok (.return_, 1) := by decide +kernel
theorem dX1_isA_0 : decode cX1_isA 0 = .ok (.iload_n 0, 1) := by decide +kernel
theorem dX1_isA_1 : decode cX1_isA 1 = .ok (.istore_n 2, 1) := by decide +kernel
theorem dX1_isA_2 : decode cX1_isA 2 = .ok (.iconst 0, 1) := by decide +kernel
theorem dX1_isA_3 : decode cX1_isA 3 = .ok (.istore_n 3, 1) := by decide +kernel
theorem dX1_isA_4 : decode cX1_isA 4 = .ok (.iload_n 3, 1) := by decide +kernel
theorem dX1_isA_5 : decode cX1_isA 5 = .ok (.getstatic 21, 3) := by decide +kernel
theorem dX1_isA_8 : decode cX1_isA 8 = .ok (.arraylength, 1) := by decide +kernel
theorem dX1_isA_9 : decode cX1_isA 9 = .ok (.if_icmp .ge 34, 3) := by decide +kernel
theorem dX1_isA_12 : decode cX1_isA 12 = .ok (.iload_n 2, 1) := by decide +kernel
theorem dX1_isA_13 : decode cX1_isA 13 = .ok (.ifCond .lt 30, 3) := by decide +kernel
theorem dX1_isA_16 : decode cX1_isA 16 = .ok (.iload_n 2, 1) := by decide +kernel
theorem dX1_isA_17 : decode cX1_isA 17 = .ok (.getstatic 21, 3) := by decide +kernel
theorem dX1_isA_20 : decode cX1_isA 20 = .ok (.arraylength, 1) := by decide +kernel
theorem dX1_isA_21 : decode cX1_isA 21 = .ok (.if_icmp .ge 22, 3) := by decide +kernel
theorem dX1_isA_24 : decode cX1_isA 24 = .ok (.iload_n 2, 1) := by decide +kernel
theorem dX1_isA_25 : decode cX1_isA 25 = .ok (.iload_n 1, 1) := by decide +kernel
theorem dX1_isA_26 : decode cX1_isA 26 = .ok (.if_icmp .ne 5, 3) := by decide +kernel
theorem dX1_isA_29 : decode cX1_isA 29 = .ok (.iconst 1, 1) := by decide +kernel
theorem dX1_isA_30 : decode cX1_isA 30 = .ok (.ireturn, 1) := by decide +kernel
theorem dX1_isA_31 : decode cX1_isA 31 = .ok (.getstatic 21, 3) := by decide +kernel
theorem dX1_isA_34 : decode cX1_isA 34 = .ok (.iload_n 2, 1) := by decide +kernel
theorem dX1_isA_35 : decode cX1_isA 35 = .ok (.iaload, 1) := by decide +kernel
theorem dX1_isA_36 : decode cX1_isA 36 = .ok (.istore_n 2, 1) := by decide +kernel
theorem dX1_isA_37 : decode cX1_isA 37 = .ok (.iinc 3 1, 3) := by decide +kernel
theorem dX1_isA_40 : decode cX1_isA 40 = .ok (.goto (-36), 3) := by decide +kernel
theorem dX1_isA_43 : decode cX1_isA 43 = .ok (.iconst 0, 1) := by decide +kernel
theorem dX1_isA_44 : decode cX1_isA 44 = .ok (.ireturn, 1) := by decide +kernel
theorem dX1_answer_0 : decode cX1_answer 0 = .ok (.aload_n 0, 1) := by decide +kernel
theorem dX1_answer_1 : decode cX1_answer 1 = .ok (.iconst 0, 1) := by decide +kernel
theorem dX1_answer_2 : decode cX1_answer 2 = .ok (.putfield 13, 3) := by decide +kernel
theorem dX1_answer_5 : decode cX1_answer 5 = .ok (.iload_n 2, 1) := by decide +kernel
theorem dX1_answer_6 : decode cX1_answer 6 = .ok (.ifCond .eq 12, 3) := by decide +kernel
theorem dX1_answer_9 : decode cX1_answer 9 = .ok (.aload_n 0, 1) := by decide +kernel
theorem dX1_answer_10 : decode cX1_answer 10 = .ok (.iload_n 1, 1) := by decide +kernel
theorem dX1_answer_11 : decode cX1_answer 11 = .ok (.iconst 0, 1) := by decide +kernel
theorem dX1_answer_12 : decode cX1_answer 12 = .ok (.invokevirtual 24, 3) := by decide +kernel
theorem dX1_answer_15 : decode cX1_answer 15 = .ok (.goto 9, 3) := by decide +kernel
theorem dX1_answer_18 : decode cX1_answer 18 = .ok (.aload_n 0, 1) := by decide +kernel
theorem dX1_answer_19 : decode cX1_answer 19 = .ok (.iload_n 1, 1) := by decide +kernel
theorem dX1_answer_20 : decode cX1_answer 20 = .ok (.iconst 0, 1) := by decide +kernel
theorem dX1_answer_21 : decode cX1_answer 21 = .ok (.invokevirtual 28, 3) := by decide +kernel
theorem dX1_answer_24 : decode cX1_answer 24 = .ok (.ireturn, 1) := by decide +kernel
theorem dX1_sizeOf_0 : decode cX1_sizeOf 0 = .ok (.aload_n 0, 1) := by decide +kernel
theorem dX1_sizeOf_1 : decode cX1_sizeOf 1 = .ok (.getstatic 31, 3) := by decide +kernel
theorem dX1_sizeOf_4 : decode cX1_sizeOf 4 = .ok (.aload_n 0, 1) := by decide +kernel
theorem dX1_sizeOf_5 : decode cX1_sizeOf 5 = .ok (.getfield 17, 3) := by decide +kernel
theorem dX1_sizeOf_8 : decode cX1_sizeOf 8 = .ok (.getfield 34, 3) := by decide +kernel
theorem dX1_sizeOf_11 : decode cX1_sizeOf 11 = .ok (.iload_n 1, 1) := by decide +kernel
theorem dX1_sizeOf_12 : decode cX1_sizeOf 12 = .ok (.iaload, 1) := by decide +kernel
theorem dX1_sizeOf_13 : decode cX1_sizeOf 13 = .ok (.iaload, 1) := by decide +kernel
theorem dX1_sizeOf_14 : decode cX1_sizeOf 14 = .ok (.iload_n 1, 1) := by decide +kernel
theorem dX1_sizeOf_15 : decode cX1_sizeOf 15 = .ok (.iload_n 2, 1) := by decide +kernel
theorem dX1_sizeOf_16 : decode cX1_sizeOf 16 = .ok (.invokevirtual 39, 3) := by decide +kernel
theorem dX1_sizeOf_19 : decode cX1_sizeOf 19 = .ok (.ireturn, 1) := by decide +kernel
theorem dX1_markOf_0 : decode cX1_markOf 0 = .ok (.aload_n 0, 1) := by decide +kernel
theorem dX1_markOf_1 : decode cX1_markOf 1 = .ok (.getstatic 43, 3) := by decide +kernel
theorem dX1_markOf_4 : decode cX1_markOf 4 = .ok (.aload_n 0, 1) := by decide +kernel
theorem dX1_markOf_5 : decode cX1_markOf 5 = .ok (.getfield 17, 3) := by decide +kernel
theorem dX1_markOf_8 : decode cX1_markOf 8 = .ok (.getfield 34, 3) := by decide +kernel
theorem dX1_markOf_11 : decode cX1_markOf 11 = .ok (.iload_n 1, 1) := by decide +kernel
theorem dX1_markOf_12 : decode cX1_markOf 12 = .ok (.iaload, 1) := by decide +kernel
theorem dX1_markOf_13 : decode cX1_markOf 13 = .ok (.iaload, 1) := by decide +kernel
theorem dX1_markOf_14 : decode cX1_markOf 14 = .ok (.iload_n 1, 1) := by decide +kernel
theorem dX1_markOf_15 : decode cX1_markOf 15 = .ok (.iload_n 2, 1) := by decide +kernel
theorem dX1_markOf_16 : decode cX1_markOf 16 = .ok (.invokevirtual 39, 3) := by decide +kernel
theorem dX1_markOf_19 : decode cX1_markOf 19 = .ok (.ireturn, 1) := by decide +kernel
theorem dX1_run_0 : decode cX1_run 0 = .ok (.iload_n 3, 1) := by decide +kernel
theorem dX1_run_1 : decode cX1_run 1 = .ok (.bipush 16, 2) := by decide +kernel
theorem dX1_run_3 : decode cX1_run 3 = .ok (.if_icmp .le 5, 3) := by decide +kernel
theorem dX1_run_6 : decode cX1_run 6 = .ok (.iconst 0, 1) := by decide +kernel
theorem dX1_run_7 : decode cX1_run 7 = .ok (.ireturn, 1) := by decide +kernel
theorem dX1_run_8 : decode cX1_run 8 = .ok (.aload_n 0, 1) := by decide +kernel
theorem dX1_run_9 : decode cX1_run 9 = .ok (.iload_n 1, 1) := by decide +kernel
theorem dX1_run_10 : decode cX1_run 10 = .ok (.invokevirtual 46, 3) := by decide +kernel
theorem dX1_run_13 : decode cX1_run 13 = .ok (.iload_n 3, 1) := by decide +kernel
theorem dX1_run_14 : decode cX1_run 14 = .ok (.iconst 1, 1) := by decide +kernel
theorem dX1_run_15 : decode cX1_run 15 = .ok (.iadd, 1) := by decide +kernel
theorem dX1_run_16 : decode cX1_run 16 = .ok (.istore 4, 2) := by decide +kernel
theorem dX1_run_18 : decode cX1_run 18 = .ok (.iload_n 1, 1) := by decide +kernel
theorem dX1_run_19 : decode cX1_run 19 = .ok (.tableswitch 203 10 24 #[73, 83, 101, 112, 125, 203, 203, 203, 203, 203, 137, 139, 159, 173, 191], 73) := by decide +kernel
theorem dX1_run_92 : decode cX1_run 92 = .ok (.aload_n 0, 1) := by decide +kernel
theorem dX1_run_93 : decode cX1_run 93 = .ok (.getfield 17, 3) := by decide +kernel
theorem dX1_run_96 : decode cX1_run 96 = .ok (.getfield 50, 3) := by decide +kernel
theorem dX1_run_99 : decode cX1_run 99 = .ok (.iload_n 2, 1) := by decide +kernel
theorem dX1_run_100 : decode cX1_run 100 = .ok (.iaload, 1) := by decide +kernel
theorem dX1_run_101 : decode cX1_run 101 = .ok (.ireturn, 1) := by decide +kernel
theorem dX1_run_102 : decode cX1_run 102 = .ok (.aload_n 0, 1) := by decide +kernel
theorem dX1_run_103 : decode cX1_run 103 = .ok (.bipush 10, 2) := by decide +kernel
theorem dX1_run_105 : decode cX1_run 105 = .ok (.iload_n 2, 1) := by decide +kernel
theorem dX1_run_106 : decode cX1_run 106 = .ok (.iload 4, 2) := by decide +kernel
theorem dX1_run_108 : decode cX1_run 108 = .ok (.invokevirtual 39, 3) := by decide +kernel
theorem dX1_run_111 : decode cX1_run 111 = .ok (.aload_n 0, 1) := by decide +kernel
theorem dX1_run_112 : decode cX1_run 112 = .ok (.iload_n 2, 1) := by decide +kernel
theorem dX1_run_113 : decode cX1_run 113 = .ok (.iload 4, 2) := by decide +kernel
theorem dX1_run_115 : decode cX1_run 115 = .ok (.invokevirtual 24, 3) := by decide +kernel
theorem dX1_run_118 : decode cX1_run 118 = .ok (.iadd, 1) := by decide +kernel
theorem dX1_run_119 : decode cX1_run 119 = .ok (.ireturn, 1) := by decide +kernel
theorem dX1_run_120 : decode cX1_run 120 = .ok (.aload_n 0, 1) := by decide +kernel
theorem dX1_run_121 : decode cX1_run 121 = .ok (.bipush 11, 2) := by decide +kernel
theorem dX1_run_123 : decode cX1_run 123 = .ok (.iload_n 2, 1) := by decide +kernel
theorem dX1_run_124 : decode cX1_run 124 = .ok (.iload 4, 2) := by decide +kernel
theorem dX1_run_126 : decode cX1_run 126 = .ok (.invokevirtual 39, 3) := by decide +kernel
theorem dX1_run_129 : decode cX1_run 129 = .ok (.ineg, 1) := by decide +kernel
theorem dX1_run_130 : decode cX1_run 130 = .ok (.ireturn, 1) := by decide +kernel
theorem dX1_run_131 : decode cX1_run 131 = .ok (.aload_n 0, 1) := by decide +kernel
theorem dX1_run_132 : decode cX1_run 132 = .ok (.bipush 10, 2) := by decide +kernel
theorem dX1_run_134 : decode cX1_run 134 = .ok (.iload_n 2, 1) := by decide +kernel
theorem dX1_run_135 : decode cX1_run 135 = .ok (.iload 4, 2) := by decide +kernel
theorem dX1_run_137 : decode cX1_run 137 = .ok (.invokevirtual 39, 3) := by decide +kernel
theorem dX1_run_140 : decode cX1_run 140 = .ok (.bipush 100, 2) := by decide +kernel
theorem dX1_run_142 : decode cX1_run 142 = .ok (.isub, 1) := by decide +kernel
theorem dX1_run_143 : decode cX1_run 143 = .ok (.ireturn, 1) := by decide +kernel
theorem dX1_run_144 : decode cX1_run 144 = .ok (.iconst 2, 1) := by decide +kernel
theorem dX1_run_145 : decode cX1_run 145 = .ok (.aload_n 0, 1) := by decide +kernel
theorem dX1_run_146 : decode cX1_run 146 = .ok (.bipush 13, 2) := by decide +kernel
theorem dX1_run_148 : decode cX1_run 148 = .ok (.iload_n 2, 1) := by decide +kernel
theorem dX1_run_149 : decode cX1_run 149 = .ok (.iload 4, 2) := by decide +kernel
theorem dX1_run_151 : decode cX1_run 151 = .ok (.invokevirtual 39, 3) := by decide +kernel
theorem dX1_run_154 : decode cX1_run 154 = .ok (.imul, 1) := by decide +kernel
theorem dX1_run_155 : decode cX1_run 155 = .ok (.ireturn, 1) := by decide +kernel
theorem dX1_run_156 : decode cX1_run 156 = .ok (.iload_n 2, 1) := by decide +kernel
theorem dX1_run_157 : decode cX1_run 157 = .ok (.ireturn, 1) := by decide +kernel
theorem dX1_run_158 : decode cX1_run 158 = .ok (.aload_n 0, 1) := by decide +kernel
theorem dX1_run_159 : decode cX1_run 159 = .ok (.bipush 20, 2) := by decide +kernel
theorem dX1_run_161 : decode cX1_run 161 = .ok (.iload_n 2, 1) := by decide +kernel
theorem dX1_run_162 : decode cX1_run 162 = .ok (.iload 4, 2) := by decide +kernel
theorem dX1_run_164 : decode cX1_run 164 = .ok (.invokevirtual 39, 3) := by decide +kernel
theorem dX1_run_167 : decode cX1_run 167 = .ok (.aload_n 0, 1) := by decide +kernel
theorem dX1_run_168 : decode cX1_run 168 = .ok (.getfield 17, 3) := by decide +kernel
theorem dX1_run_171 : decode cX1_run 171 = .ok (.getfield 53, 3) := by decide +kernel
theorem dX1_run_174 : decode cX1_run 174 = .ok (.iload_n 2, 1) := by decide +kernel
theorem dX1_run_175 : decode cX1_run 175 = .ok (.iaload, 1) := by decide +kernel
theorem dX1_run_176 : decode cX1_run 176 = .ok (.iadd, 1) := by decide +kernel
theorem dX1_run_177 : decode cX1_run 177 = .ok (.ireturn, 1) := by decide +kernel
theorem dX1_run_178 : decode cX1_run 178 = .ok (.aload_n 0, 1) := by decide +kernel
theorem dX1_run_179 : decode cX1_run 179 = .ok (.bipush 21, 2) := by decide +kernel
theorem dX1_run_181 : decode cX1_run 181 = .ok (.iload_n 2, 1) := by decide +kernel
theorem dX1_run_182 : decode cX1_run 182 = .ok (.iload 4, 2) := by decide +kernel
theorem dX1_run_184 : decode cX1_run 184 = .ok (.invokevirtual 39, 3) := by decide +kernel
theorem dX1_run_187 : decode cX1_run 187 = .ok (.sipush 1000, 3) := by decide +kernel
theorem dX1_run_190 : decode cX1_run 190 = .ok (.isub, 1) := by decide +kernel
theorem dX1_run_191 : decode cX1_run 191 = .ok (.ireturn, 1) := by decide +kernel
theorem dX1_run_192 : decode cX1_run 192 = .ok (.aload_n 0, 1) := by decide +kernel
theorem dX1_run_193 : decode cX1_run 193 = .ok (.bipush 20, 2) := by decide +kernel
theorem dX1_run_195 : decode cX1_run 195 = .ok (.iload_n 2, 1) := by decide +kernel
theorem dX1_run_196 : decode cX1_run 196 = .ok (.iload 4, 2) := by decide +kernel
theorem dX1_run_198 : decode cX1_run 198 = .ok (.invokevirtual 39, 3) := by decide +kernel
theorem dX1_run_201 : decode cX1_run 201 = .ok (.aload_n 0, 1) := by decide +kernel
theorem dX1_run_202 : decode cX1_run 202 = .ok (.iload_n 2, 1) := by decide +kernel
theorem dX1_run_203 : decode cX1_run 203 = .ok (.iload 4, 2) := by decide +kernel
theorem dX1_run_205 : decode cX1_run 205 = .ok (.invokevirtual 28, 3) := by decide +kernel
theorem dX1_run_208 : decode cX1_run 208 = .ok (.isub, 1) := by decide +kernel
theorem dX1_run_209 : decode cX1_run 209 = .ok (.ireturn, 1) := by decide +kernel
theorem dX1_run_210 : decode cX1_run 210 = .ok (.iconst 2, 1) := by decide +kernel
theorem dX1_run_211 : decode cX1_run 211 = .ok (.aload_n 0, 1) := by decide +kernel
theorem dX1_run_212 : decode cX1_run 212 = .ok (.bipush 21, 2) := by decide +kernel
theorem dX1_run_214 : decode cX1_run 214 = .ok (.iload_n 2, 1) := by decide +kernel
theorem dX1_run_215 : decode cX1_run 215 = .ok (.iload 4, 2) := by decide +kernel
theorem dX1_run_217 : decode cX1_run 217 = .ok (.invokevirtual 39, 3) := by decide +kernel
theorem dX1_run_220 : decode cX1_run 220 = .ok (.imul, 1) := by decide +kernel
theorem dX1_run_221 : decode cX1_run 221 = .ok (.ireturn, 1) := by decide +kernel
theorem dX1_run_222 : decode cX1_run 222 = .ok (.iconst 0, 1) := by decide +kernel
theorem dX1_run_223 : decode cX1_run 223 = .ok (.ireturn, 1) := by decide +kernel
theorem dX1_leave_0 : decode cX1_leave 0 = .ok (.aload_n 0, 1) := by decide +kernel
theorem dX1_leave_1 : decode cX1_leave 1 = .ok (.getfield 13, 3) := by decide +kernel
theorem dX1_leave_4 : decode cX1_leave 4 = .ok (.bipush 16, 2) := by decide +kernel
theorem dX1_leave_6 : decode cX1_leave 6 = .ok (.if_icmp .lt 4, 3) := by decide +kernel
theorem dX1_leave_9 : decode cX1_leave 9 = .ok (.return_, 1) := by decide +kernel
theorem dX1_leave_10 : decode cX1_leave 10 = .ok (.aload_n 0, 1) := by decide +kernel
theorem dX1_leave_11 : decode cX1_leave 11 = .ok (.getfield 9, 3) := by decide +kernel
theorem dX1_leave_14 : decode cX1_leave 14 = .ok (.aload_n 0, 1) := by decide +kernel
theorem dX1_leave_15 : decode cX1_leave 15 = .ok (.getfield 13, 3) := by decide +kernel
theorem dX1_leave_18 : decode cX1_leave 18 = .ok (.iload_n 1, 1) := by decide +kernel
theorem dX1_leave_19 : decode cX1_leave 19 = .ok (.iastore, 1) := by decide +kernel
theorem dX1_leave_20 : decode cX1_leave 20 = .ok (.aload_n 0, 1) := by decide +kernel
theorem dX1_leave_21 : decode cX1_leave 21 = .ok (.dup, 1) := by decide +kernel
theorem dX1_leave_22 : decode cX1_leave 22 = .ok (.getfield 13, 3) := by decide +kernel
theorem dX1_leave_25 : decode cX1_leave 25 = .ok (.iconst 1, 1) := by decide +kernel
theorem dX1_leave_26 : decode cX1_leave 26 = .ok (.iadd, 1) := by decide +kernel
theorem dX1_leave_27 : decode cX1_leave 27 = .ok (.putfield 13, 3) := by decide +kernel
theorem dX1_leave_30 : decode cX1_leave 30 = .ok (.return_, 1) := by decide +kernel
theorem dX2_init_0 : decode cX2_init 0 = .ok (.aload_n 0, 1) := by decide +kernel
theorem dX2_init_1 : decode cX2_init 1 = .ok (.invokespecial 3, 3) := by decide +kernel
theorem dX2_init_4 : decode cX2_init 4 = .ok (.aload_n 0, 1) := by decide +kernel
theorem dX2_init_5 : decode cX2_init 5 = .ok (.iconst 0, 1) := by decide +kernel
theorem dX2_init_6 : decode cX2_init 6 = .ok (.putfield 9, 3) := by decide +kernel
theorem dX2_init_9 : decode cX2_init 9 = .ok (.aload_n 0, 1) := by decide +kernel
theorem dX2_init_10 : decode cX2_init 10 = .ok (.iconst 0, 1) := by decide +kernel
theorem dX2_init_11 : decode cX2_init 11 = .ok (.putfield 15, 3) := by decide +kernel
theorem dX2_init_14 : decode cX2_init 14 = .ok (.aload_n 0, 1) := by decide +kernel
theorem dX2_init_15 : decode cX2_init 15 = .ok (.iconst 0, 1) := by decide +kernel
theorem dX2_init_16 : decode cX2_init 16 = .ok (.putfield 18, 3) := by decide +kernel
theorem dX2_init_19 : decode cX2_init 19 = .ok (.aload_n 0, 1) := by decide +kernel
theorem dX2_init_20 : decode cX2_init 20 = .ok (.iconst 0, 1) := by decide +kernel
theorem dX2_init_21 : decode cX2_init 21 = .ok (.putfield 21, 3) := by decide +kernel
theorem dX2_init_24 : decode cX2_init 24 = .ok (.aload_n 0, 1) := by decide +kernel
theorem dX2_init_25 : decode cX2_init 25 = .ok (.iconst (-1), 1) := by decide +kernel
theorem dX2_init_26 : decode cX2_init 26 = .ok (.putfield 24, 3) := by decide +kernel
theorem dX2_init_29 : decode cX2_init 29 = .ok (.aload_n 0, 1) := by decide +kernel
theorem dX2_init_30 : decode cX2_init 30 = .ok (.iconst 0, 1) := by decide +kernel
theorem dX2_init_31 : decode cX2_init 31 = .ok (.putfield 27, 3) := by decide +kernel
theorem dX2_init_34 : decode cX2_init 34 = .ok (.aload_n 0, 1) := by decide +kernel
theorem dX2_init_35 : decode cX2_init 35 = .ok (.iconst 0, 1) := by decide +kernel
theorem dX2_init_36 : decode cX2_init 36 = .ok (.putfield 30, 3) := by decide +kernel
theorem dX2_init_39 : decode cX2_init 39 = .ok (.aload_n 0, 1) := by decide +kernel
theorem dX2_init_40 : decode cX2_init 40 = .ok (.iconst 0, 1) := by decide +kernel
theorem dX2_init_41 : decode cX2_init 41 = .ok (.putfield 33, 3) := by decide +kernel
theorem dX2_init_44 : decode cX2_init 44 = .ok (.aload_n 0, 1) := by decide +kernel
theorem dX2_init_45 : decode cX2_init 45 = .ok (.bipush 6, 2) := by decide +kernel
theorem dX2_init_47 : decode cX2_init 47 = .ok (.newarray .int, 2) := by decide +kernel
theorem dX2_init_49 : decode cX2_init 49 = .ok (.putfield 36, 3) := by decide +kernel
theorem dX2_init_52 : decode cX2_init 52 = .ok (.aload_n 0, 1) := by decide +kernel
theorem dX2_init_53 : decode cX2_init 53 = .ok (.bipush 6, 2) := by decide +kernel
theorem dX2_init_55 : decode cX2_init 55 = .ok (.newarray .int, 2) := by decide +kernel
theorem dX2_init_57 : decode cX2_init 57 = .ok (.putfield 40, 3) := by decide +kernel
theorem dX2_init_60 : decode cX2_init 60 = .ok (.aload_n 0, 1) := by decide +kernel
theorem dX2_init_61 : decode cX2_init 61 = .ok (.bipush 6, 2) := by decide +kernel
theorem dX2_init_63 : decode cX2_init 63 = .ok (.newarray .int, 2) := by decide +kernel
theorem dX2_init_65 : decode cX2_init 65 = .ok (.putfield 43, 3) := by decide +kernel
theorem dX2_init_68 : decode cX2_init 68 = .ok (.aload_n 0, 1) := by decide +kernel
theorem dX2_init_69 : decode cX2_init 69 = .ok (.bipush 6, 2) := by decide +kernel
theorem dX2_init_71 : decode cX2_init 71 = .ok (.newarray .int, 2) := by decide +kernel
theorem dX2_init_73 : decode cX2_init 73 = .ok (.putfield 46, 3) := by decide +kernel
theorem dX2_init_76 : decode cX2_init 76 = .ok (.aload_n 0, 1) := by decide +kernel
theorem dX2_init_77 : decode cX2_init 77 = .ok (.bipush 6, 2) := by decide +kernel
theorem dX2_init_79 : decode cX2_init 79 = .ok (.newarray .int, 2) := by decide +kernel
theorem dX2_init_81 : decode cX2_init 81 = .ok (.putfield 49, 3) := by decide +kernel
theorem dX2_init_84 : decode cX2_init 84 = .ok (.aload_n 0, 1) := by decide +kernel
theorem dX2_init_85 : decode cX2_init 85 = .ok (.bipush 6, 2) := by decide +kernel
theorem dX2_init_87 : decode cX2_init 87 = .ok (.newarray .int, 2) := by decide +kernel
theorem dX2_init_89 : decode cX2_init 89 = .ok (.putfield 52, 3) := by decide +kernel
theorem dX2_init_92 : decode cX2_init 92 = .ok (.return_, 1) := by decide +kernel
theorem dX2_clear_0 : decode cX2_clear 0 = .ok (.aload_n 0, 1) := by decide +kernel
theorem dX2_clear_1 : decode cX2_clear 1 = .ok (.iconst 0, 1) := by decide +kernel
theorem dX2_clear_2 : decode cX2_clear 2 = .ok (.putfield 9, 3) := by decide +kernel
theorem dX2_clear_5 : decode cX2_clear 5 = .ok (.aload_n 0, 1) := by decide +kernel
theorem dX2_clear_6 : decode cX2_clear 6 = .ok (.iconst 0, 1) := by decide +kernel
theorem dX2_clear_7 : decode cX2_clear 7 = .ok (.putfield 15, 3) := by decide +kernel
theorem dX2_clear_10 : decode cX2_clear 10 = .ok (.aload_n 0, 1) := by decide +kernel
theorem dX2_clear_11 : decode cX2_clear 11 = .ok (.iconst 0, 1) := by decide +kernel
theorem dX2_clear_12 : decode cX2_clear 12 = .ok (.putfield 18, 3) := by decide +kernel
theorem dX2_clear_15 : decode cX2_clear 15 = .ok (.aload_n 0, 1) := by decide +kernel
theorem dX2_clear_16 : decode cX2_clear 16 = .ok (.iconst 0, 1) := by decide +kernel
theorem dX2_clear_17 : decode cX2_clear 17 = .ok (.putfield 21, 3) := by decide +kernel
theorem dX2_clear_20 : decode cX2_clear 20 = .ok (.aload_n 0, 1) := by decide +kernel
theorem dX2_clear_21 : decode cX2_clear 21 = .ok (.iconst (-1), 1) := by decide +kernel
theorem dX2_clear_22 : decode cX2_clear 22 = .ok (.putfield 24, 3) := by decide +kernel
theorem dX2_clear_25 : decode cX2_clear 25 = .ok (.aload_n 0, 1) := by decide +kernel
theorem dX2_clear_26 : decode cX2_clear 26 = .ok (.iconst 0, 1) := by decide +kernel
theorem dX2_clear_27 : decode cX2_clear 27 = .ok (.putfield 27, 3) := by decide +kernel
theorem dX2_clear_30 : decode cX2_clear 30 = .ok (.aload_n 0, 1) := by decide +kernel
theorem dX2_clear_31 : decode cX2_clear 31 = .ok (.iconst 0, 1) := by decide +kernel
theorem dX2_clear_32 : decode cX2_clear 32 = .ok (.putfield 30, 3) := by decide +kernel
theorem dX2_clear_35 : decode cX2_clear 35 = .ok (.aload_n 0, 1) := by decide +kernel
theorem dX2_clear_36 : decode cX2_clear 36 = .ok (.iconst 0, 1) := by decide +kernel
theorem dX2_clear_37 : decode cX2_clear 37 = .ok (.putfield 33, 3) := by decide +kernel
theorem dX2_clear_40 : decode cX2_clear 40 = .ok (.return_, 1) := by decide +kernel
theorem dX2_become_0 : decode cX2_become 0 = .ok (.aload_n 0, 1) := by decide +kernel
theorem dX2_become_1 : decode cX2_become 1 = .ok (.aload_n 1, 1) := by decide +kernel
theorem dX2_become_2 : decode cX2_become 2 = .ok (.getfield 9, 3) := by decide +kernel
theorem dX2_become_5 : decode cX2_become 5 = .ok (.putfield 9, 3) := by decide +kernel
theorem dX2_become_8 : decode cX2_become 8 = .ok (.aload_n 0, 1) := by decide +kernel
theorem dX2_become_9 : decode cX2_become 9 = .ok (.aload_n 1, 1) := by decide +kernel
theorem dX2_become_10 : decode cX2_become 10 = .ok (.getfield 15, 3) := by decide +kernel
theorem dX2_become_13 : decode cX2_become 13 = .ok (.putfield 15, 3) := by decide +kernel
theorem dX2_become_16 : decode cX2_become 16 = .ok (.aload_n 0, 1) := by decide +kernel
theorem dX2_become_17 : decode cX2_become 17 = .ok (.aload_n 1, 1) := by decide +kernel
theorem dX2_become_18 : decode cX2_become 18 = .ok (.getfield 18, 3) := by decide +kernel
theorem dX2_become_21 : decode cX2_become 21 = .ok (.putfield 18, 3) := by decide +kernel
theorem dX2_become_24 : decode cX2_become 24 = .ok (.aload_n 0, 1) := by decide +kernel
theorem dX2_become_25 : decode cX2_become 25 = .ok (.aload_n 1, 1) := by decide +kernel
theorem dX2_become_26 : decode cX2_become 26 = .ok (.getfield 21, 3) := by decide +kernel
theorem dX2_become_29 : decode cX2_become 29 = .ok (.putfield 21, 3) := by decide +kernel
theorem dX2_become_32 : decode cX2_become 32 = .ok (.aload_n 0, 1) := by decide +kernel
theorem dX2_become_33 : decode cX2_become 33 = .ok (.aload_n 1, 1) := by decide +kernel
theorem dX2_become_34 : decode cX2_become 34 = .ok (.getfield 24, 3) := by decide +kernel
theorem dX2_become_37 : decode cX2_become 37 = .ok (.putfield 24, 3) := by decide +kernel
theorem dX2_become_40 : decode cX2_become 40 = .ok (.aload_n 0, 1) := by decide +kernel
theorem dX2_become_41 : decode cX2_become 41 = .ok (.aload_n 1, 1) := by decide +kernel
theorem dX2_become_42 : decode cX2_become 42 = .ok (.getfield 27, 3) := by decide +kernel
theorem dX2_become_45 : decode cX2_become 45 = .ok (.putfield 27, 3) := by decide +kernel
theorem dX2_become_48 : decode cX2_become 48 = .ok (.aload_n 0, 1) := by decide +kernel
theorem dX2_become_49 : decode cX2_become 49 = .ok (.aload_n 1, 1) := by decide +kernel
theorem dX2_become_50 : decode cX2_become 50 = .ok (.getfield 30, 3) := by decide +kernel
theorem dX2_become_53 : decode cX2_become 53 = .ok (.putfield 30, 3) := by decide +kernel
theorem dX2_become_56 : decode cX2_become 56 = .ok (.aload_n 0, 1) := by decide +kernel
theorem dX2_become_57 : decode cX2_become 57 = .ok (.aload_n 1, 1) := by decide +kernel
theorem dX2_become_58 : decode cX2_become 58 = .ok (.getfield 33, 3) := by decide +kernel
theorem dX2_become_61 : decode cX2_become 61 = .ok (.putfield 33, 3) := by decide +kernel
theorem dX2_become_64 : decode cX2_become 64 = .ok (.aload_n 1, 1) := by decide +kernel
theorem dX2_become_65 : decode cX2_become 65 = .ok (.getfield 36, 3) := by decide +kernel
theorem dX2_become_68 : decode cX2_become 68 = .ok (.iconst 0, 1) := by decide +kernel
theorem dX2_become_69 : decode cX2_become 69 = .ok (.aload_n 0, 1) := by decide +kernel
theorem dX2_become_70 : decode cX2_become 70 = .ok (.getfield 36, 3) := by decide +kernel
theorem dX2_become_73 : decode cX2_become 73 = .ok (.iconst 0, 1) := by decide +kernel
theorem dX2_become_74 : decode cX2_become 74 = .ok (.bipush 6, 2) := by decide +kernel
theorem dX2_become_76 : decode cX2_become 76 = .ok (.invokestatic 55, 3) := by decide +kernel
theorem dX2_become_79 : decode cX2_become 79 = .ok (.aload_n 1, 1) := by decide +kernel
theorem dX2_become_80 : decode cX2_become 80 = .ok (.getfield 40, 3) := by decide +kernel
theorem dX2_become_83 : decode cX2_become 83 = .ok (.iconst 0, 1) := by decide +kernel
theorem dX2_become_84 : decode cX2_become 84 = .ok (.aload_n 0, 1) := by decide +kernel
theorem dX2_become_85 : decode cX2_become 85 = .ok (.getfield 40, 3) := by decide +kernel
theorem dX2_become_88 : decode cX2_become 88 = .ok (.iconst 0, 1) := by decide +kernel
theorem dX2_become_89 : decode cX2_become 89 = .ok (.bipush 6, 2) := by decide +kernel
theorem dX2_become_91 : decode cX2_become 91 = .ok (.invokestatic 55, 3) := by decide +kernel
theorem dX2_become_94 : decode cX2_become 94 = .ok (.aload_n 1, 1) := by decide +kernel
theorem dX2_become_95 : decode cX2_become 95 = .ok (.getfield 43, 3) := by decide +kernel
theorem dX2_become_98 : decode cX2_become 98 = .ok (.iconst 0, 1) := by decide +kernel
theorem dX2_become_99 : decode cX2_become 99 = .ok (.aload_n 0, 1) := by decide +kernel
theorem dX2_become_100 : decode cX2_become 100 = .ok (.getfield 43, 3) := by decide +kernel
theorem dX2_become_103 : decode cX2_become 103 = .ok (.iconst 0, 1) := by decide +kernel
theorem dX2_become_104 : decode cX2_become 104 = .ok (.bipush 6, 2) := by decide +kernel
theorem dX2_become_106 : decode cX2_become 106 = .ok (.invokestatic 55, 3) := by decide +kernel
theorem dX2_become_109 : decode cX2_become 109 = .ok (.aload_n 1, 1) := by decide +kernel
theorem dX2_become_110 : decode cX2_become 110 = .ok (.getfield 46, 3) := by decide +kernel
theorem dX2_become_113 : decode cX2_become 113 = .ok (.iconst 0, 1) := by decide +kernel
theorem dX2_become_114 : decode cX2_become 114 = .ok (.aload_n 0, 1) := by decide +kernel
theorem dX2_become_115 : decode cX2_become 115 = .ok (.getfield 46, 3) := by decide +kernel
theorem dX2_become_118 : decode cX2_become 118 = .ok (.iconst 0, 1) := by decide +kernel
theorem dX2_become_119 : decode cX2_become 119 = .ok (.bipush 6, 2) := by decide +kernel
theorem dX2_become_121 : decode cX2_become 121 = .ok (.invokestatic 55, 3) := by decide +kernel
theorem dX2_become_124 : decode cX2_become 124 = .ok (.aload_n 1, 1) := by decide +kernel
theorem dX2_become_125 : decode cX2_become 125 = .ok (.getfield 49, 3) := by decide +kernel
theorem dX2_become_128 : decode cX2_become 128 = .ok (.iconst 0, 1) := by decide +kernel
theorem dX2_become_129 : decode cX2_become 129 = .ok (.aload_n 0, 1) := by decide +kernel
theorem dX2_become_130 : decode cX2_become 130 = .ok (.getfield 49, 3) := by decide +kernel
theorem dX2_become_133 : decode cX2_become 133 = .ok (.iconst 0, 1) := by decide +kernel
theorem dX2_become_134 : decode cX2_become 134 = .ok (.bipush 6, 2) := by decide +kernel
theorem dX2_become_136 : decode cX2_become 136 = .ok (.invokestatic 55, 3) := by decide +kernel
theorem dX2_become_139 : decode cX2_become 139 = .ok (.aload_n 1, 1) := by decide +kernel
theorem dX2_become_140 : decode cX2_become 140 = .ok (.getfield 52, 3) := by decide +kernel
theorem dX2_become_143 : decode cX2_become 143 = .ok (.iconst 0, 1) := by decide +kernel
theorem dX2_become_144 : decode cX2_become 144 = .ok (.aload_n 0, 1) := by decide +kernel
theorem dX2_become_145 : decode cX2_become 145 = .ok (.getfield 52, 3) := by decide +kernel
theorem dX2_become_148 : decode cX2_become 148 = .ok (.iconst 0, 1) := by decide +kernel
theorem dX2_become_149 : decode cX2_become 149 = .ok (.bipush 6, 2) := by decide +kernel
theorem dX2_become_151 : decode cX2_become 151 = .ok (.invokestatic 55, 3) := by decide +kernel
theorem dX2_become_154 : decode cX2_become 154 = .ok (.return_, 1) := by decide +kernel
theorem dX2_addCell_0 : decode cX2_addCell 0 = .ok (.aload_n 0, 1) := by decide +kernel
theorem dX2_addCell_1 : decode cX2_addCell 1 = .ok (.getfield 27, 3) := by decide +kernel
theorem dX2_addCell_4 : decode cX2_addCell 4 = .ok (.bipush 6, 2) := by decide +kernel
theorem dX2_addCell_6 : decode cX2_addCell 6 = .ok (.if_icmp .lt 4, 3) := by decide +kernel
theorem dX2_addCell_9 : decode cX2_addCell 9 = .ok (.return_, 1) := by decide +kernel
theorem dX2_addCell_10 : decode cX2_addCell 10 = .ok (.aload_n 0, 1) := by decide +kernel
theorem dX2_addCell_11 : decode cX2_addCell 11 = .ok (.getfield 36, 3) := by decide +kernel
theorem dX2_addCell_14 : decode cX2_addCell 14 = .ok (.aload_n 0, 1) := by decide +kernel
theorem dX2_addCell_15 : decode cX2_addCell 15 = .ok (.getfield 27, 3) := by decide +kernel
theorem dX2_addCell_18 : decode cX2_addCell 18 = .ok (.iload_n 1, 1) := by decide +kernel
theorem dX2_addCell_19 : decode cX2_addCell 19 = .ok (.iastore, 1) := by decide +kernel
theorem dX2_addCell_20 : decode cX2_addCell 20 = .ok (.aload_n 0, 1) := by decide +kernel
theorem dX2_addCell_21 : decode cX2_addCell 21 = .ok (.dup, 1) := by decide +kernel
theorem dX2_addCell_22 : decode cX2_addCell 22 = .ok (.getfield 27, 3) := by decide +kernel
theorem dX2_addCell_25 : decode cX2_addCell 25 = .ok (.iconst 1, 1) := by decide +kernel
theorem dX2_addCell_26 : decode cX2_addCell 26 = .ok (.iadd, 1) := by decide +kernel
theorem dX2_addCell_27 : decode cX2_addCell 27 = .ok (.putfield 27, 3) := by decide +kernel
theorem dX2_addCell_30 : decode cX2_addCell 30 = .ok (.return_, 1) := by decide +kernel
theorem dX2_addBoat_0 : decode cX2_addBoat 0 = .ok (.aload_n 0, 1) := by decide +kernel
theorem dX2_addBoat_1 : decode cX2_addBoat 1 = .ok (.getfield 30, 3) := by decide +kernel
theorem dX2_addBoat_4 : decode cX2_addBoat 4 = .ok (.bipush 6, 2) := by decide +kernel
theorem dX2_addBoat_6 : decode cX2_addBoat 6 = .ok (.if_icmp .lt 4, 3) := by decide +kernel
theorem dX2_addBoat_9 : decode cX2_addBoat 9 = .ok (.return_, 1) := by decide +kernel
theorem dX2_addBoat_10 : decode cX2_addBoat 10 = .ok (.aload_n 0, 1) := by decide +kernel
theorem dX2_addBoat_11 : decode cX2_addBoat 11 = .ok (.getfield 40, 3) := by decide +kernel
theorem dX2_addBoat_14 : decode cX2_addBoat 14 = .ok (.aload_n 0, 1) := by decide +kernel
theorem dX2_addBoat_15 : decode cX2_addBoat 15 = .ok (.getfield 30, 3) := by decide +kernel
theorem dX2_addBoat_18 : decode cX2_addBoat 18 = .ok (.iload_n 1, 1) := by decide +kernel
theorem dX2_addBoat_19 : decode cX2_addBoat 19 = .ok (.iastore, 1) := by decide +kernel
theorem dX2_addBoat_20 : decode cX2_addBoat 20 = .ok (.aload_n 0, 1) := by decide +kernel
theorem dX2_addBoat_21 : decode cX2_addBoat 21 = .ok (.getfield 43, 3) := by decide +kernel
theorem dX2_addBoat_24 : decode cX2_addBoat 24 = .ok (.aload_n 0, 1) := by decide +kernel
theorem dX2_addBoat_25 : decode cX2_addBoat 25 = .ok (.getfield 30, 3) := by decide +kernel
theorem dX2_addBoat_28 : decode cX2_addBoat 28 = .ok (.iload_n 2, 1) := by decide +kernel
theorem dX2_addBoat_29 : decode cX2_addBoat 29 = .ok (.iastore, 1) := by decide +kernel
theorem dX2_addBoat_30 : decode cX2_addBoat 30 = .ok (.aload_n 0, 1) := by decide +kernel
theorem dX2_addBoat_31 : decode cX2_addBoat 31 = .ok (.getfield 46, 3) := by decide +kernel
theorem dX2_addBoat_34 : decode cX2_addBoat 34 = .ok (.aload_n 0, 1) := by decide +kernel
theorem dX2_addBoat_35 : decode cX2_addBoat 35 = .ok (.getfield 30, 3) := by decide +kernel
theorem dX2_addBoat_38 : decode cX2_addBoat 38 = .ok (.iload_n 2, 1) := by decide +kernel
theorem dX2_addBoat_39 : decode cX2_addBoat 39 = .ok (.iastore, 1) := by decide +kernel
theorem dX2_addBoat_40 : decode cX2_addBoat 40 = .ok (.aload_n 0, 1) := by decide +kernel
theorem dX2_addBoat_41 : decode cX2_addBoat 41 = .ok (.getfield 49, 3) := by decide +kernel
theorem dX2_addBoat_44 : decode cX2_addBoat 44 = .ok (.aload_n 0, 1) := by decide +kernel
theorem dX2_addBoat_45 : decode cX2_addBoat 45 = .ok (.getfield 30, 3) := by decide +kernel
theorem dX2_addBoat_48 : decode cX2_addBoat 48 = .ok (.iload_n 3, 1) := by decide +kernel
theorem dX2_addBoat_49 : decode cX2_addBoat 49 = .ok (.iastore, 1) := by decide +kernel
theorem dX2_addBoat_50 : decode cX2_addBoat 50 = .ok (.aload_n 0, 1) := by decide +kernel
theorem dX2_addBoat_51 : decode cX2_addBoat 51 = .ok (.getfield 52, 3) := by decide +kernel
theorem dX2_addBoat_54 : decode cX2_addBoat 54 = .ok (.aload_n 0, 1) := by decide +kernel
theorem dX2_addBoat_55 : decode cX2_addBoat 55 = .ok (.getfield 30, 3) := by decide +kernel
theorem dX2_addBoat_58 : decode cX2_addBoat 58 = .ok (.iconst 0, 1) := by decide +kernel
theorem dX2_addBoat_59 : decode cX2_addBoat 59 = .ok (.iastore, 1) := by decide +kernel
theorem dX2_addBoat_60 : decode cX2_addBoat 60 = .ok (.aload_n 0, 1) := by decide +kernel
theorem dX2_addBoat_61 : decode cX2_addBoat 61 = .ok (.dup, 1) := by decide +kernel
theorem dX2_addBoat_62 : decode cX2_addBoat 62 = .ok (.getfield 30, 3) := by decide +kernel
theorem dX2_addBoat_65 : decode cX2_addBoat 65 = .ok (.iconst 1, 1) := by decide +kernel
theorem dX2_addBoat_66 : decode cX2_addBoat 66 = .ok (.iadd, 1) := by decide +kernel
theorem dX2_addBoat_67 : decode cX2_addBoat 67 = .ok (.putfield 30, 3) := by decide +kernel
theorem dX2_addBoat_70 : decode cX2_addBoat 70 = .ok (.return_, 1) := by decide +kernel
theorem dX2_stands_0 : decode cX2_stands 0 = .ok (.aload_n 0, 1) := by decide +kernel
theorem dX2_stands_1 : decode cX2_stands 1 = .ok (.getfield 30, 3) := by decide +kernel
theorem dX2_stands_4 : decode cX2_stands 4 = .ok (.ifCond .le 7, 3) := by decide +kernel
theorem dX2_stands_7 : decode cX2_stands 7 = .ok (.iconst 1, 1) := by decide +kernel
theorem dX2_stands_8 : decode cX2_stands 8 = .ok (.goto 4, 3) := by decide +kernel
theorem dX2_stands_11 : decode cX2_stands 11 = .ok (.iconst 0, 1) := by decide +kernel
theorem dX2_stands_12 : decode cX2_stands 12 = .ok (.ireturn, 1) := by decide +kernel
theorem dX2_hasBoat_0 : decode cX2_hasBoat 0 = .ok (.iload_n 1, 1) := by decide +kernel
theorem dX2_hasBoat_1 : decode cX2_hasBoat 1 = .ok (.ifCond .lt 15, 3) := by decide +kernel
theorem dX2_hasBoat_4 : decode cX2_hasBoat 4 = .ok (.iload_n 1, 1) := by decide +kernel
theorem dX2_hasBoat_5 : decode cX2_hasBoat 5 = .ok (.aload_n 0, 1) := by decide +kernel
theorem dX2_hasBoat_6 : decode cX2_hasBoat 6 = .ok (.getfield 30, 3) := by decide +kernel
theorem dX2_hasBoat_9 : decode cX2_hasBoat 9 = .ok (.if_icmp .ge 7, 3) := by decide +kernel
theorem dX2_hasBoat_12 : decode cX2_hasBoat 12 = .ok (.iconst 1, 1) := by decide +kernel
theorem dX2_hasBoat_13 : decode cX2_hasBoat 13 = .ok (.goto 4, 3) := by decide +kernel
theorem dX2_hasBoat_16 : decode cX2_hasBoat 16 = .ok (.iconst 0, 1) := by decide +kernel
theorem dX2_hasBoat_17 : decode cX2_hasBoat 17 = .ok (.ireturn, 1) := by decide +kernel
theorem dX2_hasCell_0 : decode cX2_hasCell 0 = .ok (.iload_n 1, 1) := by decide +kernel
theorem dX2_hasCell_1 : decode cX2_hasCell 1 = .ok (.ifCond .lt 15, 3) := by decide +kernel
theorem dX2_hasCell_4 : decode cX2_hasCell 4 = .ok (.iload_n 1, 1) := by decide +kernel
theorem dX2_hasCell_5 : decode cX2_hasCell 5 = .ok (.aload_n 0, 1) := by decide +kernel
theorem dX2_hasCell_6 : decode cX2_hasCell 6 = .ok (.getfield 27, 3) := by decide +kernel
theorem dX2_hasCell_9 : decode cX2_hasCell 9 = .ok (.if_icmp .ge 7, 3) := by decide +kernel
theorem dX2_hasCell_12 : decode cX2_hasCell 12 = .ok (.iconst 1, 1) := by decide +kernel
theorem dX2_hasCell_13 : decode cX2_hasCell 13 = .ok (.goto 4, 3) := by decide +kernel
theorem dX2_hasCell_16 : decode cX2_hasCell 16 = .ok (.iconst 0, 1) := by decide +kernel
theorem dX2_hasCell_17 : decode cX2_hasCell 17 = .ok (.ireturn, 1) := by decide +kernel
theorem dX2_isSent_0 : decode cX2_isSent 0 = .ok (.aload_n 0, 1) := by decide +kernel
theorem dX2_isSent_1 : decode cX2_isSent 1 = .ok (.getfield 33, 3) := by decide +kernel
theorem dX2_isSent_4 : decode cX2_isSent 4 = .ok (.iload_n 1, 1) := by decide +kernel
theorem dX2_isSent_5 : decode cX2_isSent 5 = .ok (.ishr, 1) := by decide +kernel
theorem dX2_isSent_6 : decode cX2_isSent 6 = .ok (.iconst 1, 1) := by decide +kernel
theorem dX2_isSent_7 : decode cX2_isSent 7 = .ok (.iand, 1) := by decide +kernel
theorem dX2_isSent_8 : decode cX2_isSent 8 = .ok (.iconst 1, 1) := by decide +kernel
theorem dX2_isSent_9 : decode cX2_isSent 9 = .ok (.if_icmp .ne 7, 3) := by decide +kernel
theorem dX2_isSent_12 : decode cX2_isSent 12 = .ok (.iconst 1, 1) := by decide +kernel
theorem dX2_isSent_13 : decode cX2_isSent 13 = .ok (.goto 4, 3) := by decide +kernel
theorem dX2_isSent_16 : decode cX2_isSent 16 = .ok (.iconst 0, 1) := by decide +kernel
theorem dX2_isSent_17 : decode cX2_isSent 17 = .ok (.ireturn, 1) := by decide +kernel
theorem dX2_waterBehind_0 : decode cX2_waterBehind 0 = .ok (.aload_n 0, 1) := by decide +kernel
theorem dX2_waterBehind_1 : decode cX2_waterBehind 1 = .ok (.getfield 9, 3) := by decide +kernel
theorem dX2_waterBehind_4 : decode cX2_waterBehind 4 = .ok (.iconst 1, 1) := by decide +kernel
theorem dX2_waterBehind_5 : decode cX2_waterBehind 5 = .ok (.if_icmp .ge 5, 3) := by decide +kernel
theorem dX2_waterBehind_8 : decode cX2_waterBehind 8 = .ok (.iconst 0, 1) := by decide +kernel
theorem dX2_waterBehind_9 : decode cX2_waterBehind 9 = .ok (.ireturn, 1) := by decide +kernel
theorem dX2_waterBehind_10 : decode cX2_waterBehind 10 = .ok (.iconst 2, 1) := by decide +kernel
theorem dX2_waterBehind_11 : decode cX2_waterBehind 11 = .ok (.aload_n 0, 1) := by decide +kernel
theorem dX2_waterBehind_12 : decode cX2_waterBehind 12 = .ok (.getfield 21, 3) := by decide +kernel
theorem dX2_waterBehind_15 : decode cX2_waterBehind 15 = .ok (.iload_n 1, 1) := by decide +kernel
theorem dX2_waterBehind_16 : decode cX2_waterBehind 16 = .ok (.iadd, 1) := by decide +kernel
theorem dX2_waterBehind_17 : decode cX2_waterBehind 17 = .ok (.aload_n 0, 1) := by decide +kernel
theorem dX2_waterBehind_18 : decode cX2_waterBehind 18 = .ok (.getfield 9, 3) := by decide +kernel
theorem dX2_waterBehind_21 : decode cX2_waterBehind 21 = .ok (.irem, 1) := by decide +kernel
theorem dX2_waterBehind_22 : decode cX2_waterBehind 22 = .ok (.imul, 1) := by decide +kernel
theorem dX2_waterBehind_23 : decode cX2_waterBehind 23 = .ok (.aload_n 0, 1) := by decide +kernel
theorem dX2_waterBehind_24 : decode cX2_waterBehind 24 = .ok (.getfield 9, 3) := by decide +kernel
theorem dX2_waterBehind_27 : decode cX2_waterBehind 27 = .ok (.isub, 1) := by decide +kernel
theorem dX2_waterBehind_28 : decode cX2_waterBehind 28 = .ok (.istore_n 2, 1) := by decide +kernel
theorem dX2_waterBehind_29 : decode cX2_waterBehind 29 = .ok (.aload_n 0, 1) := by decide +kernel
theorem dX2_waterBehind_30 : decode cX2_waterBehind 30 = .ok (.getfield 15, 3) := by decide +kernel
theorem dX2_waterBehind_33 : decode cX2_waterBehind 33 = .ok (.iload_n 2, 1) := by decide +kernel
theorem dX2_waterBehind_34 : decode cX2_waterBehind 34 = .ok (.ifCond .ge 8, 3) := by decide +kernel
theorem dX2_waterBehind_37 : decode cX2_waterBehind 37 = .ok (.iload_n 2, 1) := by decide +kernel
theorem dX2_waterBehind_38 : decode cX2_waterBehind 38 = .ok (.ineg, 1) := by decide +kernel
theorem dX2_waterBehind_39 : decode cX2_waterBehind 39 = .ok (.goto 4, 3) := by decide +kernel
theorem dX2_waterBehind_42 : decode cX2_waterBehind 42 = .ok (.iload_n 2, 1) := by decide +kernel
theorem dX2_waterBehind_43 : decode cX2_waterBehind 43 = .ok (.imul, 1) := by decide +kernel
theorem dX2_waterBehind_44 : decode cX2_waterBehind 44 = .ok (.aload_n 0, 1) := by decide +kernel
theorem dX2_waterBehind_45 : decode cX2_waterBehind 45 = .ok (.getfield 9, 3) := by decide +kernel
theorem dX2_waterBehind_48 : decode cX2_waterBehind 48 = .ok (.idiv, 1) := by decide +kernel
theorem dX2_waterBehind_49 : decode cX2_waterBehind 49 = .ok (.ireturn, 1) := by decide +kernel
theorem dX2_dryBehind_0 : decode cX2_dryBehind 0 = .ok (.aload_n 0, 1) := by decide +kernel
theorem dX2_dryBehind_1 : decode cX2_dryBehind 1 = .ok (.iload_n 1, 1) := by decide +kernel
theorem dX2_dryBehind_2 : decode cX2_dryBehind 2 = .ok (.invokevirtual 61, 3) := by decide +kernel
theorem dX2_dryBehind_5 : decode cX2_dryBehind 5 = .ok (.istore_n 2, 1) := by decide +kernel
theorem dX2_dryBehind_6 : decode cX2_dryBehind 6 = .ok (.iconst 0, 1) := by decide +kernel
theorem dX2_dryBehind_7 : decode cX2_dryBehind 7 = .ok (.istore_n 3, 1) := by decide +kernel
theorem dX2_dryBehind_8 : decode cX2_dryBehind 8 = .ok (.iconst 0, 1) := by decide +kernel
theorem dX2_dryBehind_9 : decode cX2_dryBehind 9 = .ok (.istore 4, 2) := by decide +kernel
theorem dX2_dryBehind_11 : decode cX2_dryBehind 11 = .ok (.iload 4, 2) := by decide +kernel
theorem dX2_dryBehind_13 : decode cX2_dryBehind 13 = .ok (.aload_n 0, 1) := by decide +kernel
theorem dX2_dryBehind_14 : decode cX2_dryBehind 14 = .ok (.getfield 27, 3) := by decide +kernel
theorem dX2_dryBehind_17 : decode cX2_dryBehind 17 = .ok (.if_icmp .ge 27, 3) := by decide +kernel
theorem dX2_dryBehind_20 : decode cX2_dryBehind 20 = .ok (.aload_n 0, 1) := by decide +kernel
theorem dX2_dryBehind_21 : decode cX2_dryBehind 21 = .ok (.getfield 36, 3) := by decide +kernel
theorem dX2_dryBehind_24 : decode cX2_dryBehind 24 = .ok (.iload 4, 2) := by decide +kernel
theorem dX2_dryBehind_26 : decode cX2_dryBehind 26 = .ok (.iaload, 1) := by decide +kernel
theorem dX2_dryBehind_27 : decode cX2_dryBehind 27 = .ok (.iload_n 2, 1) := by decide +kernel
theorem dX2_dryBehind_28 : decode cX2_dryBehind 28 = .ok (.if_icmp .le 10, 3) := by decide +kernel
theorem dX2_dryBehind_31 : decode cX2_dryBehind 31 = .ok (.iload_n 3, 1) := by decide +kernel
theorem dX2_dryBehind_32 : decode cX2_dryBehind 32 = .ok (.iconst 1, 1) := by decide +kernel
theorem dX2_dryBehind_33 : decode cX2_dryBehind 33 = .ok (.iload 4, 2) := by decide +kernel
theorem dX2_dryBehind_35 : decode cX2_dryBehind 35 = .ok (.ishl, 1) := by decide +kernel
theorem dX2_dryBehind_36 : decode cX2_dryBehind 36 = .ok (.ior, 1) := by decide +kernel
theorem dX2_dryBehind_37 : decode cX2_dryBehind 37 = .ok (.istore_n 3, 1) := by decide +kernel
theorem dX2_dryBehind_38 : decode cX2_dryBehind 38 = .ok (.iinc 4 1, 3) := by decide +kernel
theorem dX2_dryBehind_41 : decode cX2_dryBehind 41 = .ok (.goto (-30), 3) := by decide +kernel
theorem dX2_dryBehind_44 : decode cX2_dryBehind 44 = .ok (.iload_n 3, 1) := by decide +kernel
theorem dX2_dryBehind_45 : decode cX2_dryBehind 45 = .ok (.ireturn, 1) := by decide +kernel
theorem dX2_showsBehind_0 : decode cX2_showsBehind 0 = .ok (.aload_n 0, 1) := by decide +kernel
theorem dX2_showsBehind_1 : decode cX2_showsBehind 1 = .ok (.iload_n 1, 1) := by decide +kernel
theorem dX2_showsBehind_2 : decode cX2_showsBehind 2 = .ok (.invokevirtual 61, 3) := by decide +kernel
theorem dX2_showsBehind_5 : decode cX2_showsBehind 5 = .ok (.istore_n 2, 1) := by decide +kernel
theorem dX2_showsBehind_6 : decode cX2_showsBehind 6 = .ok (.iconst 0, 1) := by decide +kernel
theorem dX2_showsBehind_7 : decode cX2_showsBehind 7 = .ok (.istore_n 3, 1) := by decide +kernel
theorem dX2_showsBehind_8 : decode cX2_showsBehind 8 = .ok (.iload_n 3, 1) := by decide +kernel
theorem dX2_showsBehind_9 : decode cX2_showsBehind 9 = .ok (.aload_n 0, 1) := by decide +kernel
theorem dX2_showsBehind_10 : decode cX2_showsBehind 10 = .ok (.getfield 27, 3) := by decide +kernel
theorem dX2_showsBehind_13 : decode cX2_showsBehind 13 = .ok (.if_icmp .ge 21, 3) := by decide +kernel
theorem dX2_showsBehind_16 : decode cX2_showsBehind 16 = .ok (.aload_n 0, 1) := by decide +kernel
theorem dX2_showsBehind_17 : decode cX2_showsBehind 17 = .ok (.getfield 36, 3) := by decide +kernel
theorem dX2_showsBehind_20 : decode cX2_showsBehind 20 = .ok (.iload_n 3, 1) := by decide +kernel
theorem dX2_showsBehind_21 : decode cX2_showsBehind 21 = .ok (.iaload, 1) := by decide +kernel
theorem dX2_showsBehind_22 : decode cX2_showsBehind 22 = .ok (.iload_n 2, 1) := by decide +kernel
theorem dX2_showsBehind_23 : decode cX2_showsBehind 23 = .ok (.if_icmp .le 5, 3) := by decide +kernel
theorem dX2_showsBehind_26 : decode cX2_showsBehind 26 = .ok (.iconst 1, 1) := by decide +kernel
theorem dX2_showsBehind_27 : decode cX2_showsBehind 27 = .ok (.ireturn, 1) := by decide +kernel
theorem dX2_showsBehind_28 : decode cX2_showsBehind 28 = .ok (.iinc 3 1, 3) := by decide +kernel
theorem dX2_showsBehind_31 : decode cX2_showsBehind 31 = .ok (.goto (-23), 3) := by decide +kernel
theorem dX2_showsBehind_34 : decode cX2_showsBehind 34 = .ok (.iconst 0, 1) := by decide +kernel
theorem dX2_showsBehind_35 : decode cX2_showsBehind 35 = .ok (.ireturn, 1) := by decide +kernel
theorem dX2_wayOf_0 : decode cX2_wayOf 0 = .ok (.aload_n 0, 1) := by decide +kernel
theorem dX2_wayOf_1 : decode cX2_wayOf 1 = .ok (.getfield 49, 3) := by decide +kernel
theorem dX2_wayOf_4 : decode cX2_wayOf 4 = .ok (.iload_n 1, 1) := by decide +kernel
theorem dX2_wayOf_5 : decode cX2_wayOf 5 = .ok (.iaload, 1) := by decide +kernel
theorem dX2_wayOf_6 : decode cX2_wayOf 6 = .ok (.aload_n 0, 1) := by decide +kernel
theorem dX2_wayOf_7 : decode cX2_wayOf 7 = .ok (.getfield 18, 3) := by decide +kernel
theorem dX2_wayOf_10 : decode cX2_wayOf 10 = .ok (.imul, 1) := by decide +kernel
theorem dX2_wayOf_11 : decode cX2_wayOf 11 = .ok (.iconst 2, 1) := by decide +kernel
theorem dX2_wayOf_12 : decode cX2_wayOf 12 = .ok (.idiv, 1) := by decide +kernel
theorem dX2_wayOf_13 : decode cX2_wayOf 13 = .ok (.istore_n 3, 1) := by decide +kernel
theorem dX2_wayOf_14 : decode cX2_wayOf 14 = .ok (.iload_n 2, 1) := by decide +kernel
theorem dX2_wayOf_15 : decode cX2_wayOf 15 = .ok (.ifCond .eq 12, 3) := by decide +kernel
theorem dX2_wayOf_18 : decode cX2_wayOf 18 = .ok (.aload_n 0, 1) := by decide +kernel
theorem dX2_wayOf_19 : decode cX2_wayOf 19 = .ok (.getfield 49, 3) := by decide +kernel
theorem dX2_wayOf_22 : decode cX2_wayOf 22 = .ok (.iload_n 1, 1) := by decide +kernel
theorem dX2_wayOf_23 : decode cX2_wayOf 23 = .ok (.iaload, 1) := by decide +kernel
theorem dX2_wayOf_24 : decode cX2_wayOf 24 = .ok (.goto 4, 3) := by decide +kernel
theorem dX2_wayOf_27 : decode cX2_wayOf 27 = .ok (.iconst 0, 1) := by decide +kernel
theorem dX2_wayOf_28 : decode cX2_wayOf 28 = .ok (.istore 4, 2) := by decide +kernel
theorem dX2_wayOf_30 : decode cX2_wayOf 30 = .ok (.aload_n 0, 1) := by decide +kernel
theorem dX2_wayOf_31 : decode cX2_wayOf 31 = .ok (.getfield 40, 3) := by decide +kernel
theorem dX2_wayOf_34 : decode cX2_wayOf 34 = .ok (.iload_n 1, 1) := by decide +kernel
theorem dX2_wayOf_35 : decode cX2_wayOf 35 = .ok (.iaload, 1) := by decide +kernel
theorem dX2_wayOf_36 : decode cX2_wayOf 36 = .ok (.tableswitch 74 1 4 #[32, 34, 49, 71], 32) := by decide +kernel
theorem dX2_wayOf_68 : decode cX2_wayOf 68 = .ok (.iload_n 3, 1) := by decide +kernel
theorem dX2_wayOf_69 : decode cX2_wayOf 69 = .ok (.ireturn, 1) := by decide +kernel
theorem dX2_wayOf_70 : decode cX2_wayOf 70 = .ok (.aload_n 0, 1) := by decide +kernel
theorem dX2_wayOf_71 : decode cX2_wayOf 71 = .ok (.getfield 18, 3) := by decide +kernel
theorem dX2_wayOf_74 : decode cX2_wayOf 74 = .ok (.ifCond .ne 7, 3) := by decide +kernel
theorem dX2_wayOf_77 : decode cX2_wayOf 77 = .ok (.iload_n 3, 1) := by decide +kernel
theorem dX2_wayOf_78 : decode cX2_wayOf 78 = .ok (.goto 6, 3) := by decide +kernel
theorem dX2_wayOf_81 : decode cX2_wayOf 81 = .ok (.iload_n 3, 1) := by decide +kernel
theorem dX2_wayOf_82 : decode cX2_wayOf 82 = .ok (.iconst 1, 1) := by decide +kernel
theorem dX2_wayOf_83 : decode cX2_wayOf 83 = .ok (.iadd, 1) := by decide +kernel
theorem dX2_wayOf_84 : decode cX2_wayOf 84 = .ok (.ireturn, 1) := by decide +kernel
theorem dX2_wayOf_85 : decode cX2_wayOf 85 = .ok (.aload_n 0, 1) := by decide +kernel
theorem dX2_wayOf_86 : decode cX2_wayOf 86 = .ok (.getfield 18, 3) := by decide +kernel
theorem dX2_wayOf_89 : decode cX2_wayOf 89 = .ok (.ifCond .ne 16, 3) := by decide +kernel
theorem dX2_wayOf_92 : decode cX2_wayOf 92 = .ok (.iconst 2, 1) := by decide +kernel
theorem dX2_wayOf_93 : decode cX2_wayOf 93 = .ok (.aload_n 0, 1) := by decide +kernel
theorem dX2_wayOf_94 : decode cX2_wayOf 94 = .ok (.getfield 49, 3) := by decide +kernel
theorem dX2_wayOf_97 : decode cX2_wayOf 97 = .ok (.iload_n 1, 1) := by decide +kernel
theorem dX2_wayOf_98 : decode cX2_wayOf 98 = .ok (.iaload, 1) := by decide +kernel
theorem dX2_wayOf_99 : decode cX2_wayOf 99 = .ok (.iconst 2, 1) := by decide +kernel
theorem dX2_wayOf_100 : decode cX2_wayOf 100 = .ok (.idiv, 1) := by decide +kernel
theorem dX2_wayOf_101 : decode cX2_wayOf 101 = .ok (.iadd, 1) := by decide +kernel
theorem dX2_wayOf_102 : decode cX2_wayOf 102 = .ok (.goto 4, 3) := by decide +kernel
theorem dX2_wayOf_105 : decode cX2_wayOf 105 = .ok (.iconst 2, 1) := by decide +kernel
theorem dX2_wayOf_106 : decode cX2_wayOf 106 = .ok (.ireturn, 1) := by decide +kernel
theorem dX2_wayOf_107 : decode cX2_wayOf 107 = .ok (.iload 4, 2) := by decide +kernel
theorem dX2_wayOf_109 : decode cX2_wayOf 109 = .ok (.ireturn, 1) := by decide +kernel
theorem dX2_wayOf_110 : decode cX2_wayOf 110 = .ok (.iconst 0, 1) := by decide +kernel
theorem dX2_wayOf_111 : decode cX2_wayOf 111 = .ok (.iload 4, 2) := by decide +kernel
theorem dX2_wayOf_113 : decode cX2_wayOf 113 = .ok (.aload_n 0, 1) := by decide +kernel
theorem dX2_wayOf_114 : decode cX2_wayOf 114 = .ok (.getfield 18, 3) := by decide +kernel
theorem dX2_wayOf_117 : decode cX2_wayOf 117 = .ok (.isub, 1) := by decide +kernel
theorem dX2_wayOf_118 : decode cX2_wayOf 118 = .ok (.invokestatic 65, 3) := by decide +kernel
theorem dX2_wayOf_121 : decode cX2_wayOf 121 = .ok (.ireturn, 1) := by decide +kernel
theorem dX2_pass_0 : decode cX2_pass 0 = .ok (.aload_n 0, 1) := by decide +kernel
theorem dX2_pass_1 : decode cX2_pass 1 = .ok (.iconst 0, 1) := by decide +kernel
theorem dX2_pass_2 : decode cX2_pass 2 = .ok (.invokevirtual 71, 3) := by decide +kernel
theorem dX2_pass_5 : decode cX2_pass 5 = .ok (.istore_n 1, 1) := by decide +kernel
theorem dX2_pass_6 : decode cX2_pass 6 = .ok (.iconst 0, 1) := by decide +kernel
theorem dX2_pass_7 : decode cX2_pass 7 = .ok (.istore_n 2, 1) := by decide +kernel
theorem dX2_pass_8 : decode cX2_pass 8 = .ok (.iload_n 2, 1) := by decide +kernel
theorem dX2_pass_9 : decode cX2_pass 9 = .ok (.aload_n 0, 1) := by decide +kernel
theorem dX2_pass_10 : decode cX2_pass 10 = .ok (.getfield 30, 3) := by decide +kernel
theorem dX2_pass_13 : decode cX2_pass 13 = .ok (.if_icmp .ge 68, 3) := by decide +kernel
theorem dX2_pass_16 : decode cX2_pass 16 = .ok (.aload_n 0, 1) := by decide +kernel
theorem dX2_pass_17 : decode cX2_pass 17 = .ok (.iload_n 2, 1) := by decide +kernel
theorem dX2_pass_18 : decode cX2_pass 18 = .ok (.invokevirtual 75, 3) := by decide +kernel
theorem dX2_pass_21 : decode cX2_pass 21 = .ok (.ifCond .eq 29, 3) := by decide +kernel
theorem dX2_pass_24 : decode cX2_pass 24 = .ok (.aload_n 0, 1) := by decide +kernel
theorem dX2_pass_25 : decode cX2_pass 25 = .ok (.getfield 43, 3) := by decide +kernel
theorem dX2_pass_28 : decode cX2_pass 28 = .ok (.iload_n 2, 1) := by decide +kernel
theorem dX2_pass_29 : decode cX2_pass 29 = .ok (.iconst 0, 1) := by decide +kernel
theorem dX2_pass_30 : decode cX2_pass 30 = .ok (.aload_n 0, 1) := by decide +kernel
theorem dX2_pass_31 : decode cX2_pass 31 = .ok (.getfield 43, 3) := by decide +kernel
theorem dX2_pass_34 : decode cX2_pass 34 = .ok (.iload_n 2, 1) := by decide +kernel
theorem dX2_pass_35 : decode cX2_pass 35 = .ok (.iaload, 1) := by decide +kernel
theorem dX2_pass_36 : decode cX2_pass 36 = .ok (.aload_n 0, 1) := by decide +kernel
theorem dX2_pass_37 : decode cX2_pass 37 = .ok (.iload_n 2, 1) := by decide +kernel
theorem dX2_pass_38 : decode cX2_pass 38 = .ok (.iload_n 1, 1) := by decide +kernel
theorem dX2_pass_39 : decode cX2_pass 39 = .ok (.invokevirtual 78, 3) := by decide +kernel
theorem dX2_pass_42 : decode cX2_pass 42 = .ok (.isub, 1) := by decide +kernel
theorem dX2_pass_43 : decode cX2_pass 43 = .ok (.invokestatic 65, 3) := by decide +kernel
theorem dX2_pass_46 : decode cX2_pass 46 = .ok (.iastore, 1) := by decide +kernel
theorem dX2_pass_47 : decode cX2_pass 47 = .ok (.goto 28, 3) := by decide +kernel
theorem dX2_pass_50 : decode cX2_pass 50 = .ok (.aload_n 0, 1) := by decide +kernel
theorem dX2_pass_51 : decode cX2_pass 51 = .ok (.getfield 43, 3) := by decide +kernel
theorem dX2_pass_54 : decode cX2_pass 54 = .ok (.iload_n 2, 1) := by decide +kernel
theorem dX2_pass_55 : decode cX2_pass 55 = .ok (.iaload, 1) := by decide +kernel
theorem dX2_pass_56 : decode cX2_pass 56 = .ok (.aload_n 0, 1) := by decide +kernel
theorem dX2_pass_57 : decode cX2_pass 57 = .ok (.getfield 46, 3) := by decide +kernel
theorem dX2_pass_60 : decode cX2_pass 60 = .ok (.iload_n 2, 1) := by decide +kernel
theorem dX2_pass_61 : decode cX2_pass 61 = .ok (.iaload, 1) := by decide +kernel
theorem dX2_pass_62 : decode cX2_pass 62 = .ok (.if_icmp .ge 13, 3) := by decide +kernel
theorem dX2_pass_65 : decode cX2_pass 65 = .ok (.aload_n 0, 1) := by decide +kernel
theorem dX2_pass_66 : decode cX2_pass 66 = .ok (.getfield 43, 3) := by decide +kernel
theorem dX2_pass_69 : decode cX2_pass 69 = .ok (.iload_n 2, 1) := by decide +kernel
theorem dX2_pass_70 : decode cX2_pass 70 = .ok (.dup2, 1) := by decide +kernel
theorem dX2_pass_71 : decode cX2_pass 71 = .ok (.iaload, 1) := by decide +kernel
theorem dX2_pass_72 : decode cX2_pass 72 = .ok (.iconst 1, 1) := by decide +kernel
theorem dX2_pass_73 : decode cX2_pass 73 = .ok (.iadd, 1) := by decide +kernel
theorem dX2_pass_74 : decode cX2_pass 74 = .ok (.iastore, 1) := by decide +kernel
theorem dX2_pass_75 : decode cX2_pass 75 = .ok (.iinc 2 1, 3) := by decide +kernel
theorem dX2_pass_78 : decode cX2_pass 78 = .ok (.goto (-70), 3) := by decide +kernel
theorem dX2_pass_81 : decode cX2_pass 81 = .ok (.aload_n 0, 1) := by decide +kernel
theorem dX2_pass_82 : decode cX2_pass 82 = .ok (.iload_n 1, 1) := by decide +kernel
theorem dX2_pass_83 : decode cX2_pass 83 = .ok (.ifCond .eq 10, 3) := by decide +kernel
theorem dX2_pass_86 : decode cX2_pass 86 = .ok (.aload_n 0, 1) := by decide +kernel
theorem dX2_pass_87 : decode cX2_pass 87 = .ok (.invokevirtual 82, 3) := by decide +kernel
theorem dX2_pass_90 : decode cX2_pass 90 = .ok (.goto 4, 3) := by decide +kernel
theorem dX2_pass_93 : decode cX2_pass 93 = .ok (.iconst (-1), 1) := by decide +kernel
theorem dX2_pass_94 : decode cX2_pass 94 = .ok (.putfield 24, 3) := by decide +kernel
theorem dX2_pass_97 : decode cX2_pass 97 = .ok (.aload_n 0, 1) := by decide +kernel
theorem dX2_pass_98 : decode cX2_pass 98 = .ok (.getfield 24, 3) := by decide +kernel
theorem dX2_pass_101 : decode cX2_pass 101 = .ok (.iconst (-1), 1) := by decide +kernel
theorem dX2_pass_102 : decode cX2_pass 102 = .ok (.if_icmp .eq 16, 3) := by decide +kernel
theorem dX2_pass_105 : decode cX2_pass 105 = .ok (.aload_n 0, 1) := by decide +kernel
theorem dX2_pass_106 : decode cX2_pass 106 = .ok (.getfield 52, 3) := by decide +kernel
theorem dX2_pass_109 : decode cX2_pass 109 = .ok (.aload_n 0, 1) := by decide +kernel
theorem dX2_pass_110 : decode cX2_pass 110 = .ok (.getfield 24, 3) := by decide +kernel
theorem dX2_pass_113 : decode cX2_pass 113 = .ok (.dup2, 1) := by decide +kernel
theorem dX2_pass_114 : decode cX2_pass 114 = .ok (.iaload, 1) := by decide +kernel
theorem dX2_pass_115 : decode cX2_pass 115 = .ok (.iconst 1, 1) := by decide +kernel
theorem dX2_pass_116 : decode cX2_pass 116 = .ok (.iadd, 1) := by decide +kernel
theorem dX2_pass_117 : decode cX2_pass 117 = .ok (.iastore, 1) := by decide +kernel
theorem dX2_pass_118 : decode cX2_pass 118 = .ok (.aload_n 0, 1) := by decide +kernel
theorem dX2_pass_119 : decode cX2_pass 119 = .ok (.dup, 1) := by decide +kernel
theorem dX2_pass_120 : decode cX2_pass 120 = .ok (.getfield 21, 3) := by decide +kernel
theorem dX2_pass_123 : decode cX2_pass 123 = .ok (.iconst 1, 1) := by decide +kernel
theorem dX2_pass_124 : decode cX2_pass 124 = .ok (.iadd, 1) := by decide +kernel
theorem dX2_pass_125 : decode cX2_pass 125 = .ok (.putfield 21, 3) := by decide +kernel
theorem dX2_pass_128 : decode cX2_pass 128 = .ok (.return_, 1) := by decide +kernel
theorem dX2_nextOwner_0 : decode cX2_nextOwner 0 = .ok (.aload_n 0, 1) := by decide +kernel
theorem dX2_nextOwner_1 : decode cX2_nextOwner 1 = .ok (.aload_n 0, 1) := by decide +kernel
theorem dX2_nextOwner_2 : decode cX2_nextOwner 2 = .ok (.getfield 24, 3) := by decide +kernel
theorem dX2_nextOwner_5 : decode cX2_nextOwner 5 = .ok (.invokevirtual 86, 3) := by decide +kernel
theorem dX2_nextOwner_8 : decode cX2_nextOwner 8 = .ok (.ifCond .eq 20, 3) := by decide +kernel
theorem dX2_nextOwner_11 : decode cX2_nextOwner 11 = .ok (.aload_n 0, 1) := by decide +kernel
theorem dX2_nextOwner_12 : decode cX2_nextOwner 12 = .ok (.getfield 43, 3) := by decide +kernel
theorem dX2_nextOwner_15 : decode cX2_nextOwner 15 = .ok (.aload_n 0, 1) := by decide +kernel
theorem dX2_nextOwner_16 : decode cX2_nextOwner 16 = .ok (.getfield 24, 3) := by decide +kernel
theorem dX2_nextOwner_19 : decode cX2_nextOwner 19 = .ok (.iaload, 1) := by decide +kernel
theorem dX2_nextOwner_20 : decode cX2_nextOwner 20 = .ok (.ifCond .ne 8, 3) := by decide +kernel
theorem dX2_nextOwner_23 : decode cX2_nextOwner 23 = .ok (.aload_n 0, 1) := by decide +kernel
theorem dX2_nextOwner_24 : decode cX2_nextOwner 24 = .ok (.getfield 24, 3) := by decide +kernel
theorem dX2_nextOwner_27 : decode cX2_nextOwner 27 = .ok (.ireturn, 1) := by decide +kernel
theorem dX2_nextOwner_28 : decode cX2_nextOwner 28 = .ok (.iconst 0, 1) := by decide +kernel
theorem dX2_nextOwner_29 : decode cX2_nextOwner 29 = .ok (.istore_n 1, 1) := by decide +kernel
theorem dX2_nextOwner_30 : decode cX2_nextOwner 30 = .ok (.iload_n 1, 1) := by decide +kernel
theorem dX2_nextOwner_31 : decode cX2_nextOwner 31 = .ok (.aload_n 0, 1) := by decide +kernel
theorem dX2_nextOwner_32 : decode cX2_nextOwner 32 = .ok (.getfield 30, 3) := by decide +kernel
theorem dX2_nextOwner_35 : decode cX2_nextOwner 35 = .ok (.if_icmp .ge 20, 3) := by decide +kernel
theorem dX2_nextOwner_38 : decode cX2_nextOwner 38 = .ok (.aload_n 0, 1) := by decide +kernel
theorem dX2_nextOwner_39 : decode cX2_nextOwner 39 = .ok (.getfield 43, 3) := by decide +kernel
theorem dX2_nextOwner_42 : decode cX2_nextOwner 42 = .ok (.iload_n 1, 1) := by decide +kernel
theorem dX2_nextOwner_43 : decode cX2_nextOwner 43 = .ok (.iaload, 1) := by decide +kernel
theorem dX2_nextOwner_44 : decode cX2_nextOwner 44 = .ok (.ifCond .ne 5, 3) := by decide +kernel
theorem dX2_nextOwner_47 : decode cX2_nextOwner 47 = .ok (.iload_n 1, 1) := by decide +kernel
theorem dX2_nextOwner_48 : decode cX2_nextOwner 48 = .ok (.ireturn, 1) := by decide +kernel
theorem dX2_nextOwner_49 : decode cX2_nextOwner 49 = .ok (.iinc 1 1, 3) := by decide +kernel
theorem dX2_nextOwner_52 : decode cX2_nextOwner 52 = .ok (.goto (-22), 3) := by decide +kernel
theorem dX2_nextOwner_55 : decode cX2_nextOwner 55 = .ok (.iconst (-1), 1) := by decide +kernel
theorem dX2_nextOwner_56 : decode cX2_nextOwner 56 = .ok (.ireturn, 1) := by decide +kernel
theorem dX2_passAll_0 : decode cX2_passAll 0 = .ok (.iconst 0, 1) := by decide +kernel
theorem dX2_passAll_1 : decode cX2_passAll 1 = .ok (.istore_n 2, 1) := by decide +kernel
theorem dX2_passAll_2 : decode cX2_passAll 2 = .ok (.iload_n 2, 1) := by decide +kernel
theorem dX2_passAll_3 : decode cX2_passAll 3 = .ok (.iload_n 1, 1) := by decide +kernel
theorem dX2_passAll_4 : decode cX2_passAll 4 = .ok (.if_icmp .ge 13, 3) := by decide +kernel
theorem dX2_passAll_7 : decode cX2_passAll 7 = .ok (.aload_n 0, 1) := by decide +kernel
theorem dX2_passAll_8 : decode cX2_passAll 8 = .ok (.invokevirtual 89, 3) := by decide +kernel
theorem dX2_passAll_11 : decode cX2_passAll 11 = .ok (.iinc 2 1, 3) := by decide +kernel
theorem dX2_passAll_14 : decode cX2_passAll 14 = .ok (.goto (-12), 3) := by decide +kernel
theorem dX2_passAll_17 : decode cX2_passAll 17 = .ok (.return_, 1) := by decide +kernel
theorem dX2_boatsThere_0 : decode cX2_boatsThere 0 = .ok (.iconst 0, 1) := by decide +kernel
theorem dX2_boatsThere_1 : decode cX2_boatsThere 1 = .ok (.istore_n 1, 1) := by decide +kernel
theorem dX2_boatsThere_2 : decode cX2_boatsThere 2 = .ok (.iconst 0, 1) := by decide +kernel
theorem dX2_boatsThere_3 : decode cX2_boatsThere 3 = .ok (.istore_n 2, 1) := by decide +kernel
theorem dX2_boatsThere_4 : decode cX2_boatsThere 4 = .ok (.iload_n 2, 1) := by decide +kernel
theorem dX2_boatsThere_5 : decode cX2_boatsThere 5 = .ok (.aload_n 0, 1) := by decide +kernel
theorem dX2_boatsThere_6 : decode cX2_boatsThere 6 = .ok (.getfield 30, 3) := by decide +kernel
theorem dX2_boatsThere_9 : decode cX2_boatsThere 9 = .ok (.if_icmp .ge 24, 3) := by decide +kernel
theorem dX2_boatsThere_12 : decode cX2_boatsThere 12 = .ok (.aload_n 0, 1) := by decide +kernel
theorem dX2_boatsThere_13 : decode cX2_boatsThere 13 = .ok (.getfield 43, 3) := by decide +kernel
theorem dX2_boatsThere_16 : decode cX2_boatsThere 16 = .ok (.iload_n 2, 1) := by decide +kernel
theorem dX2_boatsThere_17 : decode cX2_boatsThere 17 = .ok (.iaload, 1) := by decide +kernel
theorem dX2_boatsThere_18 : decode cX2_boatsThere 18 = .ok (.ifCond .ne 9, 3) := by decide +kernel
theorem dX2_boatsThere_21 : decode cX2_boatsThere 21 = .ok (.iload_n 1, 1) := by decide +kernel
theorem dX2_boatsThere_22 : decode cX2_boatsThere 22 = .ok (.iconst 1, 1) := by decide +kernel
theorem dX2_boatsThere_23 : decode cX2_boatsThere 23 = .ok (.iload_n 2, 1) := by decide +kernel
theorem dX2_boatsThere_24 : decode cX2_boatsThere 24 = .ok (.ishl, 1) := by decide +kernel
theorem dX2_boatsThere_25 : decode cX2_boatsThere 25 = .ok (.ior, 1) := by decide +kernel
theorem dX2_boatsThere_26 : decode cX2_boatsThere 26 = .ok (.istore_n 1, 1) := by decide +kernel
theorem dX2_boatsThere_27 : decode cX2_boatsThere 27 = .ok (.iinc 2 1, 3) := by decide +kernel
theorem dX2_boatsThere_30 : decode cX2_boatsThere 30 = .ok (.goto (-26), 3) := by decide +kernel
theorem dX2_boatsThere_33 : decode cX2_boatsThere 33 = .ok (.iload_n 1, 1) := by decide +kernel
theorem dX2_boatsThere_34 : decode cX2_boatsThere 34 = .ok (.ireturn, 1) := by decide +kernel
theorem dX2_heldByAll_0 : decode cX2_heldByAll 0 = .ok (.iconst 0, 1) := by decide +kernel
theorem dX2_heldByAll_1 : decode cX2_heldByAll 1 = .ok (.istore_n 1, 1) := by decide +kernel
theorem dX2_heldByAll_2 : decode cX2_heldByAll 2 = .ok (.iconst 0, 1) := by decide +kernel
theorem dX2_heldByAll_3 : decode cX2_heldByAll 3 = .ok (.istore_n 2, 1) := by decide +kernel
theorem dX2_heldByAll_4 : decode cX2_heldByAll 4 = .ok (.iload_n 2, 1) := by decide +kernel
theorem dX2_heldByAll_5 : decode cX2_heldByAll 5 = .ok (.aload_n 0, 1) := by decide +kernel
theorem dX2_heldByAll_6 : decode cX2_heldByAll 6 = .ok (.getfield 30, 3) := by decide +kernel
theorem dX2_heldByAll_9 : decode cX2_heldByAll 9 = .ok (.if_icmp .ge 18, 3) := by decide +kernel
theorem dX2_heldByAll_12 : decode cX2_heldByAll 12 = .ok (.iload_n 1, 1) := by decide +kernel
theorem dX2_heldByAll_13 : decode cX2_heldByAll 13 = .ok (.aload_n 0, 1) := by decide +kernel
theorem dX2_heldByAll_14 : decode cX2_heldByAll 14 = .ok (.getfield 52, 3) := by decide +kernel
theorem dX2_heldByAll_17 : decode cX2_heldByAll 17 = .ok (.iload_n 2, 1) := by decide +kernel
theorem dX2_heldByAll_18 : decode cX2_heldByAll 18 = .ok (.iaload, 1) := by decide +kernel
theorem dX2_heldByAll_19 : decode cX2_heldByAll 19 = .ok (.iadd, 1) := by decide +kernel
theorem dX2_heldByAll_20 : decode cX2_heldByAll 20 = .ok (.istore_n 1, 1) := by decide +kernel
theorem dX2_heldByAll_21 : decode cX2_heldByAll 21 = .ok (.iinc 2 1, 3) := by decide +kernel
theorem dX2_heldByAll_24 : decode cX2_heldByAll 24 = .ok (.goto (-20), 3) := by decide +kernel
theorem dX2_heldByAll_27 : decode cX2_heldByAll 27 = .ok (.iload_n 1, 1) := by decide +kernel
theorem dX2_heldByAll_28 : decode cX2_heldByAll 28 = .ok (.ireturn, 1) := by decide +kernel
theorem dX3_init_0 : decode cX3_init 0 = .ok (.aload_n 0, 1) := by decide +kernel
theorem dX3_init_1 : decode cX3_init 1 = .ok (.invokespecial 3, 3) := by decide +kernel
theorem dX3_init_4 : decode cX3_init 4 = .ok (.aload_n 0, 1) := by decide +kernel
theorem dX3_init_5 : decode cX3_init 5 = .ok (.bipush 8, 2) := by decide +kernel
theorem dX3_init_7 : decode cX3_init 7 = .ok (.bipush 40, 2) := by decide +kernel
theorem dX3_init_9 : decode cX3_init 9 = .ok (.multianewarray 9 2, 4) := by decide +kernel
theorem dX3_init_13 : decode cX3_init 13 = .ok (.putfield 11, 3) := by decide +kernel
theorem dX3_init_16 : decode cX3_init 16 = .ok (.aload_n 0, 1) := by decide +kernel
theorem dX3_init_17 : decode cX3_init 17 = .ok (.bipush 8, 2) := by decide +kernel
theorem dX3_init_19 : decode cX3_init 19 = .ok (.newarray .int, 2) := by decide +kernel
theorem dX3_init_21 : decode cX3_init 21 = .ok (.putfield 16, 3) := by decide +kernel
theorem dX3_init_24 : decode cX3_init 24 = .ok (.aload_n 0, 1) := by decide +kernel
theorem dX3_init_25 : decode cX3_init 25 = .ok (.bipush 8, 2) := by decide +kernel
theorem dX3_init_27 : decode cX3_init 27 = .ok (.newarray .int, 2) := by decide +kernel
theorem dX3_init_29 : decode cX3_init 29 = .ok (.putfield 20, 3) := by decide +kernel
theorem dX3_init_32 : decode cX3_init 32 = .ok (.iconst 0, 1) := by decide +kernel
theorem dX3_init_33 : decode cX3_init 33 = .ok (.istore_n 1, 1) := by decide +kernel
theorem dX3_init_34 : decode cX3_init 34 = .ok (.iload_n 1, 1) := by decide +kernel
theorem dX3_init_35 : decode cX3_init 35 = .ok (.bipush 8, 2) := by decide +kernel
theorem dX3_init_37 : decode cX3_init 37 = .ok (.if_icmp .ge 16, 3) := by decide +kernel
theorem dX3_init_40 : decode cX3_init 40 = .ok (.aload_n 0, 1) := by decide +kernel
theorem dX3_init_41 : decode cX3_init 41 = .ok (.getfield 16, 3) := by decide +kernel
theorem dX3_init_44 : decode cX3_init 44 = .ok (.iload_n 1, 1) := by decide +kernel
theorem dX3_init_45 : decode cX3_init 45 = .ok (.iconst (-1), 1) := by decide +kernel
theorem dX3_init_46 : decode cX3_init 46 = .ok (.iastore, 1) := by decide +kernel
theorem dX3_init_47 : decode cX3_init 47 = .ok (.iinc 1 1, 3) := by decide +kernel
theorem dX3_init_50 : decode cX3_init 50 = .ok (.goto (-16), 3) := by decide +kernel
theorem dX3_init_53 : decode cX3_init 53 = .ok (.return_, 1) := by decide +kernel
theorem dX3_isRow_0 : decode cX3_isRow 0 = .ok (.iload_n 0, 1) := by decide +kernel
theorem dX3_isRow_1 : decode cX3_isRow 1 = .ok (.iconst 0, 1) := by decide +kernel
theorem dX3_isRow_2 : decode cX3_isRow 2 = .ok (.bipush 7, 2) := by decide +kernel
theorem dX3_isRow_4 : decode cX3_isRow 4 = .ok (.invokestatic 23, 3) := by decide +kernel
theorem dX3_isRow_7 : decode cX3_isRow 7 = .ok (.ireturn, 1) := by decide +kernel
theorem dX3_isMissing_0 : decode cX3_isMissing 0 = .ok (.aload_n 0, 1) := by decide +kernel
theorem dX3_isMissing_1 : decode cX3_isMissing 1 = .ok (.getfield 16, 3) := by decide +kernel
theorem dX3_isMissing_4 : decode cX3_isMissing 4 = .ok (.iload_n 1, 1) := by decide +kernel
theorem dX3_isMissing_5 : decode cX3_isMissing 5 = .ok (.iaload, 1) := by decide +kernel
theorem dX3_isMissing_6 : decode cX3_isMissing 6 = .ok (.iconst (-1), 1) := by decide +kernel
theorem dX3_isMissing_7 : decode cX3_isMissing 7 = .ok (.if_icmp .ne 7, 3) := by decide +kernel
theorem dX3_isMissing_10 : decode cX3_isMissing 10 = .ok (.iconst 1, 1) := by decide +kernel
theorem dX3_isMissing_11 : decode cX3_isMissing 11 = .ok (.goto 4, 3) := by decide +kernel
theorem dX3_isMissing_14 : decode cX3_isMissing 14 = .ok (.iconst 0, 1) := by decide +kernel
theorem dX3_isMissing_15 : decode cX3_isMissing 15 = .ok (.ireturn, 1) := by decide +kernel
theorem dX3_sameLane_0 : decode cX3_sameLane 0 = .ok (.aload_n 0, 1) := by decide +kernel
theorem dX3_sameLane_1 : decode cX3_sameLane 1 = .ok (.getfield 16, 3) := by decide +kernel
theorem dX3_sameLane_4 : decode cX3_sameLane 4 = .ok (.iload_n 1, 1) := by decide +kernel
theorem dX3_sameLane_5 : decode cX3_sameLane 5 = .ok (.iaload, 1) := by decide +kernel
theorem dX3_sameLane_6 : decode cX3_sameLane 6 = .ok (.aload_n 0, 1) := by decide +kernel
theorem dX3_sameLane_7 : decode cX3_sameLane 7 = .ok (.getfield 16, 3) := by decide +kernel
theorem dX3_sameLane_10 : decode cX3_sameLane 10 = .ok (.iload_n 2, 1) := by decide +kernel
theorem dX3_sameLane_11 : decode cX3_sameLane 11 = .ok (.iaload, 1) := by decide +kernel
theorem dX3_sameLane_12 : decode cX3_sameLane 12 = .ok (.if_icmp .ne 7, 3) := by decide +kernel
theorem dX3_sameLane_15 : decode cX3_sameLane 15 = .ok (.iconst 1, 1) := by decide +kernel
theorem dX3_sameLane_16 : decode cX3_sameLane 16 = .ok (.goto 4, 3) := by decide +kernel
theorem dX3_sameLane_19 : decode cX3_sameLane 19 = .ok (.iconst 0, 1) := by decide +kernel
theorem dX3_sameLane_20 : decode cX3_sameLane 20 = .ok (.ireturn, 1) := by decide +kernel
theorem dX3_hasPlaces_0 : decode cX3_hasPlaces 0 = .ok (.iload_n 3, 1) := by decide +kernel
theorem dX3_hasPlaces_1 : decode cX3_hasPlaces 1 = .ok (.ifCond .lt 33, 3) := by decide +kernel
theorem dX3_hasPlaces_4 : decode cX3_hasPlaces 4 = .ok (.iload_n 2, 1) := by decide +kernel
theorem dX3_hasPlaces_5 : decode cX3_hasPlaces 5 = .ok (.iconst 0, 1) := by decide +kernel
theorem dX3_hasPlaces_6 : decode cX3_hasPlaces 6 = .ok (.aload_n 0, 1) := by decide +kernel
theorem dX3_hasPlaces_7 : decode cX3_hasPlaces 7 = .ok (.getfield 20, 3) := by decide +kernel
theorem dX3_hasPlaces_10 : decode cX3_hasPlaces 10 = .ok (.iload_n 1, 1) := by decide +kernel
theorem dX3_hasPlaces_11 : decode cX3_hasPlaces 11 = .ok (.iaload, 1) := by decide +kernel
theorem dX3_hasPlaces_12 : decode cX3_hasPlaces 12 = .ok (.invokestatic 23, 3) := by decide +kernel
theorem dX3_hasPlaces_15 : decode cX3_hasPlaces 15 = .ok (.ifCond .eq 19, 3) := by decide +kernel
theorem dX3_hasPlaces_18 : decode cX3_hasPlaces 18 = .ok (.iload_n 3, 1) := by decide +kernel
theorem dX3_hasPlaces_19 : decode cX3_hasPlaces 19 = .ok (.aload_n 0, 1) := by decide +kernel
theorem dX3_hasPlaces_20 : decode cX3_hasPlaces 20 = .ok (.getfield 20, 3) := by decide +kernel
theorem dX3_hasPlaces_23 : decode cX3_hasPlaces 23 = .ok (.iload_n 1, 1) := by decide +kernel
theorem dX3_hasPlaces_24 : decode cX3_hasPlaces 24 = .ok (.iaload, 1) := by decide +kernel
theorem dX3_hasPlaces_25 : decode cX3_hasPlaces 25 = .ok (.iload_n 2, 1) := by decide +kernel
theorem dX3_hasPlaces_26 : decode cX3_hasPlaces 26 = .ok (.isub, 1) := by decide +kernel
theorem dX3_hasPlaces_27 : decode cX3_hasPlaces 27 = .ok (.if_icmp .gt 7, 3) := by decide +kernel
theorem dX3_hasPlaces_30 : decode cX3_hasPlaces 30 = .ok (.iconst 1, 1) := by decide +kernel
theorem dX3_hasPlaces_31 : decode cX3_hasPlaces 31 = .ok (.goto 4, 3) := by decide +kernel
theorem dX3_hasPlaces_34 : decode cX3_hasPlaces 34 = .ok (.iconst 0, 1) := by decide +kernel
theorem dX3_hasPlaces_35 : decode cX3_hasPlaces 35 = .ok (.ireturn, 1) := by decide +kernel
theorem dX3_make_0 : decode cX3_make 0 = .ok (.aload_n 0, 1) := by decide +kernel
theorem dX3_make_1 : decode cX3_make 1 = .ok (.getfield 16, 3) := by decide +kernel
theorem dX3_make_4 : decode cX3_make 4 = .ok (.iload_n 1, 1) := by decide +kernel
theorem dX3_make_5 : decode cX3_make 5 = .ok (.iload_n 2, 1) := by decide +kernel
theorem dX3_make_6 : decode cX3_make 6 = .ok (.iastore, 1) := by decide +kernel
theorem dX3_make_7 : decode cX3_make 7 = .ok (.aload_n 0, 1) := by decide +kernel
theorem dX3_make_8 : decode cX3_make 8 = .ok (.getfield 20, 3) := by decide +kernel
theorem dX3_make_11 : decode cX3_make 11 = .ok (.iload_n 1, 1) := by decide +kernel
theorem dX3_make_12 : decode cX3_make 12 = .ok (.iload_n 3, 1) := by decide +kernel
theorem dX3_make_13 : decode cX3_make 13 = .ok (.iastore, 1) := by decide +kernel
theorem dX3_make_14 : decode cX3_make 14 = .ok (.iconst 0, 1) := by decide +kernel
theorem dX3_make_15 : decode cX3_make 15 = .ok (.istore 4, 2) := by decide +kernel
theorem dX3_make_17 : decode cX3_make 17 = .ok (.iload 4, 2) := by decide +kernel
theorem dX3_make_19 : decode cX3_make 19 = .ok (.bipush 40, 2) := by decide +kernel
theorem dX3_make_21 : decode cX3_make 21 = .ok (.if_icmp .ge 19, 3) := by decide +kernel
theorem dX3_make_24 : decode cX3_make 24 = .ok (.aload_n 0, 1) := by decide +kernel
theorem dX3_make_25 : decode cX3_make 25 = .ok (.getfield 11, 3) := by decide +kernel
theorem dX3_make_28 : decode cX3_make 28 = .ok (.iload_n 1, 1) := by decide +kernel
theorem dX3_make_29 : decode cX3_make 29 = .ok (.aaload, 1) := by decide +kernel
theorem dX3_make_30 : decode cX3_make 30 = .ok (.iload 4, 2) := by decide +kernel
theorem dX3_make_32 : decode cX3_make 32 = .ok (.iconst 0, 1) := by decide +kernel
theorem dX3_make_33 : decode cX3_make 33 = .ok (.iastore, 1) := by decide +kernel
theorem dX3_make_34 : decode cX3_make 34 = .ok (.iinc 4 1, 3) := by decide +kernel
theorem dX3_make_37 : decode cX3_make 37 = .ok (.goto (-20), 3) := by decide +kernel
theorem dX3_make_40 : decode cX3_make 40 = .ok (.return_, 1) := by decide +kernel
theorem dX3_put_0 : decode cX3_put 0 = .ok (.aload_n 0, 1) := by decide +kernel
theorem dX3_put_1 : decode cX3_put 1 = .ok (.getfield 16, 3) := by decide +kernel
theorem dX3_put_4 : decode cX3_put 4 = .ok (.iload_n 1, 1) := by decide +kernel
theorem dX3_put_5 : decode cX3_put 5 = .ok (.iaload, 1) := by decide +kernel
theorem dX3_put_6 : decode cX3_put 6 = .ok (.ifCond .ne 8, 3) := by decide +kernel
theorem dX3_put_9 : decode cX3_put 9 = .ok (.iload_n 3, 1) := by decide +kernel
theorem dX3_put_10 : decode cX3_put 10 = .ok (.i2b, 1) := by decide +kernel
theorem dX3_put_11 : decode cX3_put 11 = .ok (.goto 19, 3) := by decide +kernel
theorem dX3_put_14 : decode cX3_put 14 = .ok (.aload_n 0, 1) := by decide +kernel
theorem dX3_put_15 : decode cX3_put 15 = .ok (.getfield 16, 3) := by decide +kernel
theorem dX3_put_18 : decode cX3_put 18 = .ok (.iload_n 1, 1) := by decide +kernel
theorem dX3_put_19 : decode cX3_put 19 = .ok (.iaload, 1) := by decide +kernel
theorem dX3_put_20 : decode cX3_put 20 = .ok (.iconst 1, 1) := by decide +kernel
theorem dX3_put_21 : decode cX3_put 21 = .ok (.if_icmp .ne 8, 3) := by decide +kernel
theorem dX3_put_24 : decode cX3_put 24 = .ok (.iload_n 3, 1) := by decide +kernel
theorem dX3_put_25 : decode cX3_put 25 = .ok (.i2s, 1) := by decide +kernel
theorem dX3_put_26 : decode cX3_put 26 = .ok (.goto 4, 3) := by decide +kernel
theorem dX3_put_29 : decode cX3_put 29 = .ok (.iload_n 3, 1) := by decide +kernel
theorem dX3_put_30 : decode cX3_put 30 = .ok (.istore 4, 2) := by decide +kernel
theorem dX3_put_32 : decode cX3_put 32 = .ok (.aload_n 0, 1) := by decide +kernel
theorem dX3_put_33 : decode cX3_put 33 = .ok (.getfield 11, 3) := by decide +kernel
theorem dX3_put_36 : decode cX3_put 36 = .ok (.iload_n 1, 1) := by decide +kernel
theorem dX3_put_37 : decode cX3_put 37 = .ok (.aaload, 1) := by decide +kernel
theorem dX3_put_38 : decode cX3_put 38 = .ok (.iload_n 2, 1) := by decide +kernel
theorem dX3_put_39 : decode cX3_put 39 = .ok (.iload 4, 2) := by decide +kernel
theorem dX3_put_41 : decode cX3_put 41 = .ok (.iastore, 1) := by decide +kernel
theorem dX3_put_42 : decode cX3_put 42 = .ok (.iload 4, 2) := by decide +kernel
theorem dX3_put_44 : decode cX3_put 44 = .ok (.ireturn, 1) := by decide +kernel
theorem dX3_move_0 : decode cX3_move 0 = .ok (.aload_n 0, 1) := by decide +kernel
theorem dX3_move_1 : decode cX3_move 1 = .ok (.getfield 11, 3) := by decide +kernel
theorem dX3_move_4 : decode cX3_move 4 = .ok (.iload_n 1, 1) := by decide +kernel
theorem dX3_move_5 : decode cX3_move 5 = .ok (.aaload, 1) := by decide +kernel
theorem dX3_move_6 : decode cX3_move 6 = .ok (.iload_n 2, 1) := by decide +kernel
theorem dX3_move_7 : decode cX3_move 7 = .ok (.aload_n 0, 1) := by decide +kernel
theorem dX3_move_8 : decode cX3_move 8 = .ok (.getfield 11, 3) := by decide +kernel
theorem dX3_move_11 : decode cX3_move 11 = .ok (.iload_n 3, 1) := by decide +kernel
theorem dX3_move_12 : decode cX3_move 12 = .ok (.aaload, 1) := by decide +kernel
theorem dX3_move_13 : decode cX3_move 13 = .ok (.iload 4, 2) := by decide +kernel
theorem dX3_move_15 : decode cX3_move 15 = .ok (.iload 5, 2) := by decide +kernel
theorem dX3_move_17 : decode cX3_move 17 = .ok (.invokestatic 27, 3) := by decide +kernel
theorem dX3_move_20 : decode cX3_move 20 = .ok (.return_, 1) := by decide +kernel
theorem dX3_lose_0 : decode cX3_lose 0 = .ok (.aload_n 0, 1) := by decide +kernel
theorem dX3_lose_1 : decode cX3_lose 1 = .ok (.getfield 16, 3) := by decide +kernel
theorem dX3_lose_4 : decode cX3_lose 4 = .ok (.iload_n 1, 1) := by decide +kernel
theorem dX3_lose_5 : decode cX3_lose 5 = .ok (.iconst (-1), 1) := by decide +kernel
theorem dX3_lose_6 : decode cX3_lose 6 = .ok (.iastore, 1) := by decide +kernel
theorem dX3_lose_7 : decode cX3_lose 7 = .ok (.aload_n 0, 1) := by decide +kernel
theorem dX3_lose_8 : decode cX3_lose 8 = .ok (.getfield 20, 3) := by decide +kernel
theorem dX3_lose_11 : decode cX3_lose 11 = .ok (.iload_n 1, 1) := by decide +kernel
theorem dX3_lose_12 : decode cX3_lose 12 = .ok (.iaload, 1) := by decide +kernel
theorem dX3_lose_13 : decode cX3_lose 13 = .ok (.ireturn, 1) := by decide +kernel
theorem dX3_present_0 : decode cX3_present 0 = .ok (.iconst 0, 1) := by decide +kernel
theorem dX3_present_1 : decode cX3_present 1 = .ok (.istore_n 1, 1) := by decide +kernel
theorem dX3_present_2 : decode cX3_present 2 = .ok (.iconst 0, 1) := by decide +kernel
theorem dX3_present_3 : decode cX3_present 3 = .ok (.istore_n 2, 1) := by decide +kernel
theorem dX3_present_4 : decode cX3_present 4 = .ok (.iload_n 2, 1) := by decide +kernel
theorem dX3_present_5 : decode cX3_present 5 = .ok (.bipush 8, 2) := by decide +kernel
theorem dX3_present_7 : decode cX3_present 7 = .ok (.if_icmp .ge 28, 3) := by decide +kernel
theorem dX3_present_10 : decode cX3_present 10 = .ok (.iload_n 1, 1) := by decide +kernel
theorem dX3_present_11 : decode cX3_present 11 = .ok (.aload_n 0, 1) := by decide +kernel
theorem dX3_present_12 : decode cX3_present 12 = .ok (.iload_n 2, 1) := by decide +kernel
theorem dX3_present_13 : decode cX3_present 13 = .ok (.invokevirtual 33, 3) := by decide +kernel
theorem dX3_present_16 : decode cX3_present 16 = .ok (.ifCond .ne 7, 3) := by decide +kernel
theorem dX3_present_19 : decode cX3_present 19 = .ok (.iconst 1, 1) := by decide +kernel
theorem dX3_present_20 : decode cX3_present 20 = .ok (.goto 4, 3) := by decide +kernel
theorem dX3_present_23 : decode cX3_present 23 = .ok (.iconst 0, 1) := by decide +kernel
theorem dX3_present_24 : decode cX3_present 24 = .ok (.invokestatic 37, 3) := by decide +kernel
theorem dX3_present_27 : decode cX3_present 27 = .ok (.iadd, 1) := by decide +kernel
theorem dX3_present_28 : decode cX3_present 28 = .ok (.istore_n 1, 1) := by decide +kernel
theorem dX3_present_29 : decode cX3_present 29 = .ok (.iinc 2 1, 3) := by decide +kernel
theorem dX3_present_32 : decode cX3_present 32 = .ok (.goto (-28), 3) := by decide +kernel
theorem dX3_present_35 : decode cX3_present 35 = .ok (.iload_n 1, 1) := by decide +kernel
theorem dX3_present_36 : decode cX3_present 36 = .ok (.ireturn, 1) := by decide +kernel
theorem dX4_init_0 : decode cX4_init 0 = .ok (.aload_n 0, 1) := by decide +kernel
theorem dX4_init_1 : decode cX4_init 1 = .ok (.invokespecial 3, 3) := by decide +kernel
theorem dX4_init_4 : decode cX4_init 4 = .ok (.aload_n 0, 1) := by decide +kernel
theorem dX4_init_5 : decode cX4_init 5 = .ok (.new 9, 3) := by decide +kernel
theorem dX4_init_8 : decode cX4_init 8 = .ok (.dup, 1) := by decide +kernel
theorem dX4_init_9 : decode cX4_init 9 = .ok (.invokespecial 11, 3) := by decide +kernel
theorem dX4_init_12 : decode cX4_init 12 = .ok (.putfield 12, 3) := by decide +kernel
theorem dX4_init_15 : decode cX4_init 15 = .ok (.aload_n 0, 1) := by decide +kernel
theorem dX4_init_16 : decode cX4_init 16 = .ok (.aload_n 1, 1) := by decide +kernel
theorem dX4_init_17 : decode cX4_init 17 = .ok (.putfield 18, 3) := by decide +kernel
theorem dX4_init_20 : decode cX4_init 20 = .ok (.return_, 1) := by decide +kernel
theorem dX4_blank_0 : decode cX4_blank 0 = .ok (.aload_n 0, 1) := by decide +kernel
theorem dX4_blank_1 : decode cX4_blank 1 = .ok (.getfield 12, 3) := by decide +kernel
theorem dX4_blank_4 : decode cX4_blank 4 = .ok (.invokevirtual 21, 3) := by decide +kernel
theorem dX4_blank_7 : decode cX4_blank 7 = .ok (.aload_n 0, 1) := by decide +kernel
theorem dX4_blank_8 : decode cX4_blank 8 = .ok (.getfield 12, 3) := by decide +kernel
theorem dX4_blank_11 : decode cX4_blank 11 = .ok (.areturn, 1) := by decide +kernel
theorem dX4_behind_0 : decode cX4_behind 0 = .ok (.aload_n 0, 1) := by decide +kernel
theorem dX4_behind_1 : decode cX4_behind 1 = .ok (.getfield 12, 3) := by decide +kernel
theorem dX4_behind_4 : decode cX4_behind 4 = .ok (.aload_n 0, 1) := by decide +kernel
theorem dX4_behind_5 : decode cX4_behind 5 = .ok (.getfield 18, 3) := by decide +kernel
theorem dX4_behind_8 : decode cX4_behind 8 = .ok (.invokevirtual 24, 3) := by decide +kernel
theorem dX4_behind_11 : decode cX4_behind 11 = .ok (.aload_n 0, 1) := by decide +kernel
theorem dX4_behind_12 : decode cX4_behind 12 = .ok (.getfield 12, 3) := by decide +kernel
theorem dX4_behind_15 : decode cX4_behind 15 = .ok (.iload_n 1, 1) := by decide +kernel
theorem dX4_behind_16 : decode cX4_behind 16 = .ok (.invokevirtual 28, 3) := by decide +kernel
theorem dX4_behind_19 : decode cX4_behind 19 = .ok (.aload_n 0, 1) := by decide +kernel
theorem dX4_behind_20 : decode cX4_behind 20 = .ok (.getfield 12, 3) := by decide +kernel
theorem dX4_behind_23 : decode cX4_behind 23 = .ok (.areturn, 1) := by decide +kernel
theorem dX4_ownerBySent_0 : decode cX4_ownerBySent 0 = .ok (.aload_n 0, 1) := by decide +kernel
theorem dX4_ownerBySent_1 : decode cX4_ownerBySent 1 = .ok (.getfield 12, 3) := by decide +kernel
theorem dX4_ownerBySent_4 : decode cX4_ownerBySent 4 = .ok (.aload_n 0, 1) := by decide +kernel
theorem dX4_ownerBySent_5 : decode cX4_ownerBySent 5 = .ok (.getfield 18, 3) := by decide +kernel
theorem dX4_ownerBySent_8 : decode cX4_ownerBySent 8 = .ok (.invokevirtual 24, 3) := by decide +kernel
theorem dX4_ownerBySent_11 : decode cX4_ownerBySent 11 = .ok (.aload_n 0, 1) := by decide +kernel
theorem dX4_ownerBySent_12 : decode cX4_ownerBySent 12 = .ok (.getfield 12, 3) := by decide +kernel
theorem dX4_ownerBySent_15 : decode cX4_ownerBySent 15 = .ok (.iload_n 1, 1) := by decide +kernel
theorem dX4_ownerBySent_16 : decode cX4_ownerBySent 16 = .ok (.putfield 32, 3) := by decide +kernel
theorem dX4_ownerBySent_19 : decode cX4_ownerBySent 19 = .ok (.aload_n 0, 1) := by decide +kernel
theorem dX4_ownerBySent_20 : decode cX4_ownerBySent 20 = .ok (.getfield 12, 3) := by decide +kernel
theorem dX4_ownerBySent_23 : decode cX4_ownerBySent 23 = .ok (.iload_n 2, 1) := by decide +kernel
theorem dX4_ownerBySent_24 : decode cX4_ownerBySent 24 = .ok (.invokevirtual 28, 3) := by decide +kernel
theorem dX4_ownerBySent_27 : decode cX4_ownerBySent 27 = .ok (.aload_n 0, 1) := by decide +kernel
theorem dX4_ownerBySent_28 : decode cX4_ownerBySent 28 = .ok (.getfield 12, 3) := by decide +kernel
theorem dX4_ownerBySent_31 : decode cX4_ownerBySent 31 = .ok (.getfield 36, 3) := by decide +kernel
theorem dX4_ownerBySent_34 : decode cX4_ownerBySent 34 = .ok (.ireturn, 1) := by decide +kernel
theorem dX4_firstOwner_0 : decode cX4_firstOwner 0 = .ok (.aload_n 0, 1) := by decide +kernel
theorem dX4_firstOwner_1 : decode cX4_firstOwner 1 = .ok (.getfield 12, 3) := by decide +kernel
theorem dX4_firstOwner_4 : decode cX4_firstOwner 4 = .ok (.aload_n 0, 1) := by decide +kernel
theorem dX4_firstOwner_5 : decode cX4_firstOwner 5 = .ok (.getfield 18, 3) := by decide +kernel
theorem dX4_firstOwner_8 : decode cX4_firstOwner 8 = .ok (.invokevirtual 24, 3) := by decide +kernel
theorem dX4_firstOwner_11 : decode cX4_firstOwner 11 = .ok (.iconst 0, 1) := by decide +kernel
theorem dX4_firstOwner_12 : decode cX4_firstOwner 12 = .ok (.istore_n 2, 1) := by decide +kernel
theorem dX4_firstOwner_13 : decode cX4_firstOwner 13 = .ok (.iload_n 2, 1) := by decide +kernel
theorem dX4_firstOwner_14 : decode cX4_firstOwner 14 = .ok (.iload_n 1, 1) := by decide +kernel
theorem dX4_firstOwner_15 : decode cX4_firstOwner 15 = .ok (.if_icmp .ge 27, 3) := by decide +kernel
theorem dX4_firstOwner_18 : decode cX4_firstOwner 18 = .ok (.aload_n 0, 1) := by decide +kernel
theorem dX4_firstOwner_19 : decode cX4_firstOwner 19 = .ok (.getfield 12, 3) := by decide +kernel
theorem dX4_firstOwner_22 : decode cX4_firstOwner 22 = .ok (.getfield 36, 3) := by decide +kernel
theorem dX4_firstOwner_25 : decode cX4_firstOwner 25 = .ok (.iconst (-1), 1) := by decide +kernel
theorem dX4_firstOwner_26 : decode cX4_firstOwner 26 = .ok (.if_icmp .ne 16, 3) := by decide +kernel
theorem dX4_firstOwner_29 : decode cX4_firstOwner 29 = .ok (.aload_n 0, 1) := by decide +kernel
theorem dX4_firstOwner_30 : decode cX4_firstOwner 30 = .ok (.getfield 12, 3) := by decide +kernel
theorem dX4_firstOwner_33 : decode cX4_firstOwner 33 = .ok (.invokevirtual 39, 3) := by decide +kernel
theorem dX4_firstOwner_36 : decode cX4_firstOwner 36 = .ok (.iinc 2 1, 3) := by decide +kernel
theorem dX4_firstOwner_39 : decode cX4_firstOwner 39 = .ok (.goto (-26), 3) := by decide +kernel
theorem dX4_firstOwner_42 : decode cX4_firstOwner 42 = .ok (.aload_n 0, 1) := by decide +kernel
theorem dX4_firstOwner_43 : decode cX4_firstOwner 43 = .ok (.getfield 12, 3) := by decide +kernel
theorem dX4_firstOwner_46 : decode cX4_firstOwner 46 = .ok (.getfield 36, 3) := by decide +kernel
theorem dX4_firstOwner_49 : decode cX4_firstOwner 49 = .ok (.ireturn, 1) := by decide +kernel
theorem dX4_ownsIfSentBehind_0 : decode cX4_ownsIfSentBehind 0 = .ok (.aload_n 0, 1) := by decide +kernel
theorem dX4_ownsIfSentBehind_1 : decode cX4_ownsIfSentBehind 1 = .ok (.getfield 12, 3) := by decide +kernel
theorem dX4_ownsIfSentBehind_4 : decode cX4_ownsIfSentBehind 4 = .ok (.aload_n 0, 1) := by decide +kernel
theorem dX4_ownsIfSentBehind_5 : decode cX4_ownsIfSentBehind 5 = .ok (.getfield 18, 3) := by decide +kernel
theorem dX4_ownsIfSentBehind_8 : decode cX4_ownsIfSentBehind 8 = .ok (.invokevirtual 24, 3) := by decide +kernel
theorem dX4_ownsIfSentBehind_11 : decode cX4_ownsIfSentBehind 11 = .ok (.aload_n 0, 1) := by decide +kernel
theorem dX4_ownsIfSentBehind_12 : decode cX4_ownsIfSentBehind 12 = .ok (.getfield 12, 3) := by decide +kernel
theorem dX4_ownsIfSentBehind_15 : decode cX4_ownsIfSentBehind 15 = .ok (.iload_n 2, 1) := by decide +kernel
theorem dX4_ownsIfSentBehind_16 : decode cX4_ownsIfSentBehind 16 = .ok (.invokevirtual 28, 3) := by decide +kernel
theorem dX4_ownsIfSentBehind_19 : decode cX4_ownsIfSentBehind 19 = .ok (.aload_n 0, 1) := by decide +kernel
theorem dX4_ownsIfSentBehind_20 : decode cX4_ownsIfSentBehind 20 = .ok (.getfield 12, 3) := by decide +kernel
theorem dX4_ownsIfSentBehind_23 : decode cX4_ownsIfSentBehind 23 = .ok (.dup, 1) := by decide +kernel
theorem dX4_ownsIfSentBehind_24 : decode cX4_ownsIfSentBehind 24 = .ok (.getfield 32, 3) := by decide +kernel
theorem dX4_ownsIfSentBehind_27 : decode cX4_ownsIfSentBehind 27 = .ok (.iconst 1, 1) := by decide +kernel
theorem dX4_ownsIfSentBehind_28 : decode cX4_ownsIfSentBehind 28 = .ok (.iload_n 1, 1) := by decide +kernel
theorem dX4_ownsIfSentBehind_29 : decode cX4_ownsIfSentBehind 29 = .ok (.ishl, 1) := by decide +kernel
theorem dX4_ownsIfSentBehind_30 : decode cX4_ownsIfSentBehind 30 = .ok (.ior, 1) := by decide +kernel
theorem dX4_ownsIfSentBehind_31 : decode cX4_ownsIfSentBehind 31 = .ok (.putfield 32, 3) := by decide +kernel
theorem dX4_ownsIfSentBehind_34 : decode cX4_ownsIfSentBehind 34 = .ok (.aload_n 0, 1) := by decide +kernel
theorem dX4_ownsIfSentBehind_35 : decode cX4_ownsIfSentBehind 35 = .ok (.getfield 12, 3) := by decide +kernel
theorem dX4_ownsIfSentBehind_38 : decode cX4_ownsIfSentBehind 38 = .ok (.iload_n 3, 1) := by decide +kernel
theorem dX4_ownsIfSentBehind_39 : decode cX4_ownsIfSentBehind 39 = .ok (.iload_n 2, 1) := by decide +kernel
theorem dX4_ownsIfSentBehind_40 : decode cX4_ownsIfSentBehind 40 = .ok (.isub, 1) := by decide +kernel
theorem dX4_ownsIfSentBehind_41 : decode cX4_ownsIfSentBehind 41 = .ok (.invokevirtual 28, 3) := by decide +kernel
theorem dX4_ownsIfSentBehind_44 : decode cX4_ownsIfSentBehind 44 = .ok (.aload_n 0, 1) := by decide +kernel
theorem dX4_ownsIfSentBehind_45 : decode cX4_ownsIfSentBehind 45 = .ok (.getfield 12, 3) := by decide +kernel
theorem dX4_ownsIfSentBehind_48 : decode cX4_ownsIfSentBehind 48 = .ok (.getfield 36, 3) := by decide +kernel
theorem dX4_ownsIfSentBehind_51 : decode cX4_ownsIfSentBehind 51 = .ok (.iload_n 1, 1) := by decide +kernel
theorem dX4_ownsIfSentBehind_52 : decode cX4_ownsIfSentBehind 52 = .ok (.if_icmp .ne 7, 3) := by decide +kernel
theorem dX4_ownsIfSentBehind_55 : decode cX4_ownsIfSentBehind 55 = .ok (.iconst 1, 1) := by decide +kernel
theorem dX4_ownsIfSentBehind_56 : decode cX4_ownsIfSentBehind 56 = .ok (.goto 4, 3) := by decide +kernel
theorem dX4_ownsIfSentBehind_59 : decode cX4_ownsIfSentBehind 59 = .ok (.iconst 0, 1) := by decide +kernel
theorem dX4_ownsIfSentBehind_60 : decode cX4_ownsIfSentBehind 60 = .ok (.ireturn, 1) := by decide +kernel
theorem dX4_windsFor_0 : decode cX4_windsFor 0 = .ok (.iconst 0, 1) := by decide +kernel
theorem dX4_windsFor_1 : decode cX4_windsFor 1 = .ok (.istore_n 3, 1) := by decide +kernel
theorem dX4_windsFor_2 : decode cX4_windsFor 2 = .ok (.iconst 0, 1) := by decide +kernel
theorem dX4_windsFor_3 : decode cX4_windsFor 3 = .ok (.istore 4, 2) := by decide +kernel
theorem dX4_windsFor_5 : decode cX4_windsFor 5 = .ok (.iload 4, 2) := by decide +kernel
theorem dX4_windsFor_7 : decode cX4_windsFor 7 = .ok (.iconst 3, 1) := by decide +kernel
theorem dX4_windsFor_8 : decode cX4_windsFor 8 = .ok (.if_icmp .gt 55, 3) := by decide +kernel
theorem dX4_windsFor_11 : decode cX4_windsFor 11 = .ok (.aload_n 0, 1) := by decide +kernel
theorem dX4_windsFor_12 : decode cX4_windsFor 12 = .ok (.getfield 12, 3) := by decide +kernel
theorem dX4_windsFor_15 : decode cX4_windsFor 15 = .ok (.aload_n 0, 1) := by decide +kernel
theorem dX4_windsFor_16 : decode cX4_windsFor 16 = .ok (.getfield 18, 3) := by decide +kernel
theorem dX4_windsFor_19 : decode cX4_windsFor 19 = .ok (.invokevirtual 24, 3) := by decide +kernel
theorem dX4_windsFor_22 : decode cX4_windsFor 22 = .ok (.aload_n 0, 1) := by decide +kernel
theorem dX4_windsFor_23 : decode cX4_windsFor 23 = .ok (.getfield 12, 3) := by decide +kernel
theorem dX4_windsFor_26 : decode cX4_windsFor 26 = .ok (.iload 4, 2) := by decide +kernel
theorem dX4_windsFor_28 : decode cX4_windsFor 28 = .ok (.putfield 42, 3) := by decide +kernel
theorem dX4_windsFor_31 : decode cX4_windsFor 31 = .ok (.aload_n 0, 1) := by decide +kernel
theorem dX4_windsFor_32 : decode cX4_windsFor 32 = .ok (.getfield 12, 3) := by decide +kernel
theorem dX4_windsFor_35 : decode cX4_windsFor 35 = .ok (.iload_n 2, 1) := by decide +kernel
theorem dX4_windsFor_36 : decode cX4_windsFor 36 = .ok (.invokevirtual 28, 3) := by decide +kernel
theorem dX4_windsFor_39 : decode cX4_windsFor 39 = .ok (.aload_n 0, 1) := by decide +kernel
theorem dX4_windsFor_40 : decode cX4_windsFor 40 = .ok (.getfield 12, 3) := by decide +kernel
theorem dX4_windsFor_43 : decode cX4_windsFor 43 = .ok (.getfield 36, 3) := by decide +kernel
theorem dX4_windsFor_46 : decode cX4_windsFor 46 = .ok (.iload_n 1, 1) := by decide +kernel
theorem dX4_windsFor_47 : decode cX4_windsFor 47 = .ok (.if_icmp .ne 10, 3) := by decide +kernel
theorem dX4_windsFor_50 : decode cX4_windsFor 50 = .ok (.iload_n 3, 1) := by decide +kernel
theorem dX4_windsFor_51 : decode cX4_windsFor 51 = .ok (.iconst 1, 1) := by decide +kernel
theorem dX4_windsFor_52 : decode cX4_windsFor 52 = .ok (.iload 4, 2) := by decide +kernel
theorem dX4_windsFor_54 : decode cX4_windsFor 54 = .ok (.ishl, 1) := by decide +kernel
theorem dX4_windsFor_55 : decode cX4_windsFor 55 = .ok (.ior, 1) := by decide +kernel
theorem dX4_windsFor_56 : decode cX4_windsFor 56 = .ok (.istore_n 3, 1) := by decide +kernel
theorem dX4_windsFor_57 : decode cX4_windsFor 57 = .ok (.iinc 4 1, 3) := by decide +kernel
theorem dX4_windsFor_60 : decode cX4_windsFor 60 = .ok (.goto (-55), 3) := by decide +kernel
theorem dX4_windsFor_63 : decode cX4_windsFor 63 = .ok (.iload_n 3, 1) := by decide +kernel
theorem dX4_windsFor_64 : decode cX4_windsFor 64 = .ok (.ireturn, 1) := by decide +kernel
theorem dX4_fewestKeptHome_0 : decode cX4_fewestKeptHome 0 = .ok (.aload_n 0, 1) := by decide +kernel
theorem dX4_fewestKeptHome_1 : decode cX4_fewestKeptHome 1 = .ok (.getfield 18, 3) := by decide +kernel
theorem dX4_fewestKeptHome_4 : decode cX4_fewestKeptHome 4 = .ok (.getfield 32, 3) := by decide +kernel
theorem dX4_fewestKeptHome_7 : decode cX4_fewestKeptHome 7 = .ok (.iconst 1, 1) := by decide +kernel
theorem dX4_fewestKeptHome_8 : decode cX4_fewestKeptHome 8 = .ok (.iload_n 1, 1) := by decide +kernel
theorem dX4_fewestKeptHome_9 : decode cX4_fewestKeptHome 9 = .ok (.ishl, 1) := by decide +kernel
theorem dX4_fewestKeptHome_10 : decode cX4_fewestKeptHome 10 = .ok (.iconst (-1), 1) := by decide +kernel
theorem dX4_fewestKeptHome_11 : decode cX4_fewestKeptHome 11 = .ok (.ixor, 1) := by decide +kernel
theorem dX4_fewestKeptHome_12 : decode cX4_fewestKeptHome 12 = .ok (.iand, 1) := by decide +kernel
theorem dX4_fewestKeptHome_13 : decode cX4_fewestKeptHome 13 = .ok (.istore_n 3, 1) := by decide +kernel
theorem dX4_fewestKeptHome_14 : decode cX4_fewestKeptHome 14 = .ok (.iconst (-1), 1) := by decide +kernel
theorem dX4_fewestKeptHome_15 : decode cX4_fewestKeptHome 15 = .ok (.istore 4, 2) := by decide +kernel
theorem dX4_fewestKeptHome_17 : decode cX4_fewestKeptHome 17 = .ok (.iconst 0, 1) := by decide +kernel
theorem dX4_fewestKeptHome_18 : decode cX4_fewestKeptHome 18 = .ok (.istore 5, 2) := by decide +kernel
theorem dX4_fewestKeptHome_20 : decode cX4_fewestKeptHome 20 = .ok (.iload 5, 2) := by decide +kernel
theorem dX4_fewestKeptHome_22 : decode cX4_fewestKeptHome 22 = .ok (.iconst 1, 1) := by decide +kernel
theorem dX4_fewestKeptHome_23 : decode cX4_fewestKeptHome 23 = .ok (.aload_n 0, 1) := by decide +kernel
theorem dX4_fewestKeptHome_24 : decode cX4_fewestKeptHome 24 = .ok (.getfield 18, 3) := by decide +kernel
theorem dX4_fewestKeptHome_27 : decode cX4_fewestKeptHome 27 = .ok (.getfield 45, 3) := by decide +kernel
theorem dX4_fewestKeptHome_30 : decode cX4_fewestKeptHome 30 = .ok (.ishl, 1) := by decide +kernel
theorem dX4_fewestKeptHome_31 : decode cX4_fewestKeptHome 31 = .ok (.if_icmp .ge 56, 3) := by decide +kernel
theorem dX4_fewestKeptHome_34 : decode cX4_fewestKeptHome 34 = .ok (.iload 5, 2) := by decide +kernel
theorem dX4_fewestKeptHome_36 : decode cX4_fewestKeptHome 36 = .ok (.iload_n 3, 1) := by decide +kernel
theorem dX4_fewestKeptHome_37 : decode cX4_fewestKeptHome 37 = .ok (.iconst (-1), 1) := by decide +kernel
theorem dX4_fewestKeptHome_38 : decode cX4_fewestKeptHome 38 = .ok (.ixor, 1) := by decide +kernel
theorem dX4_fewestKeptHome_39 : decode cX4_fewestKeptHome 39 = .ok (.iand, 1) := by decide +kernel
theorem dX4_fewestKeptHome_40 : decode cX4_fewestKeptHome 40 = .ok (.ifCond .ne 41, 3) := by decide +kernel
theorem dX4_fewestKeptHome_43 : decode cX4_fewestKeptHome 43 = .ok (.iload 5, 2) := by decide +kernel
theorem dX4_fewestKeptHome_45 : decode cX4_fewestKeptHome 45 = .ok (.iload 4, 2) := by decide +kernel
theorem dX4_fewestKeptHome_47 : decode cX4_fewestKeptHome 47 = .ok (.invokestatic 48, 3) := by decide +kernel
theorem dX4_fewestKeptHome_50 : decode cX4_fewestKeptHome 50 = .ok (.ifCond .ne 6, 3) := by decide +kernel
theorem dX4_fewestKeptHome_53 : decode cX4_fewestKeptHome 53 = .ok (.goto 28, 3) := by decide +kernel
theorem dX4_fewestKeptHome_56 : decode cX4_fewestKeptHome 56 = .ok (.aload_n 0, 1) := by decide +kernel
theorem dX4_fewestKeptHome_57 : decode cX4_fewestKeptHome 57 = .ok (.aload_n 0, 1) := by decide +kernel
theorem dX4_fewestKeptHome_58 : decode cX4_fewestKeptHome 58 = .ok (.getfield 18, 3) := by decide +kernel
theorem dX4_fewestKeptHome_61 : decode cX4_fewestKeptHome 61 = .ok (.getfield 32, 3) := by decide +kernel
theorem dX4_fewestKeptHome_64 : decode cX4_fewestKeptHome 64 = .ok (.iload 5, 2) := by decide +kernel
theorem dX4_fewestKeptHome_66 : decode cX4_fewestKeptHome 66 = .ok (.iconst (-1), 1) := by decide +kernel
theorem dX4_fewestKeptHome_67 : decode cX4_fewestKeptHome 67 = .ok (.ixor, 1) := by decide +kernel
theorem dX4_fewestKeptHome_68 : decode cX4_fewestKeptHome 68 = .ok (.iand, 1) := by decide +kernel
theorem dX4_fewestKeptHome_69 : decode cX4_fewestKeptHome 69 = .ok (.iload_n 2, 1) := by decide +kernel
theorem dX4_fewestKeptHome_70 : decode cX4_fewestKeptHome 70 = .ok (.invokevirtual 52, 3) := by decide +kernel
theorem dX4_fewestKeptHome_73 : decode cX4_fewestKeptHome 73 = .ok (.iload_n 1, 1) := by decide +kernel
theorem dX4_fewestKeptHome_74 : decode cX4_fewestKeptHome 74 = .ok (.if_icmp .ne 7, 3) := by decide +kernel
theorem dX4_fewestKeptHome_77 : decode cX4_fewestKeptHome 77 = .ok (.iload 5, 2) := by decide +kernel
theorem dX4_fewestKeptHome_79 : decode cX4_fewestKeptHome 79 = .ok (.istore 4, 2) := by decide +kernel
theorem dX4_fewestKeptHome_81 : decode cX4_fewestKeptHome 81 = .ok (.iinc 5 1, 3) := by decide +kernel
theorem dX4_fewestKeptHome_84 : decode cX4_fewestKeptHome 84 = .ok (.goto (-64), 3) := by decide +kernel
theorem dX4_fewestKeptHome_87 : decode cX4_fewestKeptHome 87 = .ok (.iload 4, 2) := by decide +kernel
theorem dX4_fewestKeptHome_89 : decode cX4_fewestKeptHome 89 = .ok (.ireturn, 1) := by decide +kernel
theorem dX4_fewestSent_0 : decode cX4_fewestSent 0 = .ok (.iconst (-1), 1) := by decide +kernel
theorem dX4_fewestSent_1 : decode cX4_fewestSent 1 = .ok (.istore_n 2, 1) := by decide +kernel
theorem dX4_fewestSent_2 : decode cX4_fewestSent 2 = .ok (.iconst 0, 1) := by decide +kernel
theorem dX4_fewestSent_3 : decode cX4_fewestSent 3 = .ok (.istore_n 3, 1) := by decide +kernel
theorem dX4_fewestSent_4 : decode cX4_fewestSent 4 = .ok (.iload_n 3, 1) := by decide +kernel
theorem dX4_fewestSent_5 : decode cX4_fewestSent 5 = .ok (.iconst 1, 1) := by decide +kernel
theorem dX4_fewestSent_6 : decode cX4_fewestSent 6 = .ok (.aload_n 0, 1) := by decide +kernel
theorem dX4_fewestSent_7 : decode cX4_fewestSent 7 = .ok (.getfield 18, 3) := by decide +kernel
theorem dX4_fewestSent_10 : decode cX4_fewestSent 10 = .ok (.getfield 45, 3) := by decide +kernel
theorem dX4_fewestSent_13 : decode cX4_fewestSent 13 = .ok (.ishl, 1) := by decide +kernel
theorem dX4_fewestSent_14 : decode cX4_fewestSent 14 = .ok (.if_icmp .ge 29, 3) := by decide +kernel
theorem dX4_fewestSent_17 : decode cX4_fewestSent 17 = .ok (.iload_n 3, 1) := by decide +kernel
theorem dX4_fewestSent_18 : decode cX4_fewestSent 18 = .ok (.iload_n 2, 1) := by decide +kernel
theorem dX4_fewestSent_19 : decode cX4_fewestSent 19 = .ok (.invokestatic 48, 3) := by decide +kernel
theorem dX4_fewestSent_22 : decode cX4_fewestSent 22 = .ok (.ifCond .eq 15, 3) := by decide +kernel
theorem dX4_fewestSent_25 : decode cX4_fewestSent 25 = .ok (.aload_n 0, 1) := by decide +kernel
theorem dX4_fewestSent_26 : decode cX4_fewestSent 26 = .ok (.iload_n 3, 1) := by decide +kernel
theorem dX4_fewestSent_27 : decode cX4_fewestSent 27 = .ok (.iload_n 1, 1) := by decide +kernel
theorem dX4_fewestSent_28 : decode cX4_fewestSent 28 = .ok (.invokevirtual 52, 3) := by decide +kernel
theorem dX4_fewestSent_31 : decode cX4_fewestSent 31 = .ok (.iconst (-1), 1) := by decide +kernel
theorem dX4_fewestSent_32 : decode cX4_fewestSent 32 = .ok (.if_icmp .eq 5, 3) := by decide +kernel
theorem dX4_fewestSent_35 : decode cX4_fewestSent 35 = .ok (.iload_n 3, 1) := by decide +kernel
theorem dX4_fewestSent_36 : decode cX4_fewestSent 36 = .ok (.istore_n 2, 1) := by decide +kernel
theorem dX4_fewestSent_37 : decode cX4_fewestSent 37 = .ok (.iinc 3 1, 3) := by decide +kernel
theorem dX4_fewestSent_40 : decode cX4_fewestSent 40 = .ok (.goto (-36), 3) := by decide +kernel
theorem dX4_fewestSent_43 : decode cX4_fewestSent 43 = .ok (.iload_n 2, 1) := by decide +kernel
theorem dX4_fewestSent_44 : decode cX4_fewestSent 44 = .ok (.ireturn, 1) := by decide +kernel
theorem dX4_isFewer_0 : decode cX4_isFewer 0 = .ok (.iload_n 1, 1) := by decide +kernel
theorem dX4_isFewer_1 : decode cX4_isFewer 1 = .ok (.iconst (-1), 1) := by decide +kernel
theorem dX4_isFewer_2 : decode cX4_isFewer 2 = .ok (.if_icmp .eq 14, 3) := by decide +kernel
theorem dX4_isFewer_5 : decode cX4_isFewer 5 = .ok (.iload_n 0, 1) := by decide +kernel
theorem dX4_isFewer_6 : decode cX4_isFewer 6 = .ok (.invokestatic 56, 3) := by decide +kernel
theorem dX4_isFewer_9 : decode cX4_isFewer 9 = .ok (.iload_n 1, 1) := by decide +kernel
theorem dX4_isFewer_10 : decode cX4_isFewer 10 = .ok (.invokestatic 56, 3) := by decide +kernel
theorem dX4_isFewer_13 : decode cX4_isFewer 13 = .ok (.if_icmp .ge 7, 3) := by decide +kernel
theorem dX4_isFewer_16 : decode cX4_isFewer 16 = .ok (.iconst 1, 1) := by decide +kernel
theorem dX4_isFewer_17 : decode cX4_isFewer 17 = .ok (.goto 4, 3) := by decide +kernel
theorem dX4_isFewer_20 : decode cX4_isFewer 20 = .ok (.iconst 0, 1) := by decide +kernel
theorem dX4_isFewer_21 : decode cX4_isFewer 21 = .ok (.ireturn, 1) := by decide +kernel
theorem dX4_showsAllBy_0 : decode cX4_showsAllBy 0 = .ok (.aload_n 0, 1) := by decide +kernel
theorem dX4_showsAllBy_1 : decode cX4_showsAllBy 1 = .ok (.getfield 12, 3) := by decide +kernel
theorem dX4_showsAllBy_4 : decode cX4_showsAllBy 4 = .ok (.aload_n 0, 1) := by decide +kernel
theorem dX4_showsAllBy_5 : decode cX4_showsAllBy 5 = .ok (.getfield 18, 3) := by decide +kernel
theorem dX4_showsAllBy_8 : decode cX4_showsAllBy 8 = .ok (.invokevirtual 24, 3) := by decide +kernel
theorem dX4_showsAllBy_11 : decode cX4_showsAllBy 11 = .ok (.aload_n 0, 1) := by decide +kernel
theorem dX4_showsAllBy_12 : decode cX4_showsAllBy 12 = .ok (.getfield 12, 3) := by decide +kernel
theorem dX4_showsAllBy_15 : decode cX4_showsAllBy 15 = .ok (.getfield 62, 3) := by decide +kernel
theorem dX4_showsAllBy_18 : decode cX4_showsAllBy 18 = .ok (.iconst 0, 1) := by decide +kernel
theorem dX4_showsAllBy_19 : decode cX4_showsAllBy 19 = .ok (.iload_n 1, 1) := by decide +kernel
theorem dX4_showsAllBy_20 : decode cX4_showsAllBy 20 = .ok (.iastore, 1) := by decide +kernel
theorem dX4_showsAllBy_21 : decode cX4_showsAllBy 21 = .ok (.iconst 0, 1) := by decide +kernel
theorem dX4_showsAllBy_22 : decode cX4_showsAllBy 22 = .ok (.istore_n 3, 1) := by decide +kernel
theorem dX4_showsAllBy_23 : decode cX4_showsAllBy 23 = .ok (.iload_n 3, 1) := by decide +kernel
theorem dX4_showsAllBy_24 : decode cX4_showsAllBy 24 = .ok (.iload_n 2, 1) := by decide +kernel
theorem dX4_showsAllBy_25 : decode cX4_showsAllBy 25 = .ok (.if_icmp .ge 22, 3) := by decide +kernel
theorem dX4_showsAllBy_28 : decode cX4_showsAllBy 28 = .ok (.aload_n 0, 1) := by decide +kernel
theorem dX4_showsAllBy_29 : decode cX4_showsAllBy 29 = .ok (.getfield 12, 3) := by decide +kernel
theorem dX4_showsAllBy_32 : decode cX4_showsAllBy 32 = .ok (.iload_n 3, 1) := by decide +kernel
theorem dX4_showsAllBy_33 : decode cX4_showsAllBy 33 = .ok (.invokevirtual 66, 3) := by decide +kernel
theorem dX4_showsAllBy_36 : decode cX4_showsAllBy 36 = .ok (.ifCond .ne 5, 3) := by decide +kernel
theorem dX4_showsAllBy_39 : decode cX4_showsAllBy 39 = .ok (.iconst 0, 1) := by decide +kernel
theorem dX4_showsAllBy_40 : decode cX4_showsAllBy 40 = .ok (.ireturn, 1) := by decide +kernel
theorem dX4_showsAllBy_41 : decode cX4_showsAllBy 41 = .ok (.iinc 3 1, 3) := by decide +kernel
theorem dX4_showsAllBy_44 : decode cX4_showsAllBy 44 = .ok (.goto (-21), 3) := by decide +kernel
theorem dX4_showsAllBy_47 : decode cX4_showsAllBy 47 = .ok (.iconst 1, 1) := by decide +kernel
theorem dX4_showsAllBy_48 : decode cX4_showsAllBy 48 = .ok (.ireturn, 1) := by decide +kernel
theorem dX4_fitting_0 : decode cX4_fitting 0 = .ok (.iload_n 2, 1) := by decide +kernel
theorem dX4_fitting_1 : decode cX4_fitting 1 = .ok (.iconst 2, 1) := by decide +kernel
theorem dX4_fitting_2 : decode cX4_fitting 2 = .ok (.if_icmp .ne 7, 3) := by decide +kernel
theorem dX4_fitting_5 : decode cX4_fitting 5 = .ok (.iconst 0, 1) := by decide +kernel
theorem dX4_fitting_6 : decode cX4_fitting 6 = .ok (.goto 4, 3) := by decide +kernel
theorem dX4_fitting_9 : decode cX4_fitting 9 = .ok (.iconst 1, 1) := by decide +kernel
theorem dX4_fitting_10 : decode cX4_fitting 10 = .ok (.istore 6, 2) := by decide +kernel
theorem dX4_fitting_12 : decode cX4_fitting 12 = .ok (.iload_n 2, 1) := by decide +kernel
theorem dX4_fitting_13 : decode cX4_fitting 13 = .ok (.ifCond .ne 7, 3) := by decide +kernel
theorem dX4_fitting_16 : decode cX4_fitting 16 = .ok (.iconst 5, 1) := by decide +kernel
theorem dX4_fitting_17 : decode cX4_fitting 17 = .ok (.goto 14, 3) := by decide +kernel
theorem dX4_fitting_20 : decode cX4_fitting 20 = .ok (.iload_n 2, 1) := by decide +kernel
theorem dX4_fitting_21 : decode cX4_fitting 21 = .ok (.iconst 1, 1) := by decide +kernel
theorem dX4_fitting_22 : decode cX4_fitting 22 = .ok (.if_icmp .ne 8, 3) := by decide +kernel
theorem dX4_fitting_25 : decode cX4_fitting 25 = .ok (.bipush 9, 2) := by decide +kernel
theorem dX4_fitting_27 : decode cX4_fitting 27 = .ok (.goto 4, 3) := by decide +kernel
theorem dX4_fitting_30 : decode cX4_fitting 30 = .ok (.iconst 3, 1) := by decide +kernel
theorem dX4_fitting_31 : decode cX4_fitting 31 = .ok (.istore 7, 2) := by decide +kernel
theorem dX4_fitting_33 : decode cX4_fitting 33 = .ok (.iconst 0, 1) := by decide +kernel
theorem dX4_fitting_34 : decode cX4_fitting 34 = .ok (.istore 8, 2) := by decide +kernel
theorem dX4_fitting_36 : decode cX4_fitting 36 = .ok (.iload 6, 2) := by decide +kernel
theorem dX4_fitting_38 : decode cX4_fitting 38 = .ok (.istore 9, 2) := by decide +kernel
theorem dX4_fitting_40 : decode cX4_fitting 40 = .ok (.iload 9, 2) := by decide +kernel
theorem dX4_fitting_42 : decode cX4_fitting 42 = .ok (.iload 7, 2) := by decide +kernel
theorem dX4_fitting_44 : decode cX4_fitting 44 = .ok (.if_icmp .gt 87, 3) := by decide +kernel
theorem dX4_fitting_47 : decode cX4_fitting 47 = .ok (.aload_n 0, 1) := by decide +kernel
theorem dX4_fitting_48 : decode cX4_fitting 48 = .ok (.getfield 12, 3) := by decide +kernel
theorem dX4_fitting_51 : decode cX4_fitting 51 = .ok (.aload_n 0, 1) := by decide +kernel
theorem dX4_fitting_52 : decode cX4_fitting 52 = .ok (.getfield 18, 3) := by decide +kernel
theorem dX4_fitting_55 : decode cX4_fitting 55 = .ok (.invokevirtual 24, 3) := by decide +kernel
theorem dX4_fitting_58 : decode cX4_fitting 58 = .ok (.iload_n 2, 1) := by decide +kernel
theorem dX4_fitting_59 : decode cX4_fitting 59 = .ok (.ifCond .ne 17, 3) := by decide +kernel
theorem dX4_fitting_62 : decode cX4_fitting 62 = .ok (.aload_n 0, 1) := by decide +kernel
theorem dX4_fitting_63 : decode cX4_fitting 63 = .ok (.getfield 12, 3) := by decide +kernel
theorem dX4_fitting_66 : decode cX4_fitting 66 = .ok (.getfield 70, 3) := by decide +kernel
theorem dX4_fitting_69 : decode cX4_fitting 69 = .ok (.iload_n 1, 1) := by decide +kernel
theorem dX4_fitting_70 : decode cX4_fitting 70 = .ok (.iload 9, 2) := by decide +kernel
theorem dX4_fitting_72 : decode cX4_fitting 72 = .ok (.iastore, 1) := by decide +kernel
theorem dX4_fitting_73 : decode cX4_fitting 73 = .ok (.goto 31, 3) := by decide +kernel
theorem dX4_fitting_76 : decode cX4_fitting 76 = .ok (.iload_n 2, 1) := by decide +kernel
theorem dX4_fitting_77 : decode cX4_fitting 77 = .ok (.iconst 1, 1) := by decide +kernel
theorem dX4_fitting_78 : decode cX4_fitting 78 = .ok (.if_icmp .ne 17, 3) := by decide +kernel
theorem dX4_fitting_81 : decode cX4_fitting 81 = .ok (.aload_n 0, 1) := by decide +kernel
theorem dX4_fitting_82 : decode cX4_fitting 82 = .ok (.getfield 12, 3) := by decide +kernel
theorem dX4_fitting_85 : decode cX4_fitting 85 = .ok (.getfield 73, 3) := by decide +kernel
theorem dX4_fitting_88 : decode cX4_fitting 88 = .ok (.iload_n 1, 1) := by decide +kernel
theorem dX4_fitting_89 : decode cX4_fitting 89 = .ok (.iload 9, 2) := by decide +kernel
theorem dX4_fitting_91 : decode cX4_fitting 91 = .ok (.iastore, 1) := by decide +kernel
theorem dX4_fitting_92 : decode cX4_fitting 92 = .ok (.goto 12, 3) := by decide +kernel
theorem dX4_fitting_95 : decode cX4_fitting 95 = .ok (.aload_n 0, 1) := by decide +kernel
theorem dX4_fitting_96 : decode cX4_fitting 96 = .ok (.getfield 12, 3) := by decide +kernel
theorem dX4_fitting_99 : decode cX4_fitting 99 = .ok (.iload 9, 2) := by decide +kernel
theorem dX4_fitting_101 : decode cX4_fitting 101 = .ok (.putfield 42, 3) := by decide +kernel
theorem dX4_fitting_104 : decode cX4_fitting 104 = .ok (.aload_n 0, 1) := by decide +kernel
theorem dX4_fitting_105 : decode cX4_fitting 105 = .ok (.aload_n 3, 1) := by decide +kernel
theorem dX4_fitting_106 : decode cX4_fitting 106 = .ok (.iload 4, 2) := by decide +kernel
theorem dX4_fitting_108 : decode cX4_fitting 108 = .ok (.iload 5, 2) := by decide +kernel
theorem dX4_fitting_110 : decode cX4_fitting 110 = .ok (.invokevirtual 76, 3) := by decide +kernel
theorem dX4_fitting_113 : decode cX4_fitting 113 = .ok (.ifCond .eq 12, 3) := by decide +kernel
theorem dX4_fitting_116 : decode cX4_fitting 116 = .ok (.iload 8, 2) := by decide +kernel
theorem dX4_fitting_118 : decode cX4_fitting 118 = .ok (.iconst 1, 1) := by decide +kernel
theorem dX4_fitting_119 : decode cX4_fitting 119 = .ok (.iload 9, 2) := by decide +kernel
theorem dX4_fitting_121 : decode cX4_fitting 121 = .ok (.ishl, 1) := by decide +kernel
theorem dX4_fitting_122 : decode cX4_fitting 122 = .ok (.ior, 1) := by decide +kernel
theorem dX4_fitting_123 : decode cX4_fitting 123 = .ok (.istore 8, 2) := by decide +kernel
theorem dX4_fitting_125 : decode cX4_fitting 125 = .ok (.iinc 9 1, 3) := by decide +kernel
theorem dX4_fitting_128 : decode cX4_fitting 128 = .ok (.goto (-88), 3) := by decide +kernel
theorem dX4_fitting_131 : decode cX4_fitting 131 = .ok (.iload 8, 2) := by decide +kernel
theorem dX4_fitting_133 : decode cX4_fitting 133 = .ok (.ireturn, 1) := by decide +kernel
theorem dX4_barring_0 : decode cX4_barring 0 = .ok (.aload_n 0, 1) := by decide +kernel
theorem dX4_barring_1 : decode cX4_barring 1 = .ok (.getfield 12, 3) := by decide +kernel
theorem dX4_barring_4 : decode cX4_barring 4 = .ok (.aload_n 0, 1) := by decide +kernel
theorem dX4_barring_5 : decode cX4_barring 5 = .ok (.getfield 18, 3) := by decide +kernel
theorem dX4_barring_8 : decode cX4_barring 8 = .ok (.invokevirtual 24, 3) := by decide +kernel
theorem dX4_barring_11 : decode cX4_barring 11 = .ok (.aload_n 0, 1) := by decide +kernel
theorem dX4_barring_12 : decode cX4_barring 12 = .ok (.aload_n 1, 1) := by decide +kernel
theorem dX4_barring_13 : decode cX4_barring 13 = .ok (.iload_n 2, 1) := by decide +kernel
theorem dX4_barring_14 : decode cX4_barring 14 = .ok (.iload_n 3, 1) := by decide +kernel
theorem dX4_barring_15 : decode cX4_barring 15 = .ok (.invokevirtual 76, 3) := by decide +kernel
theorem dX4_barring_18 : decode cX4_barring 18 = .ok (.ifCond .eq 8, 3) := by decide +kernel
theorem dX4_barring_21 : decode cX4_barring 21 = .ok (.bipush 64, 2) := by decide +kernel
theorem dX4_barring_23 : decode cX4_barring 23 = .ok (.goto 4, 3) := by decide +kernel
theorem dX4_barring_26 : decode cX4_barring 26 = .ok (.iconst 0, 1) := by decide +kernel
theorem dX4_barring_27 : decode cX4_barring 27 = .ok (.istore 4, 2) := by decide +kernel
theorem dX4_barring_29 : decode cX4_barring 29 = .ok (.iconst 0, 1) := by decide +kernel
theorem dX4_barring_30 : decode cX4_barring 30 = .ok (.istore 5, 2) := by decide +kernel
theorem dX4_barring_32 : decode cX4_barring 32 = .ok (.iload 5, 2) := by decide +kernel
theorem dX4_barring_34 : decode cX4_barring 34 = .ok (.aload_n 0, 1) := by decide +kernel
theorem dX4_barring_35 : decode cX4_barring 35 = .ok (.getfield 18, 3) := by decide +kernel
theorem dX4_barring_38 : decode cX4_barring 38 = .ok (.getfield 45, 3) := by decide +kernel
theorem dX4_barring_41 : decode cX4_barring 41 = .ok (.if_icmp .ge 72, 3) := by decide +kernel
theorem dX4_barring_44 : decode cX4_barring 44 = .ok (.aload_n 0, 1) := by decide +kernel
theorem dX4_barring_45 : decode cX4_barring 45 = .ok (.getfield 18, 3) := by decide +kernel
theorem dX4_barring_48 : decode cX4_barring 48 = .ok (.iload 5, 2) := by decide +kernel
theorem dX4_barring_50 : decode cX4_barring 50 = .ok (.invokevirtual 80, 3) := by decide +kernel
theorem dX4_barring_53 : decode cX4_barring 53 = .ok (.ifCond .ne 6, 3) := by decide +kernel
theorem dX4_barring_56 : decode cX4_barring 56 = .ok (.goto 51, 3) := by decide +kernel
theorem dX4_barring_59 : decode cX4_barring 59 = .ok (.aload_n 0, 1) := by decide +kernel
theorem dX4_barring_60 : decode cX4_barring 60 = .ok (.getfield 12, 3) := by decide +kernel
theorem dX4_barring_63 : decode cX4_barring 63 = .ok (.aload_n 0, 1) := by decide +kernel
theorem dX4_barring_64 : decode cX4_barring 64 = .ok (.getfield 18, 3) := by decide +kernel
theorem dX4_barring_67 : decode cX4_barring 67 = .ok (.invokevirtual 24, 3) := by decide +kernel
theorem dX4_barring_70 : decode cX4_barring 70 = .ok (.aload_n 0, 1) := by decide +kernel
theorem dX4_barring_71 : decode cX4_barring 71 = .ok (.getfield 12, 3) := by decide +kernel
theorem dX4_barring_74 : decode cX4_barring 74 = .ok (.dup, 1) := by decide +kernel
theorem dX4_barring_75 : decode cX4_barring 75 = .ok (.getfield 32, 3) := by decide +kernel
theorem dX4_barring_78 : decode cX4_barring 78 = .ok (.iconst 1, 1) := by decide +kernel
theorem dX4_barring_79 : decode cX4_barring 79 = .ok (.iload 5, 2) := by decide +kernel
theorem dX4_barring_81 : decode cX4_barring 81 = .ok (.ishl, 1) := by decide +kernel
theorem dX4_barring_82 : decode cX4_barring 82 = .ok (.iconst (-1), 1) := by decide +kernel
theorem dX4_barring_83 : decode cX4_barring 83 = .ok (.ixor, 1) := by decide +kernel
theorem dX4_barring_84 : decode cX4_barring 84 = .ok (.iand, 1) := by decide +kernel
theorem dX4_barring_85 : decode cX4_barring 85 = .ok (.putfield 32, 3) := by decide +kernel
theorem dX4_barring_88 : decode cX4_barring 88 = .ok (.aload_n 0, 1) := by decide +kernel
theorem dX4_barring_89 : decode cX4_barring 89 = .ok (.aload_n 1, 1) := by decide +kernel
theorem dX4_barring_90 : decode cX4_barring 90 = .ok (.iload_n 2, 1) := by decide +kernel
theorem dX4_barring_91 : decode cX4_barring 91 = .ok (.iload_n 3, 1) := by decide +kernel
theorem dX4_barring_92 : decode cX4_barring 92 = .ok (.invokevirtual 76, 3) := by decide +kernel
theorem dX4_barring_95 : decode cX4_barring 95 = .ok (.ifCond .eq 12, 3) := by decide +kernel
theorem dX4_barring_98 : decode cX4_barring 98 = .ok (.iload 4, 2) := by decide +kernel
theorem dX4_barring_100 : decode cX4_barring 100 = .ok (.iconst 1, 1) := by decide +kernel
theorem dX4_barring_101 : decode cX4_barring 101 = .ok (.iload 5, 2) := by decide +kernel
theorem dX4_barring_103 : decode cX4_barring 103 = .ok (.ishl, 1) := by decide +kernel
theorem dX4_barring_104 : decode cX4_barring 104 = .ok (.ior, 1) := by decide +kernel
theorem dX4_barring_105 : decode cX4_barring 105 = .ok (.istore 4, 2) := by decide +kernel
theorem dX4_barring_107 : decode cX4_barring 107 = .ok (.iinc 5 1, 3) := by decide +kernel
theorem dX4_barring_110 : decode cX4_barring 110 = .ok (.goto (-78), 3) := by decide +kernel
theorem dX4_barring_113 : decode cX4_barring 113 = .ok (.iload 4, 2) := by decide +kernel
theorem dX4_barring_115 : decode cX4_barring 115 = .ok (.ireturn, 1) := by decide +kernel
theorem dX4_goesAsTold_0 : decode cX4_goesAsTold 0 = .ok (.iload_n 2, 1) := by decide +kernel
theorem dX4_goesAsTold_1 : decode cX4_goesAsTold 1 = .ok (.istore 4, 2) := by decide +kernel
theorem dX4_goesAsTold_3 : decode cX4_goesAsTold 3 = .ok (.iload 4, 2) := by decide +kernel
theorem dX4_goesAsTold_5 : decode cX4_goesAsTold 5 = .ok (.iload_n 2, 1) := by decide +kernel
theorem dX4_goesAsTold_6 : decode cX4_goesAsTold 6 = .ok (.iload_n 3, 1) := by decide +kernel
theorem dX4_goesAsTold_7 : decode cX4_goesAsTold 7 = .ok (.iadd, 1) := by decide +kernel
theorem dX4_goesAsTold_8 : decode cX4_goesAsTold 8 = .ok (.if_icmp .ge 39, 3) := by decide +kernel
theorem dX4_goesAsTold_11 : decode cX4_goesAsTold 11 = .ok (.iload 4, 2) := by decide +kernel
theorem dX4_goesAsTold_13 : decode cX4_goesAsTold 13 = .ok (.aload_n 1, 1) := by decide +kernel
theorem dX4_goesAsTold_14 : decode cX4_goesAsTold 14 = .ok (.arraylength, 1) := by decide +kernel
theorem dX4_goesAsTold_15 : decode cX4_goesAsTold 15 = .ok (.if_icmp .ge 32, 3) := by decide +kernel
theorem dX4_goesAsTold_18 : decode cX4_goesAsTold 18 = .ok (.aload_n 0, 1) := by decide +kernel
theorem dX4_goesAsTold_19 : decode cX4_goesAsTold 19 = .ok (.getfield 12, 3) := by decide +kernel
theorem dX4_goesAsTold_22 : decode cX4_goesAsTold 22 = .ok (.invokevirtual 39, 3) := by decide +kernel
theorem dX4_goesAsTold_25 : decode cX4_goesAsTold 25 = .ok (.aload_n 0, 1) := by decide +kernel
theorem dX4_goesAsTold_26 : decode cX4_goesAsTold 26 = .ok (.getfield 12, 3) := by decide +kernel
theorem dX4_goesAsTold_29 : decode cX4_goesAsTold 29 = .ok (.getfield 36, 3) := by decide +kernel
theorem dX4_goesAsTold_32 : decode cX4_goesAsTold 32 = .ok (.aload_n 1, 1) := by decide +kernel
theorem dX4_goesAsTold_33 : decode cX4_goesAsTold 33 = .ok (.iload 4, 2) := by decide +kernel
theorem dX4_goesAsTold_35 : decode cX4_goesAsTold 35 = .ok (.iaload, 1) := by decide +kernel
theorem dX4_goesAsTold_36 : decode cX4_goesAsTold 36 = .ok (.if_icmp .eq 5, 3) := by decide +kernel
theorem dX4_goesAsTold_39 : decode cX4_goesAsTold 39 = .ok (.iconst 0, 1) := by decide +kernel
theorem dX4_goesAsTold_40 : decode cX4_goesAsTold 40 = .ok (.ireturn, 1) := by decide +kernel
theorem dX4_goesAsTold_41 : decode cX4_goesAsTold 41 = .ok (.iinc 4 1, 3) := by decide +kernel
theorem dX4_goesAsTold_44 : decode cX4_goesAsTold 44 = .ok (.goto (-41), 3) := by decide +kernel
theorem dX4_goesAsTold_47 : decode cX4_goesAsTold 47 = .ok (.iconst 1, 1) := by decide +kernel
theorem dX4_goesAsTold_48 : decode cX4_goesAsTold 48 = .ok (.ireturn, 1) := by decide +kernel
theorem dX4_casesFor_0 : decode cX4_casesFor 0 = .ok (.lconst 0, 1) := by decide +kernel
theorem dX4_casesFor_1 : decode cX4_casesFor 1 = .ok (.lstore 4, 2) := by decide +kernel
theorem dX4_casesFor_3 : decode cX4_casesFor 3 = .ok (.iconst 0, 1) := by decide +kernel
theorem dX4_casesFor_4 : decode cX4_casesFor 4 = .ok (.istore 6, 2) := by decide +kernel
theorem dX4_casesFor_6 : decode cX4_casesFor 6 = .ok (.iload 6, 2) := by decide +kernel
theorem dX4_casesFor_8 : decode cX4_casesFor 8 = .ok (.iconst 1, 1) := by decide +kernel
theorem dX4_casesFor_9 : decode cX4_casesFor 9 = .ok (.aload_n 0, 1) := by decide +kernel
theorem dX4_casesFor_10 : decode cX4_casesFor 10 = .ok (.getfield 18, 3) := by decide +kernel
theorem dX4_casesFor_13 : decode cX4_casesFor 13 = .ok (.getfield 45, 3) := by decide +kernel
theorem dX4_casesFor_16 : decode cX4_casesFor 16 = .ok (.ishl, 1) := by decide +kernel
theorem dX4_casesFor_17 : decode cX4_casesFor 17 = .ok (.if_icmp .ge 71, 3) := by decide +kernel
theorem dX4_casesFor_20 : decode cX4_casesFor 20 = .ok (.iload 6, 2) := by decide +kernel
theorem dX4_casesFor_22 : decode cX4_casesFor 22 = .ok (.aload_n 0, 1) := by decide +kernel
theorem dX4_casesFor_23 : decode cX4_casesFor 23 = .ok (.getfield 18, 3) := by decide +kernel
theorem dX4_casesFor_26 : decode cX4_casesFor 26 = .ok (.getfield 32, 3) := by decide +kernel
theorem dX4_casesFor_29 : decode cX4_casesFor 29 = .ok (.iconst (-1), 1) := by decide +kernel
theorem dX4_casesFor_30 : decode cX4_casesFor 30 = .ok (.ixor, 1) := by decide +kernel
theorem dX4_casesFor_31 : decode cX4_casesFor 31 = .ok (.iand, 1) := by decide +kernel
theorem dX4_casesFor_32 : decode cX4_casesFor 32 = .ok (.ifCond .eq 6, 3) := by decide +kernel
theorem dX4_casesFor_35 : decode cX4_casesFor 35 = .ok (.goto 47, 3) := by decide +kernel
theorem dX4_casesFor_38 : decode cX4_casesFor 38 = .ok (.aload_n 0, 1) := by decide +kernel
theorem dX4_casesFor_39 : decode cX4_casesFor 39 = .ok (.iload 6, 2) := by decide +kernel
theorem dX4_casesFor_41 : decode cX4_casesFor 41 = .ok (.iload_n 3, 1) := by decide +kernel
theorem dX4_casesFor_42 : decode cX4_casesFor 42 = .ok (.invokevirtual 83, 3) := by decide +kernel
theorem dX4_casesFor_45 : decode cX4_casesFor 45 = .ok (.lstore 7, 2) := by decide +kernel
theorem dX4_casesFor_47 : decode cX4_casesFor 47 = .ok (.lload 7, 2) := by decide +kernel
theorem dX4_casesFor_49 : decode cX4_casesFor 49 = .ok (.lconst 0, 1) := by decide +kernel
theorem dX4_casesFor_50 : decode cX4_casesFor 50 = .ok (.lcmp, 1) := by decide +kernel
theorem dX4_casesFor_51 : decode cX4_casesFor 51 = .ok (.ifCond .le 31, 3) := by decide +kernel
theorem dX4_casesFor_54 : decode cX4_casesFor 54 = .ok (.aload_n 0, 1) := by decide +kernel
theorem dX4_casesFor_55 : decode cX4_casesFor 55 = .ok (.aload_n 0, 1) := by decide +kernel
theorem dX4_casesFor_56 : decode cX4_casesFor 56 = .ok (.getfield 18, 3) := by decide +kernel
theorem dX4_casesFor_59 : decode cX4_casesFor 59 = .ok (.getfield 32, 3) := by decide +kernel
theorem dX4_casesFor_62 : decode cX4_casesFor 62 = .ok (.iload 6, 2) := by decide +kernel
theorem dX4_casesFor_64 : decode cX4_casesFor 64 = .ok (.iconst (-1), 1) := by decide +kernel
theorem dX4_casesFor_65 : decode cX4_casesFor 65 = .ok (.ixor, 1) := by decide +kernel
theorem dX4_casesFor_66 : decode cX4_casesFor 66 = .ok (.iand, 1) := by decide +kernel
theorem dX4_casesFor_67 : decode cX4_casesFor 67 = .ok (.iload_n 2, 1) := by decide +kernel
theorem dX4_casesFor_68 : decode cX4_casesFor 68 = .ok (.invokevirtual 52, 3) := by decide +kernel
theorem dX4_casesFor_71 : decode cX4_casesFor 71 = .ok (.iload_n 1, 1) := by decide +kernel
theorem dX4_casesFor_72 : decode cX4_casesFor 72 = .ok (.if_icmp .ne 10, 3) := by decide +kernel
theorem dX4_casesFor_75 : decode cX4_casesFor 75 = .ok (.lload 4, 2) := by decide +kernel
theorem dX4_casesFor_77 : decode cX4_casesFor 77 = .ok (.lload 7, 2) := by decide +kernel
theorem dX4_casesFor_79 : decode cX4_casesFor 79 = .ok (.ladd, 1) := by decide +kernel
theorem dX4_casesFor_80 : decode cX4_casesFor 80 = .ok (.lstore 4, 2) := by decide +kernel
theorem dX4_casesFor_82 : decode cX4_casesFor 82 = .ok (.iinc 6 1, 3) := by decide +kernel
theorem dX4_casesFor_85 : decode cX4_casesFor 85 = .ok (.goto (-79), 3) := by decide +kernel
theorem dX4_casesFor_88 : decode cX4_casesFor 88 = .ok (.lload 4, 2) := by decide +kernel
theorem dX4_casesFor_90 : decode cX4_casesFor 90 = .ok (.lreturn, 1) := by decide +kernel
theorem dX4_weightOf_0 : decode cX4_weightOf 0 = .ok (.lconst 1, 1) := by decide +kernel
theorem dX4_weightOf_1 : decode cX4_weightOf 1 = .ok (.lstore_n 3, 1) := by decide +kernel
theorem dX4_weightOf_2 : decode cX4_weightOf 2 = .ok (.iconst 0, 1) := by decide +kernel
theorem dX4_weightOf_3 : decode cX4_weightOf 3 = .ok (.istore 5, 2) := by decide +kernel
theorem dX4_weightOf_5 : decode cX4_weightOf 5 = .ok (.iload 5, 2) := by decide +kernel
theorem dX4_weightOf_7 : decode cX4_weightOf 7 = .ok (.aload_n 0, 1) := by decide +kernel
theorem dX4_weightOf_8 : decode cX4_weightOf 8 = .ok (.getfield 18, 3) := by decide +kernel
theorem dX4_weightOf_11 : decode cX4_weightOf 11 = .ok (.getfield 45, 3) := by decide +kernel
theorem dX4_weightOf_14 : decode cX4_weightOf 14 = .ok (.if_icmp .ge 44, 3) := by decide +kernel
theorem dX4_weightOf_17 : decode cX4_weightOf 17 = .ok (.aload_n 0, 1) := by decide +kernel
theorem dX4_weightOf_18 : decode cX4_weightOf 18 = .ok (.getfield 18, 3) := by decide +kernel
theorem dX4_weightOf_21 : decode cX4_weightOf 21 = .ok (.iload 5, 2) := by decide +kernel
theorem dX4_weightOf_23 : decode cX4_weightOf 23 = .ok (.invokevirtual 80, 3) := by decide +kernel
theorem dX4_weightOf_26 : decode cX4_weightOf 26 = .ok (.ifCond .eq 26, 3) := by decide +kernel
theorem dX4_weightOf_29 : decode cX4_weightOf 29 = .ok (.lload_n 3, 1) := by decide +kernel
theorem dX4_weightOf_30 : decode cX4_weightOf 30 = .ok (.iload_n 1, 1) := by decide +kernel
theorem dX4_weightOf_31 : decode cX4_weightOf 31 = .ok (.iload 5, 2) := by decide +kernel
theorem dX4_weightOf_33 : decode cX4_weightOf 33 = .ok (.ishr, 1) := by decide +kernel
theorem dX4_weightOf_34 : decode cX4_weightOf 34 = .ok (.iconst 1, 1) := by decide +kernel
theorem dX4_weightOf_35 : decode cX4_weightOf 35 = .ok (.iand, 1) := by decide +kernel
theorem dX4_weightOf_36 : decode cX4_weightOf 36 = .ok (.iconst 1, 1) := by decide +kernel
theorem dX4_weightOf_37 : decode cX4_weightOf 37 = .ok (.if_icmp .ne 8, 3) := by decide +kernel
theorem dX4_weightOf_40 : decode cX4_weightOf 40 = .ok (.iload_n 2, 1) := by decide +kernel
theorem dX4_weightOf_41 : decode cX4_weightOf 41 = .ok (.i2l, 1) := by decide +kernel
theorem dX4_weightOf_42 : decode cX4_weightOf 42 = .ok (.goto 8, 3) := by decide +kernel
theorem dX4_weightOf_45 : decode cX4_weightOf 45 = .ok (.bipush 10, 2) := by decide +kernel
theorem dX4_weightOf_47 : decode cX4_weightOf 47 = .ok (.iload_n 2, 1) := by decide +kernel
theorem dX4_weightOf_48 : decode cX4_weightOf 48 = .ok (.isub, 1) := by decide +kernel
theorem dX4_weightOf_49 : decode cX4_weightOf 49 = .ok (.i2l, 1) := by decide +kernel
theorem dX4_weightOf_50 : decode cX4_weightOf 50 = .ok (.lmul, 1) := by decide +kernel
theorem dX4_weightOf_51 : decode cX4_weightOf 51 = .ok (.lstore_n 3, 1) := by decide +kernel
theorem dX4_weightOf_52 : decode cX4_weightOf 52 = .ok (.iinc 5 1, 3) := by decide +kernel
theorem dX4_weightOf_55 : decode cX4_weightOf 55 = .ok (.goto (-50), 3) := by decide +kernel
theorem dX4_weightOf_58 : decode cX4_weightOf 58 = .ok (.lload_n 3, 1) := by decide +kernel
theorem dX4_weightOf_59 : decode cX4_weightOf 59 = .ok (.lreturn, 1) := by decide +kernel
theorem dX4_allCases_0 : decode cX4_allCases 0 = .ok (.lconst 1, 1) := by decide +kernel
theorem dX4_allCases_1 : decode cX4_allCases 1 = .ok (.lstore_n 1, 1) := by decide +kernel
theorem dX4_allCases_2 : decode cX4_allCases 2 = .ok (.iconst 0, 1) := by decide +kernel
theorem dX4_allCases_3 : decode cX4_allCases 3 = .ok (.istore_n 3, 1) := by decide +kernel
theorem dX4_allCases_4 : decode cX4_allCases 4 = .ok (.iload_n 3, 1) := by decide +kernel
theorem dX4_allCases_5 : decode cX4_allCases 5 = .ok (.aload_n 0, 1) := by decide +kernel
theorem dX4_allCases_6 : decode cX4_allCases 6 = .ok (.getfield 18, 3) := by decide +kernel
theorem dX4_allCases_9 : decode cX4_allCases 9 = .ok (.getfield 45, 3) := by decide +kernel
theorem dX4_allCases_12 : decode cX4_allCases 12 = .ok (.if_icmp .ge 26, 3) := by decide +kernel
theorem dX4_allCases_15 : decode cX4_allCases 15 = .ok (.aload_n 0, 1) := by decide +kernel
theorem dX4_allCases_16 : decode cX4_allCases 16 = .ok (.getfield 18, 3) := by decide +kernel
theorem dX4_allCases_19 : decode cX4_allCases 19 = .ok (.iload_n 3, 1) := by decide +kernel
theorem dX4_allCases_20 : decode cX4_allCases 20 = .ok (.invokevirtual 80, 3) := by decide +kernel
theorem dX4_allCases_23 : decode cX4_allCases 23 = .ok (.ifCond .eq 9, 3) := by decide +kernel
theorem dX4_allCases_26 : decode cX4_allCases 26 = .ok (.lload_n 1, 1) := by decide +kernel
theorem dX4_allCases_27 : decode cX4_allCases 27 = .ok (.ldc2_w 87, 3) := by decide +kernel
theorem dX4_allCases_30 : decode cX4_allCases 30 = .ok (.lmul, 1) := by decide +kernel
theorem dX4_allCases_31 : decode cX4_allCases 31 = .ok (.lstore_n 1, 1) := by decide +kernel
theorem dX4_allCases_32 : decode cX4_allCases 32 = .ok (.iinc 3 1, 3) := by decide +kernel
theorem dX4_allCases_35 : decode cX4_allCases 35 = .ok (.goto (-31), 3) := by decide +kernel
theorem dX4_allCases_38 : decode cX4_allCases 38 = .ok (.lload_n 1, 1) := by decide +kernel
theorem dX4_allCases_39 : decode cX4_allCases 39 = .ok (.lreturn, 1) := by decide +kernel
theorem dX4_years_0 : decode cX4_years 0 = .ok (.aload_n 0, 1) := by decide +kernel
theorem dX4_years_1 : decode cX4_years 1 = .ok (.getfield 12, 3) := by decide +kernel
theorem dX4_years_4 : decode cX4_years 4 = .ok (.aload_n 0, 1) := by decide +kernel
theorem dX4_years_5 : decode cX4_years 5 = .ok (.getfield 18, 3) := by decide +kernel
theorem dX4_years_8 : decode cX4_years 8 = .ok (.invokevirtual 24, 3) := by decide +kernel
theorem dX4_years_11 : decode cX4_years 11 = .ok (.iload_n 2, 1) := by decide +kernel
theorem dX4_years_12 : decode cX4_years 12 = .ok (.i2l, 1) := by decide +kernel
theorem dX4_years_13 : decode cX4_years 13 = .ok (.lstore 4, 2) := by decide +kernel
theorem dX4_years_15 : decode cX4_years 15 = .ok (.iconst 0, 1) := by decide +kernel
theorem dX4_years_16 : decode cX4_years 16 = .ok (.istore 6, 2) := by decide +kernel
theorem dX4_years_18 : decode cX4_years 18 = .ok (.iconst 0, 1) := by decide +kernel
theorem dX4_years_19 : decode cX4_years 19 = .ok (.istore 7, 2) := by decide +kernel
theorem dX4_years_21 : decode cX4_years 21 = .ok (.iconst (-1), 1) := by decide +kernel
theorem dX4_years_22 : decode cX4_years 22 = .ok (.istore 8, 2) := by decide +kernel
theorem dX4_years_24 : decode cX4_years 24 = .ok (.iconst 0, 1) := by decide +kernel
theorem dX4_years_25 : decode cX4_years 25 = .ok (.istore 9, 2) := by decide +kernel
theorem dX4_years_27 : decode cX4_years 27 = .ok (.iload 9, 2) := by decide +kernel
theorem dX4_years_29 : decode cX4_years 29 = .ok (.iload_n 1, 1) := by decide +kernel
theorem dX4_years_30 : decode cX4_years 30 = .ok (.if_icmp .ge 75, 3) := by decide +kernel
theorem dX4_years_33 : decode cX4_years 33 = .ok (.lload 4, 2) := by decide +kernel
theorem dX4_years_35 : decode cX4_years 35 = .ok (.ldc2_w 89, 3) := by decide +kernel
theorem dX4_years_38 : decode cX4_years 38 = .ok (.lmul, 1) := by decide +kernel
theorem dX4_years_39 : decode cX4_years 39 = .ok (.ldc2_w 91, 3) := by decide +kernel
theorem dX4_years_42 : decode cX4_years 42 = .ok (.lrem, 1) := by decide +kernel
theorem dX4_years_43 : decode cX4_years 43 = .ok (.lstore 4, 2) := by decide +kernel
theorem dX4_years_45 : decode cX4_years 45 = .ok (.aload_n 0, 1) := by decide +kernel
theorem dX4_years_46 : decode cX4_years 46 = .ok (.lload 4, 2) := by decide +kernel
theorem dX4_years_48 : decode cX4_years 48 = .ok (.invokevirtual 93, 3) := by decide +kernel
theorem dX4_years_51 : decode cX4_years 51 = .ok (.aload_n 0, 1) := by decide +kernel
theorem dX4_years_52 : decode cX4_years 52 = .ok (.getfield 12, 3) := by decide +kernel
theorem dX4_years_55 : decode cX4_years 55 = .ok (.invokevirtual 39, 3) := by decide +kernel
theorem dX4_years_58 : decode cX4_years 58 = .ok (.aload_n 0, 1) := by decide +kernel
theorem dX4_years_59 : decode cX4_years 59 = .ok (.getfield 12, 3) := by decide +kernel
theorem dX4_years_62 : decode cX4_years 62 = .ok (.getfield 36, 3) := by decide +kernel
theorem dX4_years_65 : decode cX4_years 65 = .ok (.iconst (-1), 1) := by decide +kernel
theorem dX4_years_66 : decode cX4_years 66 = .ok (.if_icmp .ne 6, 3) := by decide +kernel
theorem dX4_years_69 : decode cX4_years 69 = .ok (.goto 30, 3) := by decide +kernel
theorem dX4_years_72 : decode cX4_years 72 = .ok (.iinc 6 1, 3) := by decide +kernel
theorem dX4_years_75 : decode cX4_years 75 = .ok (.aload_n 0, 1) := by decide +kernel
theorem dX4_years_76 : decode cX4_years 76 = .ok (.getfield 12, 3) := by decide +kernel
theorem dX4_years_79 : decode cX4_years 79 = .ok (.getfield 36, 3) := by decide +kernel
theorem dX4_years_82 : decode cX4_years 82 = .ok (.iload 8, 2) := by decide +kernel
theorem dX4_years_84 : decode cX4_years 84 = .ok (.if_icmp .eq 6, 3) := by decide +kernel
theorem dX4_years_87 : decode cX4_years 87 = .ok (.iinc 7 1, 3) := by decide +kernel
theorem dX4_years_90 : decode cX4_years 90 = .ok (.aload_n 0, 1) := by decide +kernel
theorem dX4_years_91 : decode cX4_years 91 = .ok (.getfield 12, 3) := by decide +kernel
theorem dX4_years_94 : decode cX4_years 94 = .ok (.getfield 36, 3) := by decide +kernel
theorem dX4_years_97 : decode cX4_years 97 = .ok (.istore 8, 2) := by decide +kernel
theorem dX4_years_99 : decode cX4_years 99 = .ok (.iinc 9 1, 3) := by decide +kernel
theorem dX4_years_102 : decode cX4_years 102 = .ok (.goto (-75), 3) := by decide +kernel
theorem dX4_years_105 : decode cX4_years 105 = .ok (.iload_n 3, 1) := by decide +kernel
theorem dX4_years_106 : decode cX4_years 106 = .ok (.ifCond .eq 8, 3) := by decide +kernel
theorem dX4_years_109 : decode cX4_years 109 = .ok (.iload 7, 2) := by decide +kernel
theorem dX4_years_111 : decode cX4_years 111 = .ok (.goto 5, 3) := by decide +kernel
theorem dX4_years_114 : decode cX4_years 114 = .ok (.iload 6, 2) := by decide +kernel
theorem dX4_years_116 : decode cX4_years 116 = .ok (.ireturn, 1) := by decide +kernel
theorem dX4_drawBy_0 : decode cX4_drawBy 0 = .ok (.aload_n 0, 1) := by decide +kernel
theorem dX4_drawBy_1 : decode cX4_drawBy 1 = .ok (.getfield 12, 3) := by decide +kernel
theorem dX4_drawBy_4 : decode cX4_drawBy 4 = .ok (.lload_n 1, 1) := by decide +kernel
theorem dX4_drawBy_5 : decode cX4_drawBy 5 = .ok (.ldc2_w 97, 3) := by decide +kernel
theorem dX4_drawBy_8 : decode cX4_drawBy 8 = .ok (.lrem, 1) := by decide +kernel
theorem dX4_drawBy_9 : decode cX4_drawBy 9 = .ok (.l2i, 1) := by decide +kernel
theorem dX4_drawBy_10 : decode cX4_drawBy 10 = .ok (.putfield 42, 3) := by decide +kernel
theorem dX4_drawBy_13 : decode cX4_drawBy 13 = .ok (.lload_n 1, 1) := by decide +kernel
theorem dX4_drawBy_14 : decode cX4_drawBy 14 = .ok (.ldc2_w 99, 3) := by decide +kernel
theorem dX4_drawBy_17 : decode cX4_drawBy 17 = .ok (.lrem, 1) := by decide +kernel
theorem dX4_drawBy_18 : decode cX4_drawBy 18 = .ok (.lconst 0, 1) := by decide +kernel
theorem dX4_drawBy_19 : decode cX4_drawBy 19 = .ok (.lcmp, 1) := by decide +kernel
theorem dX4_drawBy_20 : decode cX4_drawBy 20 = .ok (.ifCond .ne 38, 3) := by decide +kernel
theorem dX4_drawBy_23 : decode cX4_drawBy 23 = .ok (.aload_n 0, 1) := by decide +kernel
theorem dX4_drawBy_24 : decode cX4_drawBy 24 = .ok (.getfield 12, 3) := by decide +kernel
theorem dX4_drawBy_27 : decode cX4_drawBy 27 = .ok (.getfield 45, 3) := by decide +kernel
theorem dX4_drawBy_30 : decode cX4_drawBy 30 = .ok (.ifCond .le 28, 3) := by decide +kernel
theorem dX4_drawBy_33 : decode cX4_drawBy 33 = .ok (.aload_n 0, 1) := by decide +kernel
theorem dX4_drawBy_34 : decode cX4_drawBy 34 = .ok (.getfield 12, 3) := by decide +kernel
theorem dX4_drawBy_37 : decode cX4_drawBy 37 = .ok (.dup, 1) := by decide +kernel
theorem dX4_drawBy_38 : decode cX4_drawBy 38 = .ok (.getfield 32, 3) := by decide +kernel
theorem dX4_drawBy_41 : decode cX4_drawBy 41 = .ok (.iconst 1, 1) := by decide +kernel
theorem dX4_drawBy_42 : decode cX4_drawBy 42 = .ok (.lload_n 1, 1) := by decide +kernel
theorem dX4_drawBy_43 : decode cX4_drawBy 43 = .ok (.aload_n 0, 1) := by decide +kernel
theorem dX4_drawBy_44 : decode cX4_drawBy 44 = .ok (.getfield 12, 3) := by decide +kernel
theorem dX4_drawBy_47 : decode cX4_drawBy 47 = .ok (.getfield 45, 3) := by decide +kernel
theorem dX4_drawBy_50 : decode cX4_drawBy 50 = .ok (.i2l, 1) := by decide +kernel
theorem dX4_drawBy_51 : decode cX4_drawBy 51 = .ok (.lrem, 1) := by decide +kernel
theorem dX4_drawBy_52 : decode cX4_drawBy 52 = .ok (.l2i, 1) := by decide +kernel
theorem dX4_drawBy_53 : decode cX4_drawBy 53 = .ok (.ishl, 1) := by decide +kernel
theorem dX4_drawBy_54 : decode cX4_drawBy 54 = .ok (.ixor, 1) := by decide +kernel
theorem dX4_drawBy_55 : decode cX4_drawBy 55 = .ok (.putfield 32, 3) := by decide +kernel
theorem dX4_drawBy_58 : decode cX4_drawBy 58 = .ok (.return_, 1) := by decide +kernel
theorem dX5_init_0 : decode cX5_init 0 = .ok (.aload_n 0, 1) := by decide +kernel
theorem dX5_init_1 : decode cX5_init 1 = .ok (.invokespecial 3, 3) := by decide +kernel
theorem dX5_init_4 : decode cX5_init 4 = .ok (.aload_n 0, 1) := by decide +kernel
theorem dX5_init_5 : decode cX5_init 5 = .ok (.bipush 120, 2) := by decide +kernel
theorem dX5_init_7 : decode cX5_init 7 = .ok (.newarray .int, 2) := by decide +kernel
theorem dX5_init_9 : decode cX5_init 9 = .ok (.putfield 11, 3) := by decide +kernel
theorem dX5_init_12 : decode cX5_init 12 = .ok (.aload_n 0, 1) := by decide +kernel
theorem dX5_init_13 : decode cX5_init 13 = .ok (.iconst 0, 1) := by decide +kernel
theorem dX5_init_14 : decode cX5_init 14 = .ok (.putfield 15, 3) := by decide +kernel
theorem dX5_init_17 : decode cX5_init 17 = .ok (.aload_n 0, 1) := by decide +kernel
theorem dX5_init_18 : decode cX5_init 18 = .ok (.iconst 0, 1) := by decide +kernel
theorem dX5_init_19 : decode cX5_init 19 = .ok (.putfield 19, 3) := by decide +kernel
theorem dX5_init_22 : decode cX5_init 22 = .ok (.aload_n 0, 1) := by decide +kernel
theorem dX5_init_23 : decode cX5_init 23 = .ok (.iconst 0, 1) := by decide +kernel
theorem dX5_init_24 : decode cX5_init 24 = .ok (.putfield 22, 3) := by decide +kernel
theorem dX5_init_27 : decode cX5_init 27 = .ok (.aload_n 0, 1) := by decide +kernel
theorem dX5_init_28 : decode cX5_init 28 = .ok (.iconst (-1), 1) := by decide +kernel
theorem dX5_init_29 : decode cX5_init 29 = .ok (.putfield 25, 3) := by decide +kernel
theorem dX5_init_32 : decode cX5_init 32 = .ok (.return_, 1) := by decide +kernel
theorem dX5_isFull_0 : decode cX5_isFull 0 = .ok (.aload_n 0, 1) := by decide +kernel
theorem dX5_isFull_1 : decode cX5_isFull 1 = .ok (.getfield 15, 3) := by decide +kernel
theorem dX5_isFull_4 : decode cX5_isFull 4 = .ok (.bipush 120, 2) := by decide +kernel
theorem dX5_isFull_6 : decode cX5_isFull 6 = .ok (.if_icmp .lt 7, 3) := by decide +kernel
theorem dX5_isFull_9 : decode cX5_isFull 9 = .ok (.iconst 1, 1) := by decide +kernel
theorem dX5_isFull_10 : decode cX5_isFull 10 = .ok (.goto 4, 3) := by decide +kernel
theorem dX5_isFull_13 : decode cX5_isFull 13 = .ok (.iconst 0, 1) := by decide +kernel
theorem dX5_isFull_14 : decode cX5_isFull 14 = .ok (.ireturn, 1) := by decide +kernel
theorem dX5_add_0 : decode cX5_add 0 = .ok (.aload_n 0, 1) := by decide +kernel
theorem dX5_add_1 : decode cX5_add 1 = .ok (.invokevirtual 28, 3) := by decide +kernel
theorem dX5_add_4 : decode cX5_add 4 = .ok (.ifCond .eq 8, 3) := by decide +kernel
theorem dX5_add_7 : decode cX5_add 7 = .ok (.aload_n 0, 1) := by decide +kernel
theorem dX5_add_8 : decode cX5_add 8 = .ok (.getfield 15, 3) := by decide +kernel
theorem dX5_add_11 : decode cX5_add 11 = .ok (.ireturn, 1) := by decide +kernel
theorem dX5_add_12 : decode cX5_add 12 = .ok (.aload_n 0, 1) := by decide +kernel
theorem dX5_add_13 : decode cX5_add 13 = .ok (.getfield 11, 3) := by decide +kernel
theorem dX5_add_16 : decode cX5_add 16 = .ok (.aload_n 0, 1) := by decide +kernel
theorem dX5_add_17 : decode cX5_add 17 = .ok (.getfield 15, 3) := by decide +kernel
theorem dX5_add_20 : decode cX5_add 20 = .ok (.iload_n 1, 1) := by decide +kernel
theorem dX5_add_21 : decode cX5_add 21 = .ok (.iastore, 1) := by decide +kernel
theorem dX5_add_22 : decode cX5_add 22 = .ok (.aload_n 0, 1) := by decide +kernel
theorem dX5_add_23 : decode cX5_add 23 = .ok (.dup, 1) := by decide +kernel
theorem dX5_add_24 : decode cX5_add 24 = .ok (.getfield 15, 3) := by decide +kernel
theorem dX5_add_27 : decode cX5_add 27 = .ok (.iconst 1, 1) := by decide +kernel
theorem dX5_add_28 : decode cX5_add 28 = .ok (.iadd, 1) := by decide +kernel
theorem dX5_add_29 : decode cX5_add 29 = .ok (.putfield 15, 3) := by decide +kernel
theorem dX5_add_32 : decode cX5_add 32 = .ok (.aload_n 0, 1) := by decide +kernel
theorem dX5_add_33 : decode cX5_add 33 = .ok (.getfield 15, 3) := by decide +kernel
theorem dX5_add_36 : decode cX5_add 36 = .ok (.ireturn, 1) := by decide +kernel
theorem dX5_readInto_0 : decode cX5_readInto 0 = .ok (.aload_n 0, 1) := by decide +kernel
theorem dX5_readInto_1 : decode cX5_readInto 1 = .ok (.iconst 0, 1) := by decide +kernel
theorem dX5_readInto_2 : decode cX5_readInto 2 = .ok (.putfield 22, 3) := by decide +kernel
theorem dX5_readInto_5 : decode cX5_readInto 5 = .ok (.aload_n 0, 1) := by decide +kernel
theorem dX5_readInto_6 : decode cX5_readInto 6 = .ok (.iconst (-1), 1) := by decide +kernel
theorem dX5_readInto_7 : decode cX5_readInto 7 = .ok (.putfield 25, 3) := by decide +kernel
theorem dX5_readInto_10 : decode cX5_readInto 10 = .ok (.aload_n 0, 1) := by decide +kernel
theorem dX5_readInto_11 : decode cX5_readInto 11 = .ok (.aload_n 1, 1) := by decide +kernel
theorem dX5_readInto_12 : decode cX5_readInto 12 = .ok (.invokevirtual 32, 3) := by decide +kernel
theorem dX5_readInto_15 : decode cX5_readInto 15 = .ok (.ifCond .eq 23, 3) := by decide +kernel
theorem dX5_readInto_18 : decode cX5_readInto 18 = .ok (.aload_n 0, 1) := by decide +kernel
theorem dX5_readInto_19 : decode cX5_readInto 19 = .ok (.aload_n 1, 1) := by decide +kernel
theorem dX5_readInto_20 : decode cX5_readInto 20 = .ok (.invokevirtual 36, 3) := by decide +kernel
theorem dX5_readInto_23 : decode cX5_readInto 23 = .ok (.ifCond .eq 15, 3) := by decide +kernel
theorem dX5_readInto_26 : decode cX5_readInto 26 = .ok (.aload_n 0, 1) := by decide +kernel
theorem dX5_readInto_27 : decode cX5_readInto 27 = .ok (.aload_n 1, 1) := by decide +kernel
theorem dX5_readInto_28 : decode cX5_readInto 28 = .ok (.invokevirtual 39, 3) := by decide +kernel
theorem dX5_readInto_31 : decode cX5_readInto 31 = .ok (.ifCond .eq 7, 3) := by decide +kernel
theorem dX5_readInto_34 : decode cX5_readInto 34 = .ok (.iconst 1, 1) := by decide +kernel
theorem dX5_readInto_35 : decode cX5_readInto 35 = .ok (.goto 4, 3) := by decide +kernel
theorem dX5_readInto_38 : decode cX5_readInto 38 = .ok (.iconst 0, 1) := by decide +kernel
theorem dX5_readInto_39 : decode cX5_readInto 39 = .ok (.istore_n 2, 1) := by decide +kernel
theorem dX5_readInto_40 : decode cX5_readInto 40 = .ok (.aload_n 0, 1) := by decide +kernel
theorem dX5_readInto_41 : decode cX5_readInto 41 = .ok (.iconst 0, 1) := by decide +kernel
theorem dX5_readInto_42 : decode cX5_readInto 42 = .ok (.putfield 15, 3) := by decide +kernel
theorem dX5_readInto_45 : decode cX5_readInto 45 = .ok (.iload_n 2, 1) := by decide +kernel
theorem dX5_readInto_46 : decode cX5_readInto 46 = .ok (.ifCond .eq 7, 3) := by decide +kernel
theorem dX5_readInto_49 : decode cX5_readInto 49 = .ok (.iconst (-1), 1) := by decide +kernel
theorem dX5_readInto_50 : decode cX5_readInto 50 = .ok (.goto 7, 3) := by decide +kernel
theorem dX5_readInto_53 : decode cX5_readInto 53 = .ok (.aload_n 0, 1) := by decide +kernel
theorem dX5_readInto_54 : decode cX5_readInto 54 = .ok (.getfield 25, 3) := by decide +kernel
theorem dX5_readInto_57 : decode cX5_readInto 57 = .ok (.ireturn, 1) := by decide +kernel
theorem dX5_readLaw_0 : decode cX5_readLaw 0 = .ok (.aload_n 0, 1) := by decide +kernel
theorem dX5_readLaw_1 : decode cX5_readLaw 1 = .ok (.bipush 105, 2) := by decide +kernel
theorem dX5_readLaw_3 : decode cX5_readLaw 3 = .ok (.invokevirtual 42, 3) := by decide +kernel
theorem dX5_readLaw_6 : decode cX5_readLaw 6 = .ok (.ifCond .ne 5, 3) := by decide +kernel
theorem dX5_readLaw_9 : decode cX5_readLaw 9 = .ok (.iconst 0, 1) := by decide +kernel
theorem dX5_readLaw_10 : decode cX5_readLaw 10 = .ok (.ireturn, 1) := by decide +kernel
theorem dX5_readLaw_11 : decode cX5_readLaw 11 = .ok (.aload_n 1, 1) := by decide +kernel
theorem dX5_readLaw_12 : decode cX5_readLaw 12 = .ok (.aload_n 0, 1) := by decide +kernel
theorem dX5_readLaw_13 : decode cX5_readLaw 13 = .ok (.iconst 2, 1) := by decide +kernel
theorem dX5_readLaw_14 : decode cX5_readLaw 14 = .ok (.bipush 24, 2) := by decide +kernel
theorem dX5_readLaw_16 : decode cX5_readLaw 16 = .ok (.invokevirtual 46, 3) := by decide +kernel
theorem dX5_readLaw_19 : decode cX5_readLaw 19 = .ok (.putfield 50, 3) := by decide +kernel
theorem dX5_readLaw_22 : decode cX5_readLaw 22 = .ok (.aload_n 1, 1) := by decide +kernel
theorem dX5_readLaw_23 : decode cX5_readLaw 23 = .ok (.getfield 50, 3) := by decide +kernel
theorem dX5_readLaw_26 : decode cX5_readLaw 26 = .ok (.ifCond .lt 12, 3) := by decide +kernel
theorem dX5_readLaw_29 : decode cX5_readLaw 29 = .ok (.aload_n 0, 1) := by decide +kernel
theorem dX5_readLaw_30 : decode cX5_readLaw 30 = .ok (.bipush 44, 2) := by decide +kernel
theorem dX5_readLaw_32 : decode cX5_readLaw 32 = .ok (.invokevirtual 42, 3) := by decide +kernel
theorem dX5_readLaw_35 : decode cX5_readLaw 35 = .ok (.ifCond .ne 5, 3) := by decide +kernel
theorem dX5_readLaw_38 : decode cX5_readLaw 38 = .ok (.iconst 0, 1) := by decide +kernel
theorem dX5_readLaw_39 : decode cX5_readLaw 39 = .ok (.ireturn, 1) := by decide +kernel
theorem dX5_readLaw_40 : decode cX5_readLaw 40 = .ok (.aload_n 1, 1) := by decide +kernel
theorem dX5_readLaw_41 : decode cX5_readLaw 41 = .ok (.aload_n 0, 1) := by decide +kernel
theorem dX5_readLaw_42 : decode cX5_readLaw 42 = .ok (.iconst 1, 1) := by decide +kernel
theorem dX5_readLaw_43 : decode cX5_readLaw 43 = .ok (.bipush 30, 2) := by decide +kernel
theorem dX5_readLaw_45 : decode cX5_readLaw 45 = .ok (.invokevirtual 46, 3) := by decide +kernel
theorem dX5_readLaw_48 : decode cX5_readLaw 48 = .ok (.putfield 55, 3) := by decide +kernel
theorem dX5_readLaw_51 : decode cX5_readLaw 51 = .ok (.aload_n 1, 1) := by decide +kernel
theorem dX5_readLaw_52 : decode cX5_readLaw 52 = .ok (.getfield 55, 3) := by decide +kernel
theorem dX5_readLaw_55 : decode cX5_readLaw 55 = .ok (.ifCond .lt 12, 3) := by decide +kernel
theorem dX5_readLaw_58 : decode cX5_readLaw 58 = .ok (.aload_n 0, 1) := by decide +kernel
theorem dX5_readLaw_59 : decode cX5_readLaw 59 = .ok (.bipush 44, 2) := by decide +kernel
theorem dX5_readLaw_61 : decode cX5_readLaw 61 = .ok (.invokevirtual 42, 3) := by decide +kernel
theorem dX5_readLaw_64 : decode cX5_readLaw 64 = .ok (.ifCond .ne 5, 3) := by decide +kernel
theorem dX5_readLaw_67 : decode cX5_readLaw 67 = .ok (.iconst 0, 1) := by decide +kernel
theorem dX5_readLaw_68 : decode cX5_readLaw 68 = .ok (.ireturn, 1) := by decide +kernel
theorem dX5_readLaw_69 : decode cX5_readLaw 69 = .ok (.aload_n 1, 1) := by decide +kernel
theorem dX5_readLaw_70 : decode cX5_readLaw 70 = .ok (.aload_n 0, 1) := by decide +kernel
theorem dX5_readLaw_71 : decode cX5_readLaw 71 = .ok (.iconst 0, 1) := by decide +kernel
theorem dX5_readLaw_72 : decode cX5_readLaw 72 = .ok (.iconst 3, 1) := by decide +kernel
theorem dX5_readLaw_73 : decode cX5_readLaw 73 = .ok (.invokevirtual 46, 3) := by decide +kernel
theorem dX5_readLaw_76 : decode cX5_readLaw 76 = .ok (.putfield 58, 3) := by decide +kernel
theorem dX5_readLaw_79 : decode cX5_readLaw 79 = .ok (.aload_n 1, 1) := by decide +kernel
theorem dX5_readLaw_80 : decode cX5_readLaw 80 = .ok (.getfield 58, 3) := by decide +kernel
theorem dX5_readLaw_83 : decode cX5_readLaw 83 = .ok (.ifCond .lt 16, 3) := by decide +kernel
theorem dX5_readLaw_86 : decode cX5_readLaw 86 = .ok (.aload_n 0, 1) := by decide +kernel
theorem dX5_readLaw_87 : decode cX5_readLaw 87 = .ok (.bipush 59, 2) := by decide +kernel
theorem dX5_readLaw_89 : decode cX5_readLaw 89 = .ok (.invokevirtual 42, 3) := by decide +kernel
theorem dX5_readLaw_92 : decode cX5_readLaw 92 = .ok (.ifCond .eq 7, 3) := by decide +kernel
theorem dX5_readLaw_95 : decode cX5_readLaw 95 = .ok (.iconst 1, 1) := by decide +kernel
theorem dX5_readLaw_96 : decode cX5_readLaw 96 = .ok (.goto 4, 3) := by decide +kernel
theorem dX5_readLaw_99 : decode cX5_readLaw 99 = .ok (.iconst 0, 1) := by decide +kernel
theorem dX5_readLaw_100 : decode cX5_readLaw 100 = .ok (.ireturn, 1) := by decide +kernel
theorem dX5_readCells_0 : decode cX5_readCells 0 = .ok (.iconst 0, 1) := by decide +kernel
theorem dX5_readCells_1 : decode cX5_readCells 1 = .ok (.istore_n 2, 1) := by decide +kernel
theorem dX5_readCells_2 : decode cX5_readCells 2 = .ok (.iload_n 2, 1) := by decide +kernel
theorem dX5_readCells_3 : decode cX5_readCells 3 = .ok (.bipush 6, 2) := by decide +kernel
theorem dX5_readCells_5 : decode cX5_readCells 5 = .ok (.if_icmp .ge 63, 3) := by decide +kernel
theorem dX5_readCells_8 : decode cX5_readCells 8 = .ok (.iload_n 2, 1) := by decide +kernel
theorem dX5_readCells_9 : decode cX5_readCells 9 = .ok (.ifCond .le 14, 3) := by decide +kernel
theorem dX5_readCells_12 : decode cX5_readCells 12 = .ok (.aload_n 0, 1) := by decide +kernel
theorem dX5_readCells_13 : decode cX5_readCells 13 = .ok (.invokevirtual 61, 3) := by decide +kernel
theorem dX5_readCells_16 : decode cX5_readCells 16 = .ok (.bipush 104, 2) := by decide +kernel
theorem dX5_readCells_18 : decode cX5_readCells 18 = .ok (.if_icmp .eq 5, 3) := by decide +kernel
theorem dX5_readCells_21 : decode cX5_readCells 21 = .ok (.iconst 1, 1) := by decide +kernel
theorem dX5_readCells_22 : decode cX5_readCells 22 = .ok (.ireturn, 1) := by decide +kernel
theorem dX5_readCells_23 : decode cX5_readCells 23 = .ok (.aload_n 0, 1) := by decide +kernel
theorem dX5_readCells_24 : decode cX5_readCells 24 = .ok (.bipush 104, 2) := by decide +kernel
theorem dX5_readCells_26 : decode cX5_readCells 26 = .ok (.invokevirtual 42, 3) := by decide +kernel
theorem dX5_readCells_29 : decode cX5_readCells 29 = .ok (.ifCond .ne 5, 3) := by decide +kernel
theorem dX5_readCells_32 : decode cX5_readCells 32 = .ok (.iconst 0, 1) := by decide +kernel
theorem dX5_readCells_33 : decode cX5_readCells 33 = .ok (.ireturn, 1) := by decide +kernel
theorem dX5_readCells_34 : decode cX5_readCells 34 = .ok (.aload_n 0, 1) := by decide +kernel
theorem dX5_readCells_35 : decode cX5_readCells 35 = .ok (.iconst 0, 1) := by decide +kernel
theorem dX5_readCells_36 : decode cX5_readCells 36 = .ok (.bipush 30, 2) := by decide +kernel
theorem dX5_readCells_38 : decode cX5_readCells 38 = .ok (.invokevirtual 46, 3) := by decide +kernel
theorem dX5_readCells_41 : decode cX5_readCells 41 = .ok (.istore_n 3, 1) := by decide +kernel
theorem dX5_readCells_42 : decode cX5_readCells 42 = .ok (.iload_n 3, 1) := by decide +kernel
theorem dX5_readCells_43 : decode cX5_readCells 43 = .ok (.ifCond .lt 12, 3) := by decide +kernel
theorem dX5_readCells_46 : decode cX5_readCells 46 = .ok (.aload_n 0, 1) := by decide +kernel
theorem dX5_readCells_47 : decode cX5_readCells 47 = .ok (.bipush 59, 2) := by decide +kernel
theorem dX5_readCells_49 : decode cX5_readCells 49 = .ok (.invokevirtual 42, 3) := by decide +kernel
theorem dX5_readCells_52 : decode cX5_readCells 52 = .ok (.ifCond .ne 5, 3) := by decide +kernel
theorem dX5_readCells_55 : decode cX5_readCells 55 = .ok (.iconst 0, 1) := by decide +kernel
theorem dX5_readCells_56 : decode cX5_readCells 56 = .ok (.ireturn, 1) := by decide +kernel
theorem dX5_readCells_57 : decode cX5_readCells 57 = .ok (.aload_n 1, 1) := by decide +kernel
theorem dX5_readCells_58 : decode cX5_readCells 58 = .ok (.iload_n 3, 1) := by decide +kernel
theorem dX5_readCells_59 : decode cX5_readCells 59 = .ok (.invokevirtual 65, 3) := by decide +kernel
theorem dX5_readCells_62 : decode cX5_readCells 62 = .ok (.iinc 2 1, 3) := by decide +kernel
theorem dX5_readCells_65 : decode cX5_readCells 65 = .ok (.goto (-63), 3) := by decide +kernel
theorem dX5_readCells_68 : decode cX5_readCells 68 = .ok (.aload_n 0, 1) := by decide +kernel
theorem dX5_readCells_69 : decode cX5_readCells 69 = .ok (.invokevirtual 61, 3) := by decide +kernel
theorem dX5_readCells_72 : decode cX5_readCells 72 = .ok (.bipush 104, 2) := by decide +kernel
theorem dX5_readCells_74 : decode cX5_readCells 74 = .ok (.if_icmp .ne 11, 3) := by decide +kernel
theorem dX5_readCells_77 : decode cX5_readCells 77 = .ok (.aload_n 0, 1) := by decide +kernel
theorem dX5_readCells_78 : decode cX5_readCells 78 = .ok (.iconst 3, 1) := by decide +kernel
theorem dX5_readCells_79 : decode cX5_readCells 79 = .ok (.invokevirtual 69, 3) := by decide +kernel
theorem dX5_readCells_82 : decode cX5_readCells 82 = .ok (.ifCond .eq 7, 3) := by decide +kernel
theorem dX5_readCells_85 : decode cX5_readCells 85 = .ok (.iconst 1, 1) := by decide +kernel
theorem dX5_readCells_86 : decode cX5_readCells 86 = .ok (.goto 4, 3) := by decide +kernel
theorem dX5_readCells_89 : decode cX5_readCells 89 = .ok (.iconst 0, 1) := by decide +kernel
theorem dX5_readCells_90 : decode cX5_readCells 90 = .ok (.ireturn, 1) := by decide +kernel
theorem dX5_readBoats_0 : decode cX5_readBoats 0 = .ok (.iconst 0, 1) := by decide +kernel
theorem dX5_readBoats_1 : decode cX5_readBoats 1 = .ok (.istore_n 2, 1) := by decide +kernel
theorem dX5_readBoats_2 : decode cX5_readBoats 2 = .ok (.iload_n 2, 1) := by decide +kernel
theorem dX5_readBoats_3 : decode cX5_readBoats 3 = .ok (.bipush 6, 2) := by decide +kernel
theorem dX5_readBoats_5 : decode cX5_readBoats 5 = .ok (.if_icmp .ge 110, 3) := by decide +kernel
theorem dX5_readBoats_8 : decode cX5_readBoats 8 = .ok (.iload_n 2, 1) := by decide +kernel
theorem dX5_readBoats_9 : decode cX5_readBoats 9 = .ok (.ifCond .le 13, 3) := by decide +kernel
theorem dX5_readBoats_12 : decode cX5_readBoats 12 = .ok (.aload_n 0, 1) := by decide +kernel
theorem dX5_readBoats_13 : decode cX5_readBoats 13 = .ok (.invokevirtual 61, 3) := by decide +kernel
theorem dX5_readBoats_16 : decode cX5_readBoats 16 = .ok (.iconst (-1), 1) := by decide +kernel
theorem dX5_readBoats_17 : decode cX5_readBoats 17 = .ok (.if_icmp .ne 5, 3) := by decide +kernel
theorem dX5_readBoats_20 : decode cX5_readBoats 20 = .ok (.iconst 1, 1) := by decide +kernel
theorem dX5_readBoats_21 : decode cX5_readBoats 21 = .ok (.ireturn, 1) := by decide +kernel
theorem dX5_readBoats_22 : decode cX5_readBoats 22 = .ok (.aload_n 0, 1) := by decide +kernel
theorem dX5_readBoats_23 : decode cX5_readBoats 23 = .ok (.invokevirtual 61, 3) := by decide +kernel
theorem dX5_readBoats_26 : decode cX5_readBoats 26 = .ok (.invokestatic 72, 3) := by decide +kernel
theorem dX5_readBoats_29 : decode cX5_readBoats 29 = .ok (.istore_n 3, 1) := by decide +kernel
theorem dX5_readBoats_30 : decode cX5_readBoats 30 = .ok (.iload_n 3, 1) := by decide +kernel
theorem dX5_readBoats_31 : decode cX5_readBoats 31 = .ok (.ifCond .ge 9, 3) := by decide +kernel
theorem dX5_readBoats_34 : decode cX5_readBoats 34 = .ok (.aload_n 0, 1) := by decide +kernel
theorem dX5_readBoats_35 : decode cX5_readBoats 35 = .ok (.iconst 1, 1) := by decide +kernel
theorem dX5_readBoats_36 : decode cX5_readBoats 36 = .ok (.invokevirtual 69, 3) := by decide +kernel
theorem dX5_readBoats_39 : decode cX5_readBoats 39 = .ok (.ireturn, 1) := by decide +kernel
theorem dX5_readBoats_40 : decode cX5_readBoats 40 = .ok (.aload_n 0, 1) := by decide +kernel
theorem dX5_readBoats_41 : decode cX5_readBoats 41 = .ok (.dup, 1) := by decide +kernel
theorem dX5_readBoats_42 : decode cX5_readBoats 42 = .ok (.getfield 22, 3) := by decide +kernel
theorem dX5_readBoats_45 : decode cX5_readBoats 45 = .ok (.iconst 1, 1) := by decide +kernel
theorem dX5_readBoats_46 : decode cX5_readBoats 46 = .ok (.iadd, 1) := by decide +kernel
theorem dX5_readBoats_47 : decode cX5_readBoats 47 = .ok (.putfield 22, 3) := by decide +kernel
theorem dX5_readBoats_50 : decode cX5_readBoats 50 = .ok (.aload_n 0, 1) := by decide +kernel
theorem dX5_readBoats_51 : decode cX5_readBoats 51 = .ok (.iconst 0, 1) := by decide +kernel
theorem dX5_readBoats_52 : decode cX5_readBoats 52 = .ok (.bipush 60, 2) := by decide +kernel
theorem dX5_readBoats_54 : decode cX5_readBoats 54 = .ok (.invokevirtual 46, 3) := by decide +kernel
theorem dX5_readBoats_57 : decode cX5_readBoats 57 = .ok (.istore 4, 2) := by decide +kernel
theorem dX5_readBoats_59 : decode cX5_readBoats 59 = .ok (.iload 4, 2) := by decide +kernel
theorem dX5_readBoats_61 : decode cX5_readBoats 61 = .ok (.ifCond .lt 12, 3) := by decide +kernel
theorem dX5_readBoats_64 : decode cX5_readBoats 64 = .ok (.aload_n 0, 1) := by decide +kernel
theorem dX5_readBoats_65 : decode cX5_readBoats 65 = .ok (.bipush 44, 2) := by decide +kernel
theorem dX5_readBoats_67 : decode cX5_readBoats 67 = .ok (.invokevirtual 42, 3) := by decide +kernel
theorem dX5_readBoats_70 : decode cX5_readBoats 70 = .ok (.ifCond .ne 5, 3) := by decide +kernel
theorem dX5_readBoats_73 : decode cX5_readBoats 73 = .ok (.iconst 0, 1) := by decide +kernel
theorem dX5_readBoats_74 : decode cX5_readBoats 74 = .ok (.ireturn, 1) := by decide +kernel
theorem dX5_readBoats_75 : decode cX5_readBoats 75 = .ok (.aload_n 0, 1) := by decide +kernel
theorem dX5_readBoats_76 : decode cX5_readBoats 76 = .ok (.iconst 1, 1) := by decide +kernel
theorem dX5_readBoats_77 : decode cX5_readBoats 77 = .ok (.bipush 9, 2) := by decide +kernel
theorem dX5_readBoats_79 : decode cX5_readBoats 79 = .ok (.invokevirtual 46, 3) := by decide +kernel
theorem dX5_readBoats_82 : decode cX5_readBoats 82 = .ok (.istore 5, 2) := by decide +kernel
theorem dX5_readBoats_84 : decode cX5_readBoats 84 = .ok (.iload 5, 2) := by decide +kernel
theorem dX5_readBoats_86 : decode cX5_readBoats 86 = .ok (.ifCond .lt 12, 3) := by decide +kernel
theorem dX5_readBoats_89 : decode cX5_readBoats 89 = .ok (.aload_n 0, 1) := by decide +kernel
theorem dX5_readBoats_90 : decode cX5_readBoats 90 = .ok (.bipush 59, 2) := by decide +kernel
theorem dX5_readBoats_92 : decode cX5_readBoats 92 = .ok (.invokevirtual 42, 3) := by decide +kernel
theorem dX5_readBoats_95 : decode cX5_readBoats 95 = .ok (.ifCond .ne 5, 3) := by decide +kernel
theorem dX5_readBoats_98 : decode cX5_readBoats 98 = .ok (.iconst 0, 1) := by decide +kernel
theorem dX5_readBoats_99 : decode cX5_readBoats 99 = .ok (.ireturn, 1) := by decide +kernel
theorem dX5_readBoats_100 : decode cX5_readBoats 100 = .ok (.aload_n 1, 1) := by decide +kernel
theorem dX5_readBoats_101 : decode cX5_readBoats 101 = .ok (.iload_n 3, 1) := by decide +kernel
theorem dX5_readBoats_102 : decode cX5_readBoats 102 = .ok (.iload 4, 2) := by decide +kernel
theorem dX5_readBoats_104 : decode cX5_readBoats 104 = .ok (.iload 5, 2) := by decide +kernel
theorem dX5_readBoats_106 : decode cX5_readBoats 106 = .ok (.invokevirtual 76, 3) := by decide +kernel
theorem dX5_readBoats_109 : decode cX5_readBoats 109 = .ok (.iinc 2 1, 3) := by decide +kernel
theorem dX5_readBoats_112 : decode cX5_readBoats 112 = .ok (.goto (-110), 3) := by decide +kernel
theorem dX5_readBoats_115 : decode cX5_readBoats 115 = .ok (.aload_n 0, 1) := by decide +kernel
theorem dX5_readBoats_116 : decode cX5_readBoats 116 = .ok (.invokevirtual 61, 3) := by decide +kernel
theorem dX5_readBoats_119 : decode cX5_readBoats 119 = .ok (.iconst (-1), 1) := by decide +kernel
theorem dX5_readBoats_120 : decode cX5_readBoats 120 = .ok (.if_icmp .eq 25, 3) := by decide +kernel
theorem dX5_readBoats_123 : decode cX5_readBoats 123 = .ok (.aload_n 0, 1) := by decide +kernel
theorem dX5_readBoats_124 : decode cX5_readBoats 124 = .ok (.aload_n 0, 1) := by decide +kernel
theorem dX5_readBoats_125 : decode cX5_readBoats 125 = .ok (.invokevirtual 61, 3) := by decide +kernel
theorem dX5_readBoats_128 : decode cX5_readBoats 128 = .ok (.invokestatic 72, 3) := by decide +kernel
theorem dX5_readBoats_131 : decode cX5_readBoats 131 = .ok (.ifCond .ge 7, 3) := by decide +kernel
theorem dX5_readBoats_134 : decode cX5_readBoats 134 = .ok (.iconst 1, 1) := by decide +kernel
theorem dX5_readBoats_135 : decode cX5_readBoats 135 = .ok (.goto 4, 3) := by decide +kernel
theorem dX5_readBoats_138 : decode cX5_readBoats 138 = .ok (.iconst 3, 1) := by decide +kernel
theorem dX5_readBoats_139 : decode cX5_readBoats 139 = .ok (.invokevirtual 69, 3) := by decide +kernel
theorem dX5_readBoats_142 : decode cX5_readBoats 142 = .ok (.ifCond .eq 7, 3) := by decide +kernel
theorem dX5_readBoats_145 : decode cX5_readBoats 145 = .ok (.iconst 1, 1) := by decide +kernel
theorem dX5_readBoats_146 : decode cX5_readBoats 146 = .ok (.goto 4, 3) := by decide +kernel
theorem dX5_readBoats_149 : decode cX5_readBoats 149 = .ok (.iconst 0, 1) := by decide +kernel
theorem dX5_readBoats_150 : decode cX5_readBoats 150 = .ok (.ireturn, 1) := by decide +kernel
theorem dX5_next_0 : decode cX5_next 0 = .ok (.aload_n 0, 1) := by decide +kernel
theorem dX5_next_1 : decode cX5_next 1 = .ok (.getfield 22, 3) := by decide +kernel
theorem dX5_next_4 : decode cX5_next 4 = .ok (.aload_n 0, 1) := by decide +kernel
theorem dX5_next_5 : decode cX5_next 5 = .ok (.getfield 15, 3) := by decide +kernel
theorem dX5_next_8 : decode cX5_next 8 = .ok (.if_icmp .ge 15, 3) := by decide +kernel
theorem dX5_next_11 : decode cX5_next 11 = .ok (.aload_n 0, 1) := by decide +kernel
theorem dX5_next_12 : decode cX5_next 12 = .ok (.getfield 11, 3) := by decide +kernel
theorem dX5_next_15 : decode cX5_next 15 = .ok (.aload_n 0, 1) := by decide +kernel
theorem dX5_next_16 : decode cX5_next 16 = .ok (.getfield 22, 3) := by decide +kernel
theorem dX5_next_19 : decode cX5_next 19 = .ok (.iaload, 1) := by decide +kernel
theorem dX5_next_20 : decode cX5_next 20 = .ok (.goto 4, 3) := by decide +kernel
theorem dX5_next_23 : decode cX5_next 23 = .ok (.iconst (-1), 1) := by decide +kernel
theorem dX5_next_24 : decode cX5_next 24 = .ok (.ireturn, 1) := by decide +kernel
theorem dX5_take_0 : decode cX5_take 0 = .ok (.aload_n 0, 1) := by decide +kernel
theorem dX5_take_1 : decode cX5_take 1 = .ok (.invokevirtual 61, 3) := by decide +kernel
theorem dX5_take_4 : decode cX5_take 4 = .ok (.iload_n 1, 1) := by decide +kernel
theorem dX5_take_5 : decode cX5_take 5 = .ok (.if_icmp .eq 9, 3) := by decide +kernel
theorem dX5_take_8 : decode cX5_take 8 = .ok (.aload_n 0, 1) := by decide +kernel
theorem dX5_take_9 : decode cX5_take 9 = .ok (.iconst 1, 1) := by decide +kernel
theorem dX5_take_10 : decode cX5_take 10 = .ok (.invokevirtual 69, 3) := by decide +kernel
theorem dX5_take_13 : decode cX5_take 13 = .ok (.ireturn, 1) := by decide +kernel
theorem dX5_take_14 : decode cX5_take 14 = .ok (.aload_n 0, 1) := by decide +kernel
theorem dX5_take_15 : decode cX5_take 15 = .ok (.dup, 1) := by decide +kernel
theorem dX5_take_16 : decode cX5_take 16 = .ok (.getfield 22, 3) := by decide +kernel
theorem dX5_take_19 : decode cX5_take 19 = .ok (.iconst 1, 1) := by decide +kernel
theorem dX5_take_20 : decode cX5_take 20 = .ok (.iadd, 1) := by decide +kernel
theorem dX5_take_21 : decode cX5_take 21 = .ok (.putfield 22, 3) := by decide +kernel
theorem dX5_take_24 : decode cX5_take 24 = .ok (.iconst 1, 1) := by decide +kernel
theorem dX5_take_25 : decode cX5_take 25 = .ok (.ireturn, 1) := by decide +kernel
theorem dX5_number_0 : decode cX5_number 0 = .ok (.aload_n 0, 1) := by decide +kernel
theorem dX5_number_1 : decode cX5_number 1 = .ok (.getfield 22, 3) := by decide +kernel
theorem dX5_number_4 : decode cX5_number 4 = .ok (.istore_n 3, 1) := by decide +kernel
theorem dX5_number_5 : decode cX5_number 5 = .ok (.iconst 0, 1) := by decide +kernel
theorem dX5_number_6 : decode cX5_number 6 = .ok (.istore 4, 2) := by decide +kernel
theorem dX5_number_8 : decode cX5_number 8 = .ok (.iload_n 3, 1) := by decide +kernel
theorem dX5_number_9 : decode cX5_number 9 = .ok (.aload_n 0, 1) := by decide +kernel
theorem dX5_number_10 : decode cX5_number 10 = .ok (.getfield 15, 3) := by decide +kernel
theorem dX5_number_13 : decode cX5_number 13 = .ok (.if_icmp .ge 52, 3) := by decide +kernel
theorem dX5_number_16 : decode cX5_number 16 = .ok (.aload_n 0, 1) := by decide +kernel
theorem dX5_number_17 : decode cX5_number 17 = .ok (.getfield 11, 3) := by decide +kernel
theorem dX5_number_20 : decode cX5_number 20 = .ok (.iload_n 3, 1) := by decide +kernel
theorem dX5_number_21 : decode cX5_number 21 = .ok (.iaload, 1) := by decide +kernel
theorem dX5_number_22 : decode cX5_number 22 = .ok (.bipush 48, 2) := by decide +kernel
theorem dX5_number_24 : decode cX5_number 24 = .ok (.bipush 57, 2) := by decide +kernel
theorem dX5_number_26 : decode cX5_number 26 = .ok (.invokestatic 80, 3) := by decide +kernel
theorem dX5_number_29 : decode cX5_number 29 = .ok (.ifCond .eq 36, 3) := by decide +kernel
theorem dX5_number_32 : decode cX5_number 32 = .ok (.iload_n 3, 1) := by decide +kernel
theorem dX5_number_33 : decode cX5_number 33 = .ok (.aload_n 0, 1) := by decide +kernel
theorem dX5_number_34 : decode cX5_number 34 = .ok (.getfield 22, 3) := by decide +kernel
theorem dX5_number_37 : decode cX5_number 37 = .ok (.isub, 1) := by decide +kernel
theorem dX5_number_38 : decode cX5_number 38 = .ok (.iconst 3, 1) := by decide +kernel
theorem dX5_number_39 : decode cX5_number 39 = .ok (.if_icmp .ge 26, 3) := by decide +kernel
theorem dX5_number_42 : decode cX5_number 42 = .ok (.iload 4, 2) := by decide +kernel
theorem dX5_number_44 : decode cX5_number 44 = .ok (.bipush 10, 2) := by decide +kernel
theorem dX5_number_46 : decode cX5_number 46 = .ok (.imul, 1) := by decide +kernel
theorem dX5_number_47 : decode cX5_number 47 = .ok (.aload_n 0, 1) := by decide +kernel
theorem dX5_number_48 : decode cX5_number 48 = .ok (.getfield 11, 3) := by decide +kernel
theorem dX5_number_51 : decode cX5_number 51 = .ok (.iload_n 3, 1) := by decide +kernel
theorem dX5_number_52 : decode cX5_number 52 = .ok (.iaload, 1) := by decide +kernel
theorem dX5_number_53 : decode cX5_number 53 = .ok (.iadd, 1) := by decide +kernel
theorem dX5_number_54 : decode cX5_number 54 = .ok (.bipush 48, 2) := by decide +kernel
theorem dX5_number_56 : decode cX5_number 56 = .ok (.isub, 1) := by decide +kernel
theorem dX5_number_57 : decode cX5_number 57 = .ok (.istore 4, 2) := by decide +kernel
theorem dX5_number_59 : decode cX5_number 59 = .ok (.iinc 3 1, 3) := by decide +kernel
theorem dX5_number_62 : decode cX5_number 62 = .ok (.goto (-54), 3) := by decide +kernel
theorem dX5_number_65 : decode cX5_number 65 = .ok (.iload_n 3, 1) := by decide +kernel
theorem dX5_number_66 : decode cX5_number 66 = .ok (.aload_n 0, 1) := by decide +kernel
theorem dX5_number_67 : decode cX5_number 67 = .ok (.getfield 22, 3) := by decide +kernel
theorem dX5_number_70 : decode cX5_number 70 = .ok (.isub, 1) := by decide +kernel
theorem dX5_number_71 : decode cX5_number 71 = .ok (.iconst 1, 1) := by decide +kernel
theorem dX5_number_72 : decode cX5_number 72 = .ok (.iconst 2, 1) := by decide +kernel
theorem dX5_number_73 : decode cX5_number 73 = .ok (.invokestatic 80, 3) := by decide +kernel
theorem dX5_number_76 : decode cX5_number 76 = .ok (.istore 5, 2) := by decide +kernel
theorem dX5_number_78 : decode cX5_number 78 = .ok (.iload 5, 2) := by decide +kernel
theorem dX5_number_80 : decode cX5_number 80 = .ok (.ifCond .eq 13, 3) := by decide +kernel
theorem dX5_number_83 : decode cX5_number 83 = .ok (.iload 4, 2) := by decide +kernel
theorem dX5_number_85 : decode cX5_number 85 = .ok (.iload_n 1, 1) := by decide +kernel
theorem dX5_number_86 : decode cX5_number 86 = .ok (.iload_n 2, 1) := by decide +kernel
theorem dX5_number_87 : decode cX5_number 87 = .ok (.invokestatic 80, 3) := by decide +kernel
theorem dX5_number_90 : decode cX5_number 90 = .ok (.ifCond .ne 20, 3) := by decide +kernel
theorem dX5_number_93 : decode cX5_number 93 = .ok (.aload_n 0, 1) := by decide +kernel
theorem dX5_number_94 : decode cX5_number 94 = .ok (.iload 5, 2) := by decide +kernel
theorem dX5_number_96 : decode cX5_number 96 = .ok (.ifCond .eq 7, 3) := by decide +kernel
theorem dX5_number_99 : decode cX5_number 99 = .ok (.iconst 2, 1) := by decide +kernel
theorem dX5_number_100 : decode cX5_number 100 = .ok (.goto 4, 3) := by decide +kernel
theorem dX5_number_103 : decode cX5_number 103 = .ok (.iconst 1, 1) := by decide +kernel
theorem dX5_number_104 : decode cX5_number 104 = .ok (.invokevirtual 69, 3) := by decide +kernel
theorem dX5_number_107 : decode cX5_number 107 = .ok (.pop, 1) := by decide +kernel
theorem dX5_number_108 : decode cX5_number 108 = .ok (.iconst (-1), 1) := by decide +kernel
theorem dX5_number_109 : decode cX5_number 109 = .ok (.ireturn, 1) := by decide +kernel
theorem dX5_number_110 : decode cX5_number 110 = .ok (.aload_n 0, 1) := by decide +kernel
theorem dX5_number_111 : decode cX5_number 111 = .ok (.iload_n 3, 1) := by decide +kernel
theorem dX5_number_112 : decode cX5_number 112 = .ok (.putfield 22, 3) := by decide +kernel
theorem dX5_number_115 : decode cX5_number 115 = .ok (.iload 4, 2) := by decide +kernel
theorem dX5_number_117 : decode cX5_number 117 = .ok (.ireturn, 1) := by decide +kernel
theorem dX5_refuse_0 : decode cX5_refuse 0 = .ok (.aload_n 0, 1) := by decide +kernel
theorem dX5_refuse_1 : decode cX5_refuse 1 = .ok (.iload_n 1, 1) := by decide +kernel
theorem dX5_refuse_2 : decode cX5_refuse 2 = .ok (.putfield 19, 3) := by decide +kernel
theorem dX5_refuse_5 : decode cX5_refuse 5 = .ok (.aload_n 0, 1) := by decide +kernel
theorem dX5_refuse_6 : decode cX5_refuse 6 = .ok (.aload_n 0, 1) := by decide +kernel
theorem dX5_refuse_7 : decode cX5_refuse 7 = .ok (.getfield 22, 3) := by decide +kernel
theorem dX5_refuse_10 : decode cX5_refuse 10 = .ok (.putfield 25, 3) := by decide +kernel
theorem dX5_refuse_13 : decode cX5_refuse 13 = .ok (.iconst 0, 1) := by decide +kernel
theorem dX5_refuse_14 : decode cX5_refuse 14 = .ok (.ireturn, 1) := by decide +kernel
theorem dX5_sortOf_0 : decode cX5_sortOf 0 = .ok (.iload_n 0, 1) := by decide +kernel
theorem dX5_sortOf_1 : decode cX5_sortOf 1 = .ok (.lookupswitch 61 #[(99, 53), (102, 57), (111, 55), (114, 59), (115, 51)], 51) := by decide +kernel
theorem dX5_sortOf_52 : decode cX5_sortOf 52 = .ok (.iconst 1, 1) := by decide +kernel
theorem dX5_sortOf_53 : decode cX5_sortOf 53 = .ok (.ireturn, 1) := by decide +kernel
theorem dX5_sortOf_54 : decode cX5_sortOf 54 = .ok (.iconst 2, 1) := by decide +kernel
theorem dX5_sortOf_55 : decode cX5_sortOf 55 = .ok (.ireturn, 1) := by decide +kernel
theorem dX5_sortOf_56 : decode cX5_sortOf 56 = .ok (.iconst 3, 1) := by decide +kernel
theorem dX5_sortOf_57 : decode cX5_sortOf 57 = .ok (.ireturn, 1) := by decide +kernel
theorem dX5_sortOf_58 : decode cX5_sortOf 58 = .ok (.iconst 4, 1) := by decide +kernel
theorem dX5_sortOf_59 : decode cX5_sortOf 59 = .ok (.ireturn, 1) := by decide +kernel
theorem dX5_sortOf_60 : decode cX5_sortOf 60 = .ok (.iconst 5, 1) := by decide +kernel
theorem dX5_sortOf_61 : decode cX5_sortOf 61 = .ok (.ireturn, 1) := by decide +kernel
theorem dX5_sortOf_62 : decode cX5_sortOf 62 = .ok (.iconst (-1), 1) := by decide +kernel
theorem dX5_sortOf_63 : decode cX5_sortOf 63 = .ok (.ireturn, 1) := by decide +kernel
theorem dX6_init_0 : decode cX6_init 0 = .ok (.aload_n 0, 1) := by decide +kernel
theorem dX6_init_1 : decode cX6_init 1 = .ok (.invokespecial 1, 3) := by decide +kernel
theorem dX6_init_4 : decode cX6_init 4 = .ok (.aload_n 0, 1) := by decide +kernel
theorem dX6_init_5 : decode cX6_init 5 = .ok (.new 7, 3) := by decide +kernel
theorem dX6_init_8 : decode cX6_init 8 = .ok (.dup, 1) := by decide +kernel
theorem dX6_init_9 : decode cX6_init 9 = .ok (.invokespecial 9, 3) := by decide +kernel
theorem dX6_init_12 : decode cX6_init 12 = .ok (.putfield 10, 3) := by decide +kernel
theorem dX6_init_15 : decode cX6_init 15 = .ok (.aload_n 0, 1) := by decide +kernel
theorem dX6_init_16 : decode cX6_init 16 = .ok (.new 16, 3) := by decide +kernel
theorem dX6_init_19 : decode cX6_init 19 = .ok (.dup, 1) := by decide +kernel
theorem dX6_init_20 : decode cX6_init 20 = .ok (.invokespecial 18, 3) := by decide +kernel
theorem dX6_init_23 : decode cX6_init 23 = .ok (.putfield 19, 3) := by decide +kernel
theorem dX6_init_26 : decode cX6_init 26 = .ok (.aload_n 0, 1) := by decide +kernel
theorem dX6_init_27 : decode cX6_init 27 = .ok (.new 23, 3) := by decide +kernel
theorem dX6_init_30 : decode cX6_init 30 = .ok (.dup, 1) := by decide +kernel
theorem dX6_init_31 : decode cX6_init 31 = .ok (.invokespecial 25, 3) := by decide +kernel
theorem dX6_init_34 : decode cX6_init 34 = .ok (.putfield 26, 3) := by decide +kernel
theorem dX6_init_37 : decode cX6_init 37 = .ok (.aload_n 0, 1) := by decide +kernel
theorem dX6_init_38 : decode cX6_init 38 = .ok (.iconst 2, 1) := by decide +kernel
theorem dX6_init_39 : decode cX6_init 39 = .ok (.anewarray 30, 3) := by decide +kernel
theorem dX6_init_42 : decode cX6_init 42 = .ok (.dup, 1) := by decide +kernel
theorem dX6_init_43 : decode cX6_init 43 = .ok (.iconst 0, 1) := by decide +kernel
theorem dX6_init_44 : decode cX6_init 44 = .ok (.new 30, 3) := by decide +kernel
theorem dX6_init_47 : decode cX6_init 47 = .ok (.dup, 1) := by decide +kernel
theorem dX6_init_48 : decode cX6_init 48 = .ok (.invokespecial 32, 3) := by decide +kernel
theorem dX6_init_51 : decode cX6_init 51 = .ok (.aastore, 1) := by decide +kernel
theorem dX6_init_52 : decode cX6_init 52 = .ok (.dup, 1) := by decide +kernel
theorem dX6_init_53 : decode cX6_init 53 = .ok (.iconst 1, 1) := by decide +kernel
theorem dX6_init_54 : decode cX6_init 54 = .ok (.new 30, 3) := by decide +kernel
theorem dX6_init_57 : decode cX6_init 57 = .ok (.dup, 1) := by decide +kernel
theorem dX6_init_58 : decode cX6_init 58 = .ok (.invokespecial 32, 3) := by decide +kernel
theorem dX6_init_61 : decode cX6_init 61 = .ok (.aastore, 1) := by decide +kernel
theorem dX6_init_62 : decode cX6_init 62 = .ok (.putfield 33, 3) := by decide +kernel
theorem dX6_init_65 : decode cX6_init 65 = .ok (.aload_n 0, 1) := by decide +kernel
theorem dX6_init_66 : decode cX6_init 66 = .ok (.iconst 0, 1) := by decide +kernel
theorem dX6_init_67 : decode cX6_init 67 = .ok (.putfield 37, 3) := by decide +kernel
theorem dX6_init_70 : decode cX6_init 70 = .ok (.new 30, 3) := by decide +kernel
theorem dX6_init_73 : decode cX6_init 73 = .ok (.dup, 1) := by decide +kernel
theorem dX6_init_74 : decode cX6_init 74 = .ok (.invokespecial 32, 3) := by decide +kernel
theorem dX6_init_77 : decode cX6_init 77 = .ok (.astore_n 1, 1) := by decide +kernel
theorem dX6_init_78 : decode cX6_init 78 = .ok (.aload_n 0, 1) := by decide +kernel
theorem dX6_init_79 : decode cX6_init 79 = .ok (.aload_n 1, 1) := by decide +kernel
theorem dX6_init_80 : decode cX6_init 80 = .ok (.putfield 41, 3) := by decide +kernel
theorem dX6_init_83 : decode cX6_init 83 = .ok (.aload_n 0, 1) := by decide +kernel
theorem dX6_init_84 : decode cX6_init 84 = .ok (.new 45, 3) := by decide +kernel
theorem dX6_init_87 : decode cX6_init 87 = .ok (.dup, 1) := by decide +kernel
theorem dX6_init_88 : decode cX6_init 88 = .ok (.aload_n 1, 1) := by decide +kernel
theorem dX6_init_89 : decode cX6_init 89 = .ok (.invokespecial 47, 3) := by decide +kernel
theorem dX6_init_92 : decode cX6_init 92 = .ok (.putfield 50, 3) := by decide +kernel
theorem dX6_init_95 : decode cX6_init 95 = .ok (.aload_n 0, 1) := by decide +kernel
theorem dX6_init_96 : decode cX6_init 96 = .ok (.new 54, 3) := by decide +kernel
theorem dX6_init_99 : decode cX6_init 99 = .ok (.dup, 1) := by decide +kernel
theorem dX6_init_100 : decode cX6_init 100 = .ok (.aload_n 1, 1) := by decide +kernel
theorem dX6_init_101 : decode cX6_init 101 = .ok (.invokespecial 56, 3) := by decide +kernel
theorem dX6_init_104 : decode cX6_init 104 = .ok (.putfield 57, 3) := by decide +kernel
theorem dX6_init_107 : decode cX6_init 107 = .ok (.return_, 1) := by decide +kernel
theorem dX6_row_0 : decode cX6_row 0 = .ok (.iload_n 1, 1) := by decide +kernel
theorem dX6_row_1 : decode cX6_row 1 = .ok (.invokestatic 61, 3) := by decide +kernel
theorem dX6_row_4 : decode cX6_row 4 = .ok (.ifCond .eq 18, 3) := by decide +kernel
theorem dX6_row_7 : decode cX6_row 7 = .ok (.iload_n 2, 1) := by decide +kernel
theorem dX6_row_8 : decode cX6_row 8 = .ok (.iconst 0, 1) := by decide +kernel
theorem dX6_row_9 : decode cX6_row 9 = .ok (.iconst 2, 1) := by decide +kernel
theorem dX6_row_10 : decode cX6_row 10 = .ok (.invokestatic 65, 3) := by decide +kernel
theorem dX6_row_13 : decode cX6_row 13 = .ok (.ifCond .eq 9, 3) := by decide +kernel
theorem dX6_row_16 : decode cX6_row 16 = .ok (.iload_n 3, 1) := by decide +kernel
theorem dX6_row_17 : decode cX6_row 17 = .ok (.bipush 40, 2) := by decide +kernel
theorem dX6_row_19 : decode cX6_row 19 = .ok (.if_icmp .le 6, 3) := by decide +kernel
theorem dX6_row_22 : decode cX6_row 22 = .ok (.ldc 69, 2) := by decide +kernel
theorem dX6_row_24 : decode cX6_row 24 = .ok (.ireturn, 1) := by decide +kernel
theorem dX6_row_25 : decode cX6_row 25 = .ok (.iload_n 3, 1) := by decide +kernel
theorem dX6_row_26 : decode cX6_row 26 = .ok (.ifCond .ge 9, 3) := by decide +kernel
theorem dX6_row_29 : decode cX6_row 29 = .ok (.aload_n 0, 1) := by decide +kernel
theorem dX6_row_30 : decode cX6_row 30 = .ok (.iconst 4, 1) := by decide +kernel
theorem dX6_row_31 : decode cX6_row 31 = .ok (.invokevirtual 70, 3) := by decide +kernel
theorem dX6_row_34 : decode cX6_row 34 = .ok (.ireturn, 1) := by decide +kernel
theorem dX6_row_35 : decode cX6_row 35 = .ok (.aload_n 0, 1) := by decide +kernel
theorem dX6_row_36 : decode cX6_row 36 = .ok (.getfield 10, 3) := by decide +kernel
theorem dX6_row_39 : decode cX6_row 39 = .ok (.iload_n 1, 1) := by decide +kernel
theorem dX6_row_40 : decode cX6_row 40 = .ok (.iload_n 2, 1) := by decide +kernel
theorem dX6_row_41 : decode cX6_row 41 = .ok (.iload_n 3, 1) := by decide +kernel
theorem dX6_row_42 : decode cX6_row 42 = .ok (.invokevirtual 74, 3) := by decide +kernel
theorem dX6_row_45 : decode cX6_row 45 = .ok (.aload_n 0, 1) := by decide +kernel
theorem dX6_row_46 : decode cX6_row 46 = .ok (.iload_n 3, 1) := by decide +kernel
theorem dX6_row_47 : decode cX6_row 47 = .ok (.invokevirtual 78, 3) := by decide +kernel
theorem dX6_row_50 : decode cX6_row 50 = .ok (.ireturn, 1) := by decide +kernel
theorem dX6_set_0 : decode cX6_set 0 = .ok (.iload_n 1, 1) := by decide +kernel
theorem dX6_set_1 : decode cX6_set 1 = .ok (.invokestatic 61, 3) := by decide +kernel
theorem dX6_set_4 : decode cX6_set 4 = .ok (.ifCond .ne 6, 3) := by decide +kernel
theorem dX6_set_7 : decode cX6_set 7 = .ok (.ldc 69, 2) := by decide +kernel
theorem dX6_set_9 : decode cX6_set 9 = .ok (.ireturn, 1) := by decide +kernel
theorem dX6_set_10 : decode cX6_set 10 = .ok (.aload_n 0, 1) := by decide +kernel
theorem dX6_set_11 : decode cX6_set 11 = .ok (.getfield 10, 3) := by decide +kernel
theorem dX6_set_14 : decode cX6_set 14 = .ok (.iload_n 1, 1) := by decide +kernel
theorem dX6_set_15 : decode cX6_set 15 = .ok (.invokevirtual 81, 3) := by decide +kernel
theorem dX6_set_18 : decode cX6_set 18 = .ok (.ifCond .eq 9, 3) := by decide +kernel
theorem dX6_set_21 : decode cX6_set 21 = .ok (.aload_n 0, 1) := by decide +kernel
theorem dX6_set_22 : decode cX6_set 22 = .ok (.iconst 1, 1) := by decide +kernel
theorem dX6_set_23 : decode cX6_set 23 = .ok (.invokevirtual 70, 3) := by decide +kernel
theorem dX6_set_26 : decode cX6_set 26 = .ok (.ireturn, 1) := by decide +kernel
theorem dX6_set_27 : decode cX6_set 27 = .ok (.aload_n 0, 1) := by decide +kernel
theorem dX6_set_28 : decode cX6_set 28 = .ok (.getfield 10, 3) := by decide +kernel
theorem dX6_set_31 : decode cX6_set 31 = .ok (.iload_n 1, 1) := by decide +kernel
theorem dX6_set_32 : decode cX6_set 32 = .ok (.iload_n 2, 1) := by decide +kernel
theorem dX6_set_33 : decode cX6_set 33 = .ok (.iconst 1, 1) := by decide +kernel
theorem dX6_set_34 : decode cX6_set 34 = .ok (.invokevirtual 84, 3) := by decide +kernel
theorem dX6_set_37 : decode cX6_set 37 = .ok (.ifCond .ne 9, 3) := by decide +kernel
theorem dX6_set_40 : decode cX6_set 40 = .ok (.aload_n 0, 1) := by decide +kernel
theorem dX6_set_41 : decode cX6_set 41 = .ok (.iconst 2, 1) := by decide +kernel
theorem dX6_set_42 : decode cX6_set 42 = .ok (.invokevirtual 70, 3) := by decide +kernel
theorem dX6_set_45 : decode cX6_set 45 = .ok (.ireturn, 1) := by decide +kernel
theorem dX6_set_46 : decode cX6_set 46 = .ok (.aload_n 0, 1) := by decide +kernel
theorem dX6_set_47 : decode cX6_set 47 = .ok (.aload_n 0, 1) := by decide +kernel
theorem dX6_set_48 : decode cX6_set 48 = .ok (.getfield 10, 3) := by decide +kernel
theorem dX6_set_51 : decode cX6_set 51 = .ok (.iload_n 1, 1) := by decide +kernel
theorem dX6_set_52 : decode cX6_set 52 = .ok (.iload_n 2, 1) := by decide +kernel
theorem dX6_set_53 : decode cX6_set 53 = .ok (.iload_n 3, 1) := by decide +kernel
theorem dX6_set_54 : decode cX6_set 54 = .ok (.invokevirtual 87, 3) := by decide +kernel
theorem dX6_set_57 : decode cX6_set 57 = .ok (.invokevirtual 78, 3) := by decide +kernel
theorem dX6_set_60 : decode cX6_set 60 = .ok (.ireturn, 1) := by decide +kernel
theorem dX6_copy_0 : decode cX6_copy 0 = .ok (.iload_n 1, 1) := by decide +kernel
theorem dX6_copy_1 : decode cX6_copy 1 = .ok (.invokestatic 61, 3) := by decide +kernel
theorem dX6_copy_4 : decode cX6_copy 4 = .ok (.ifCond .eq 10, 3) := by decide +kernel
theorem dX6_copy_7 : decode cX6_copy 7 = .ok (.iload_n 3, 1) := by decide +kernel
theorem dX6_copy_8 : decode cX6_copy 8 = .ok (.invokestatic 61, 3) := by decide +kernel
theorem dX6_copy_11 : decode cX6_copy 11 = .ok (.ifCond .ne 6, 3) := by decide +kernel
theorem dX6_copy_14 : decode cX6_copy 14 = .ok (.ldc 69, 2) := by decide +kernel
theorem dX6_copy_16 : decode cX6_copy 16 = .ok (.ireturn, 1) := by decide +kernel
theorem dX6_copy_17 : decode cX6_copy 17 = .ok (.aload_n 0, 1) := by decide +kernel
theorem dX6_copy_18 : decode cX6_copy 18 = .ok (.getfield 10, 3) := by decide +kernel
theorem dX6_copy_21 : decode cX6_copy 21 = .ok (.iload_n 1, 1) := by decide +kernel
theorem dX6_copy_22 : decode cX6_copy 22 = .ok (.invokevirtual 81, 3) := by decide +kernel
theorem dX6_copy_25 : decode cX6_copy 25 = .ok (.ifCond .ne 14, 3) := by decide +kernel
theorem dX6_copy_28 : decode cX6_copy 28 = .ok (.aload_n 0, 1) := by decide +kernel
theorem dX6_copy_29 : decode cX6_copy 29 = .ok (.getfield 10, 3) := by decide +kernel
theorem dX6_copy_32 : decode cX6_copy 32 = .ok (.iload_n 3, 1) := by decide +kernel
theorem dX6_copy_33 : decode cX6_copy 33 = .ok (.invokevirtual 81, 3) := by decide +kernel
theorem dX6_copy_36 : decode cX6_copy 36 = .ok (.ifCond .eq 9, 3) := by decide +kernel
theorem dX6_copy_39 : decode cX6_copy 39 = .ok (.aload_n 0, 1) := by decide +kernel
theorem dX6_copy_40 : decode cX6_copy 40 = .ok (.iconst 1, 1) := by decide +kernel
theorem dX6_copy_41 : decode cX6_copy 41 = .ok (.invokevirtual 70, 3) := by decide +kernel
theorem dX6_copy_44 : decode cX6_copy 44 = .ok (.ireturn, 1) := by decide +kernel
theorem dX6_copy_45 : decode cX6_copy 45 = .ok (.aload_n 0, 1) := by decide +kernel
theorem dX6_copy_46 : decode cX6_copy 46 = .ok (.getfield 10, 3) := by decide +kernel
theorem dX6_copy_49 : decode cX6_copy 49 = .ok (.iload_n 1, 1) := by decide +kernel
theorem dX6_copy_50 : decode cX6_copy 50 = .ok (.iload_n 3, 1) := by decide +kernel
theorem dX6_copy_51 : decode cX6_copy 51 = .ok (.invokevirtual 91, 3) := by decide +kernel
theorem dX6_copy_54 : decode cX6_copy 54 = .ok (.ifCond .ne 9, 3) := by decide +kernel
theorem dX6_copy_57 : decode cX6_copy 57 = .ok (.aload_n 0, 1) := by decide +kernel
theorem dX6_copy_58 : decode cX6_copy 58 = .ok (.iconst 5, 1) := by decide +kernel
theorem dX6_copy_59 : decode cX6_copy 59 = .ok (.invokevirtual 70, 3) := by decide +kernel
theorem dX6_copy_62 : decode cX6_copy 62 = .ok (.ireturn, 1) := by decide +kernel
theorem dX6_copy_63 : decode cX6_copy 63 = .ok (.aload_n 0, 1) := by decide +kernel
theorem dX6_copy_64 : decode cX6_copy 64 = .ok (.getfield 10, 3) := by decide +kernel
theorem dX6_copy_67 : decode cX6_copy 67 = .ok (.iload_n 1, 1) := by decide +kernel
theorem dX6_copy_68 : decode cX6_copy 68 = .ok (.iload_n 2, 1) := by decide +kernel
theorem dX6_copy_69 : decode cX6_copy 69 = .ok (.iload 5, 2) := by decide +kernel
theorem dX6_copy_71 : decode cX6_copy 71 = .ok (.invokevirtual 84, 3) := by decide +kernel
theorem dX6_copy_74 : decode cX6_copy 74 = .ok (.ifCond .eq 18, 3) := by decide +kernel
theorem dX6_copy_77 : decode cX6_copy 77 = .ok (.aload_n 0, 1) := by decide +kernel
theorem dX6_copy_78 : decode cX6_copy 78 = .ok (.getfield 10, 3) := by decide +kernel
theorem dX6_copy_81 : decode cX6_copy 81 = .ok (.iload_n 3, 1) := by decide +kernel
theorem dX6_copy_82 : decode cX6_copy 82 = .ok (.iload 4, 2) := by decide +kernel
theorem dX6_copy_84 : decode cX6_copy 84 = .ok (.iload 5, 2) := by decide +kernel
theorem dX6_copy_86 : decode cX6_copy 86 = .ok (.invokevirtual 84, 3) := by decide +kernel
theorem dX6_copy_89 : decode cX6_copy 89 = .ok (.ifCond .ne 9, 3) := by decide +kernel
theorem dX6_copy_92 : decode cX6_copy 92 = .ok (.aload_n 0, 1) := by decide +kernel
theorem dX6_copy_93 : decode cX6_copy 93 = .ok (.iconst 2, 1) := by decide +kernel
theorem dX6_copy_94 : decode cX6_copy 94 = .ok (.invokevirtual 70, 3) := by decide +kernel
theorem dX6_copy_97 : decode cX6_copy 97 = .ok (.ireturn, 1) := by decide +kernel
theorem dX6_copy_98 : decode cX6_copy 98 = .ok (.aload_n 0, 1) := by decide +kernel
theorem dX6_copy_99 : decode cX6_copy 99 = .ok (.getfield 10, 3) := by decide +kernel
theorem dX6_copy_102 : decode cX6_copy 102 = .ok (.iload_n 1, 1) := by decide +kernel
theorem dX6_copy_103 : decode cX6_copy 103 = .ok (.iload_n 2, 1) := by decide +kernel
theorem dX6_copy_104 : decode cX6_copy 104 = .ok (.iload_n 3, 1) := by decide +kernel
theorem dX6_copy_105 : decode cX6_copy 105 = .ok (.iload 4, 2) := by decide +kernel
theorem dX6_copy_107 : decode cX6_copy 107 = .ok (.iload 5, 2) := by decide +kernel
theorem dX6_copy_109 : decode cX6_copy 109 = .ok (.invokevirtual 95, 3) := by decide +kernel
theorem dX6_copy_112 : decode cX6_copy 112 = .ok (.aload_n 0, 1) := by decide +kernel
theorem dX6_copy_113 : decode cX6_copy 113 = .ok (.iload 5, 2) := by decide +kernel
theorem dX6_copy_115 : decode cX6_copy 115 = .ok (.invokevirtual 78, 3) := by decide +kernel
theorem dX6_copy_118 : decode cX6_copy 118 = .ok (.ireturn, 1) := by decide +kernel
theorem dX6_drop_0 : decode cX6_drop 0 = .ok (.iload_n 1, 1) := by decide +kernel
theorem dX6_drop_1 : decode cX6_drop 1 = .ok (.invokestatic 61, 3) := by decide +kernel
theorem dX6_drop_4 : decode cX6_drop 4 = .ok (.ifCond .ne 6, 3) := by decide +kernel
theorem dX6_drop_7 : decode cX6_drop 7 = .ok (.ldc 69, 2) := by decide +kernel
theorem dX6_drop_9 : decode cX6_drop 9 = .ok (.ireturn, 1) := by decide +kernel
theorem dX6_drop_10 : decode cX6_drop 10 = .ok (.aload_n 0, 1) := by decide +kernel
theorem dX6_drop_11 : decode cX6_drop 11 = .ok (.getfield 10, 3) := by decide +kernel
theorem dX6_drop_14 : decode cX6_drop 14 = .ok (.iload_n 1, 1) := by decide +kernel
theorem dX6_drop_15 : decode cX6_drop 15 = .ok (.invokevirtual 81, 3) := by decide +kernel
theorem dX6_drop_18 : decode cX6_drop 18 = .ok (.ifCond .eq 9, 3) := by decide +kernel
theorem dX6_drop_21 : decode cX6_drop 21 = .ok (.aload_n 0, 1) := by decide +kernel
theorem dX6_drop_22 : decode cX6_drop 22 = .ok (.iconst 1, 1) := by decide +kernel
theorem dX6_drop_23 : decode cX6_drop 23 = .ok (.invokevirtual 70, 3) := by decide +kernel
theorem dX6_drop_26 : decode cX6_drop 26 = .ok (.ireturn, 1) := by decide +kernel
theorem dX6_drop_27 : decode cX6_drop 27 = .ok (.aload_n 0, 1) := by decide +kernel
theorem dX6_drop_28 : decode cX6_drop 28 = .ok (.aload_n 0, 1) := by decide +kernel
theorem dX6_drop_29 : decode cX6_drop 29 = .ok (.getfield 10, 3) := by decide +kernel
theorem dX6_drop_32 : decode cX6_drop 32 = .ok (.iload_n 1, 1) := by decide +kernel
theorem dX6_drop_33 : decode cX6_drop 33 = .ok (.invokevirtual 99, 3) := by decide +kernel
theorem dX6_drop_36 : decode cX6_drop 36 = .ok (.invokevirtual 78, 3) := by decide +kernel
theorem dX6_drop_39 : decode cX6_drop 39 = .ok (.ireturn, 1) := by decide +kernel
theorem dX6_feed_0 : decode cX6_feed 0 = .ok (.iload_n 1, 1) := by decide +kernel
theorem dX6_feed_1 : decode cX6_feed 1 = .ok (.iconst 0, 1) := by decide +kernel
theorem dX6_feed_2 : decode cX6_feed 2 = .ok (.sipush 255, 3) := by decide +kernel
theorem dX6_feed_5 : decode cX6_feed 5 = .ok (.invokestatic 65, 3) := by decide +kernel
theorem dX6_feed_8 : decode cX6_feed 8 = .ok (.ifCond .ne 6, 3) := by decide +kernel
theorem dX6_feed_11 : decode cX6_feed 11 = .ok (.ldc 69, 2) := by decide +kernel
theorem dX6_feed_13 : decode cX6_feed 13 = .ok (.ireturn, 1) := by decide +kernel
theorem dX6_feed_14 : decode cX6_feed 14 = .ok (.aload_n 0, 1) := by decide +kernel
theorem dX6_feed_15 : decode cX6_feed 15 = .ok (.getfield 19, 3) := by decide +kernel
theorem dX6_feed_18 : decode cX6_feed 18 = .ok (.invokevirtual 102, 3) := by decide +kernel
theorem dX6_feed_21 : decode cX6_feed 21 = .ok (.ifCond .eq 6, 3) := by decide +kernel
theorem dX6_feed_24 : decode cX6_feed 24 = .ok (.ldc 106, 2) := by decide +kernel
theorem dX6_feed_26 : decode cX6_feed 26 = .ok (.ireturn, 1) := by decide +kernel
theorem dX6_feed_27 : decode cX6_feed 27 = .ok (.aload_n 0, 1) := by decide +kernel
theorem dX6_feed_28 : decode cX6_feed 28 = .ok (.getfield 19, 3) := by decide +kernel
theorem dX6_feed_31 : decode cX6_feed 31 = .ok (.iload_n 1, 1) := by decide +kernel
theorem dX6_feed_32 : decode cX6_feed 32 = .ok (.invokevirtual 107, 3) := by decide +kernel
theorem dX6_feed_35 : decode cX6_feed 35 = .ok (.ireturn, 1) := by decide +kernel
theorem dX6_isle_0 : decode cX6_isle 0 = .ok (.aload_n 0, 1) := by decide +kernel
theorem dX6_isle_1 : decode cX6_isle 1 = .ok (.getfield 50, 3) := by decide +kernel
theorem dX6_isle_4 : decode cX6_isle 4 = .ok (.invokevirtual 110, 3) := by decide +kernel
theorem dX6_isle_7 : decode cX6_isle 7 = .ok (.astore_n 1, 1) := by decide +kernel
theorem dX6_isle_8 : decode cX6_isle 8 = .ok (.aload_n 0, 1) := by decide +kernel
theorem dX6_isle_9 : decode cX6_isle 9 = .ok (.getfield 19, 3) := by decide +kernel
theorem dX6_isle_12 : decode cX6_isle 12 = .ok (.aload_n 1, 1) := by decide +kernel
theorem dX6_isle_13 : decode cX6_isle 13 = .ok (.invokevirtual 114, 3) := by decide +kernel
theorem dX6_isle_16 : decode cX6_isle 16 = .ok (.istore_n 2, 1) := by decide +kernel
theorem dX6_isle_17 : decode cX6_isle 17 = .ok (.iload_n 2, 1) := by decide +kernel
theorem dX6_isle_18 : decode cX6_isle 18 = .ok (.iconst (-1), 1) := by decide +kernel
theorem dX6_isle_19 : decode cX6_isle 19 = .ok (.if_icmp .eq 8, 3) := by decide +kernel
theorem dX6_isle_22 : decode cX6_isle 22 = .ok (.ldc 118, 2) := by decide +kernel
theorem dX6_isle_24 : decode cX6_isle 24 = .ok (.iload_n 2, 1) := by decide +kernel
theorem dX6_isle_25 : decode cX6_isle 25 = .ok (.isub, 1) := by decide +kernel
theorem dX6_isle_26 : decode cX6_isle 26 = .ok (.ireturn, 1) := by decide +kernel
theorem dX6_isle_27 : decode cX6_isle 27 = .ok (.aload_n 0, 1) := by decide +kernel
theorem dX6_isle_28 : decode cX6_isle 28 = .ok (.getfield 41, 3) := by decide +kernel
theorem dX6_isle_31 : decode cX6_isle 31 = .ok (.aload_n 1, 1) := by decide +kernel
theorem dX6_isle_32 : decode cX6_isle 32 = .ok (.invokevirtual 119, 3) := by decide +kernel
theorem dX6_isle_35 : decode cX6_isle 35 = .ok (.aload_n 0, 1) := by decide +kernel
theorem dX6_isle_36 : decode cX6_isle 36 = .ok (.getfield 26, 3) := by decide +kernel
theorem dX6_isle_39 : decode cX6_isle 39 = .ok (.invokevirtual 122, 3) := by decide +kernel
theorem dX6_isle_42 : decode cX6_isle 42 = .ok (.aload_n 0, 1) := by decide +kernel
theorem dX6_isle_43 : decode cX6_isle 43 = .ok (.getfield 41, 3) := by decide +kernel
theorem dX6_isle_46 : decode cX6_isle 46 = .ok (.getfield 125, 3) := by decide +kernel
theorem dX6_isle_49 : decode cX6_isle 49 = .ok (.ireturn, 1) := by decide +kernel
theorem dX6_fault_0 : decode cX6_fault 0 = .ok (.aload_n 0, 1) := by decide +kernel
theorem dX6_fault_1 : decode cX6_fault 1 = .ok (.getfield 19, 3) := by decide +kernel
theorem dX6_fault_4 : decode cX6_fault 4 = .ok (.getfield 128, 3) := by decide +kernel
theorem dX6_fault_7 : decode cX6_fault 7 = .ok (.ireturn, 1) := by decide +kernel
theorem dX6_undo_0 : decode cX6_undo 0 = .ok (.aload_n 0, 1) := by decide +kernel
theorem dX6_undo_1 : decode cX6_undo 1 = .ok (.getfield 26, 3) := by decide +kernel
theorem dX6_undo_4 : decode cX6_undo 4 = .ok (.getfield 131, 3) := by decide +kernel
theorem dX6_undo_7 : decode cX6_undo 7 = .ok (.iconst 1, 1) := by decide +kernel
theorem dX6_undo_8 : decode cX6_undo 8 = .ok (.if_icmp .ge 6, 3) := by decide +kernel
theorem dX6_undo_11 : decode cX6_undo 11 = .ok (.ldc 134, 2) := by decide +kernel
theorem dX6_undo_13 : decode cX6_undo 13 = .ok (.ireturn, 1) := by decide +kernel
theorem dX6_undo_14 : decode cX6_undo 14 = .ok (.aload_n 0, 1) := by decide +kernel
theorem dX6_undo_15 : decode cX6_undo 15 = .ok (.getfield 26, 3) := by decide +kernel
theorem dX6_undo_18 : decode cX6_undo 18 = .ok (.aload_n 0, 1) := by decide +kernel
theorem dX6_undo_19 : decode cX6_undo 19 = .ok (.getfield 41, 3) := by decide +kernel
theorem dX6_undo_22 : decode cX6_undo 22 = .ok (.invokevirtual 135, 3) := by decide +kernel
theorem dX6_undo_25 : decode cX6_undo 25 = .ok (.aload_n 0, 1) := by decide +kernel
theorem dX6_undo_26 : decode cX6_undo 26 = .ok (.getfield 26, 3) := by decide +kernel
theorem dX6_undo_29 : decode cX6_undo 29 = .ok (.getfield 131, 3) := by decide +kernel
theorem dX6_undo_32 : decode cX6_undo 32 = .ok (.ireturn, 1) := by decide +kernel
theorem dX6_hours_0 : decode cX6_hours 0 = .ok (.aload_n 0, 1) := by decide +kernel
theorem dX6_hours_1 : decode cX6_hours 1 = .ok (.getfield 41, 3) := by decide +kernel
theorem dX6_hours_4 : decode cX6_hours 4 = .ok (.invokevirtual 138, 3) := by decide +kernel
theorem dX6_hours_7 : decode cX6_hours 7 = .ok (.ifCond .ne 6, 3) := by decide +kernel
theorem dX6_hours_10 : decode cX6_hours 10 = .ok (.ldc 134, 2) := by decide +kernel
theorem dX6_hours_12 : decode cX6_hours 12 = .ok (.ireturn, 1) := by decide +kernel
theorem dX6_hours_13 : decode cX6_hours 13 = .ok (.iload_n 1, 1) := by decide +kernel
theorem dX6_hours_14 : decode cX6_hours 14 = .ok (.iconst 1, 1) := by decide +kernel
theorem dX6_hours_15 : decode cX6_hours 15 = .ok (.bipush 24, 2) := by decide +kernel
theorem dX6_hours_17 : decode cX6_hours 17 = .ok (.invokestatic 65, 3) := by decide +kernel
theorem dX6_hours_20 : decode cX6_hours 20 = .ok (.ifCond .ne 6, 3) := by decide +kernel
theorem dX6_hours_23 : decode cX6_hours 23 = .ok (.ldc 69, 2) := by decide +kernel
theorem dX6_hours_25 : decode cX6_hours 25 = .ok (.ireturn, 1) := by decide +kernel
theorem dX6_hours_26 : decode cX6_hours 26 = .ok (.aload_n 0, 1) := by decide +kernel
theorem dX6_hours_27 : decode cX6_hours 27 = .ok (.getfield 41, 3) := by decide +kernel
theorem dX6_hours_30 : decode cX6_hours 30 = .ok (.getfield 141, 3) := by decide +kernel
theorem dX6_hours_33 : decode cX6_hours 33 = .ok (.iload_n 1, 1) := by decide +kernel
theorem dX6_hours_34 : decode cX6_hours 34 = .ok (.iadd, 1) := by decide +kernel
theorem dX6_hours_35 : decode cX6_hours 35 = .ok (.sipush 999, 3) := by decide +kernel
theorem dX6_hours_38 : decode cX6_hours 38 = .ok (.if_icmp .le 6, 3) := by decide +kernel
theorem dX6_hours_41 : decode cX6_hours 41 = .ok (.ldc 106, 2) := by decide +kernel
theorem dX6_hours_43 : decode cX6_hours 43 = .ok (.ireturn, 1) := by decide +kernel
theorem dX6_hours_44 : decode cX6_hours 44 = .ok (.iconst 0, 1) := by decide +kernel
theorem dX6_hours_45 : decode cX6_hours 45 = .ok (.istore_n 2, 1) := by decide +kernel
theorem dX6_hours_46 : decode cX6_hours 46 = .ok (.iload_n 2, 1) := by decide +kernel
theorem dX6_hours_47 : decode cX6_hours 47 = .ok (.iload_n 1, 1) := by decide +kernel
theorem dX6_hours_48 : decode cX6_hours 48 = .ok (.if_icmp .ge 27, 3) := by decide +kernel
theorem dX6_hours_51 : decode cX6_hours 51 = .ok (.aload_n 0, 1) := by decide +kernel
theorem dX6_hours_52 : decode cX6_hours 52 = .ok (.getfield 26, 3) := by decide +kernel
theorem dX6_hours_55 : decode cX6_hours 55 = .ok (.aload_n 0, 1) := by decide +kernel
theorem dX6_hours_56 : decode cX6_hours 56 = .ok (.getfield 41, 3) := by decide +kernel
theorem dX6_hours_59 : decode cX6_hours 59 = .ok (.invokevirtual 144, 3) := by decide +kernel
theorem dX6_hours_62 : decode cX6_hours 62 = .ok (.aload_n 0, 1) := by decide +kernel
theorem dX6_hours_63 : decode cX6_hours 63 = .ok (.getfield 41, 3) := by decide +kernel
theorem dX6_hours_66 : decode cX6_hours 66 = .ok (.invokevirtual 147, 3) := by decide +kernel
theorem dX6_hours_69 : decode cX6_hours 69 = .ok (.iinc 2 1, 3) := by decide +kernel
theorem dX6_hours_72 : decode cX6_hours 72 = .ok (.goto (-26), 3) := by decide +kernel
theorem dX6_hours_75 : decode cX6_hours 75 = .ok (.aload_n 0, 1) := by decide +kernel
theorem dX6_hours_76 : decode cX6_hours 76 = .ok (.getfield 41, 3) := by decide +kernel
theorem dX6_hours_79 : decode cX6_hours 79 = .ok (.getfield 150, 3) := by decide +kernel
theorem dX6_hours_82 : decode cX6_hours 82 = .ok (.invokestatic 153, 3) := by decide +kernel
theorem dX6_hours_85 : decode cX6_hours 85 = .ok (.ireturn, 1) := by decide +kernel
theorem dX6_send_0 : decode cX6_send 0 = .ok (.aload_n 0, 1) := by decide +kernel
theorem dX6_send_1 : decode cX6_send 1 = .ok (.getfield 41, 3) := by decide +kernel
theorem dX6_send_4 : decode cX6_send 4 = .ok (.iload_n 1, 1) := by decide +kernel
theorem dX6_send_5 : decode cX6_send 5 = .ok (.invokevirtual 156, 3) := by decide +kernel
theorem dX6_send_8 : decode cX6_send 8 = .ok (.ifCond .eq 12, 3) := by decide +kernel
theorem dX6_send_11 : decode cX6_send 11 = .ok (.iload_n 2, 1) := by decide +kernel
theorem dX6_send_12 : decode cX6_send 12 = .ok (.iconst 0, 1) := by decide +kernel
theorem dX6_send_13 : decode cX6_send 13 = .ok (.iconst 1, 1) := by decide +kernel
theorem dX6_send_14 : decode cX6_send 14 = .ok (.invokestatic 65, 3) := by decide +kernel
theorem dX6_send_17 : decode cX6_send 17 = .ok (.ifCond .ne 6, 3) := by decide +kernel
theorem dX6_send_20 : decode cX6_send 20 = .ok (.ldc 69, 2) := by decide +kernel
theorem dX6_send_22 : decode cX6_send 22 = .ok (.ireturn, 1) := by decide +kernel
theorem dX6_send_23 : decode cX6_send 23 = .ok (.aload_n 0, 1) := by decide +kernel
theorem dX6_send_24 : decode cX6_send 24 = .ok (.getfield 41, 3) := by decide +kernel
theorem dX6_send_27 : decode cX6_send 27 = .ok (.iload_n 1, 1) := by decide +kernel
theorem dX6_send_28 : decode cX6_send 28 = .ok (.invokevirtual 159, 3) := by decide +kernel
theorem dX6_send_31 : decode cX6_send 31 = .ok (.iload_n 2, 1) := by decide +kernel
theorem dX6_send_32 : decode cX6_send 32 = .ok (.iconst 1, 1) := by decide +kernel
theorem dX6_send_33 : decode cX6_send 33 = .ok (.if_icmp .ne 7, 3) := by decide +kernel
theorem dX6_send_36 : decode cX6_send 36 = .ok (.iconst 1, 1) := by decide +kernel
theorem dX6_send_37 : decode cX6_send 37 = .ok (.goto 4, 3) := by decide +kernel
theorem dX6_send_40 : decode cX6_send 40 = .ok (.iconst 0, 1) := by decide +kernel
theorem dX6_send_41 : decode cX6_send 41 = .ok (.if_icmp .ne 6, 3) := by decide +kernel
theorem dX6_send_44 : decode cX6_send 44 = .ok (.ldc 134, 2) := by decide +kernel
theorem dX6_send_46 : decode cX6_send 46 = .ok (.ireturn, 1) := by decide +kernel
theorem dX6_send_47 : decode cX6_send 47 = .ok (.aload_n 0, 1) := by decide +kernel
theorem dX6_send_48 : decode cX6_send 48 = .ok (.getfield 26, 3) := by decide +kernel
theorem dX6_send_51 : decode cX6_send 51 = .ok (.aload_n 0, 1) := by decide +kernel
theorem dX6_send_52 : decode cX6_send 52 = .ok (.getfield 41, 3) := by decide +kernel
theorem dX6_send_55 : decode cX6_send 55 = .ok (.invokevirtual 144, 3) := by decide +kernel
theorem dX6_send_58 : decode cX6_send 58 = .ok (.aload_n 0, 1) := by decide +kernel
theorem dX6_send_59 : decode cX6_send 59 = .ok (.getfield 41, 3) := by decide +kernel
theorem dX6_send_62 : decode cX6_send 62 = .ok (.dup, 1) := by decide +kernel
theorem dX6_send_63 : decode cX6_send 63 = .ok (.getfield 162, 3) := by decide +kernel
theorem dX6_send_66 : decode cX6_send 66 = .ok (.iconst 1, 1) := by decide +kernel
theorem dX6_send_67 : decode cX6_send 67 = .ok (.iload_n 1, 1) := by decide +kernel
theorem dX6_send_68 : decode cX6_send 68 = .ok (.ishl, 1) := by decide +kernel
theorem dX6_send_69 : decode cX6_send 69 = .ok (.ixor, 1) := by decide +kernel
theorem dX6_send_70 : decode cX6_send 70 = .ok (.putfield 162, 3) := by decide +kernel
theorem dX6_send_73 : decode cX6_send 73 = .ok (.aload_n 0, 1) := by decide +kernel
theorem dX6_send_74 : decode cX6_send 74 = .ok (.getfield 41, 3) := by decide +kernel
theorem dX6_send_77 : decode cX6_send 77 = .ok (.getfield 162, 3) := by decide +kernel
theorem dX6_send_80 : decode cX6_send 80 = .ok (.ireturn, 1) := by decide +kernel
theorem dX6_wind_0 : decode cX6_wind 0 = .ok (.aload_n 0, 1) := by decide +kernel
theorem dX6_wind_1 : decode cX6_wind 1 = .ok (.getfield 41, 3) := by decide +kernel
theorem dX6_wind_4 : decode cX6_wind 4 = .ok (.invokevirtual 138, 3) := by decide +kernel
theorem dX6_wind_7 : decode cX6_wind 7 = .ok (.ifCond .ne 6, 3) := by decide +kernel
theorem dX6_wind_10 : decode cX6_wind 10 = .ok (.ldc 134, 2) := by decide +kernel
theorem dX6_wind_12 : decode cX6_wind 12 = .ok (.ireturn, 1) := by decide +kernel
theorem dX6_wind_13 : decode cX6_wind 13 = .ok (.iload_n 1, 1) := by decide +kernel
theorem dX6_wind_14 : decode cX6_wind 14 = .ok (.iconst 0, 1) := by decide +kernel
theorem dX6_wind_15 : decode cX6_wind 15 = .ok (.iconst 3, 1) := by decide +kernel
theorem dX6_wind_16 : decode cX6_wind 16 = .ok (.invokestatic 65, 3) := by decide +kernel
theorem dX6_wind_19 : decode cX6_wind 19 = .ok (.ifCond .ne 6, 3) := by decide +kernel
theorem dX6_wind_22 : decode cX6_wind 22 = .ok (.ldc 69, 2) := by decide +kernel
theorem dX6_wind_24 : decode cX6_wind 24 = .ok (.ireturn, 1) := by decide +kernel
theorem dX6_wind_25 : decode cX6_wind 25 = .ok (.aload_n 0, 1) := by decide +kernel
theorem dX6_wind_26 : decode cX6_wind 26 = .ok (.getfield 26, 3) := by decide +kernel
theorem dX6_wind_29 : decode cX6_wind 29 = .ok (.aload_n 0, 1) := by decide +kernel
theorem dX6_wind_30 : decode cX6_wind 30 = .ok (.getfield 41, 3) := by decide +kernel
theorem dX6_wind_33 : decode cX6_wind 33 = .ok (.invokevirtual 144, 3) := by decide +kernel
theorem dX6_wind_36 : decode cX6_wind 36 = .ok (.aload_n 0, 1) := by decide +kernel
theorem dX6_wind_37 : decode cX6_wind 37 = .ok (.getfield 41, 3) := by decide +kernel
theorem dX6_wind_40 : decode cX6_wind 40 = .ok (.getfield 165, 3) := by decide +kernel
theorem dX6_wind_43 : decode cX6_wind 43 = .ok (.istore_n 2, 1) := by decide +kernel
theorem dX6_wind_44 : decode cX6_wind 44 = .ok (.aload_n 0, 1) := by decide +kernel
theorem dX6_wind_45 : decode cX6_wind 45 = .ok (.getfield 41, 3) := by decide +kernel
theorem dX6_wind_48 : decode cX6_wind 48 = .ok (.iload_n 1, 1) := by decide +kernel
theorem dX6_wind_49 : decode cX6_wind 49 = .ok (.putfield 165, 3) := by decide +kernel
theorem dX6_wind_52 : decode cX6_wind 52 = .ok (.iload_n 2, 1) := by decide +kernel
theorem dX6_wind_53 : decode cX6_wind 53 = .ok (.ireturn, 1) := by decide +kernel
theorem dX6_sand_0 : decode cX6_sand 0 = .ok (.aload_n 0, 1) := by decide +kernel
theorem dX6_sand_1 : decode cX6_sand 1 = .ok (.getfield 41, 3) := by decide +kernel
theorem dX6_sand_4 : decode cX6_sand 4 = .ok (.iload_n 1, 1) := by decide +kernel
theorem dX6_sand_5 : decode cX6_sand 5 = .ok (.invokevirtual 168, 3) := by decide +kernel
theorem dX6_sand_8 : decode cX6_sand 8 = .ok (.ifCond .eq 18, 3) := by decide +kernel
theorem dX6_sand_11 : decode cX6_sand 11 = .ok (.iload_n 2, 1) := by decide +kernel
theorem dX6_sand_12 : decode cX6_sand 12 = .ok (.bipush (-20), 2) := by decide +kernel
theorem dX6_sand_14 : decode cX6_sand 14 = .ok (.bipush 20, 2) := by decide +kernel
theorem dX6_sand_16 : decode cX6_sand 16 = .ok (.invokestatic 65, 3) := by decide +kernel
theorem dX6_sand_19 : decode cX6_sand 19 = .ok (.ifCond .eq 7, 3) := by decide +kernel
theorem dX6_sand_22 : decode cX6_sand 22 = .ok (.iload_n 2, 1) := by decide +kernel
theorem dX6_sand_23 : decode cX6_sand 23 = .ok (.ifCond .ne 6, 3) := by decide +kernel
theorem dX6_sand_26 : decode cX6_sand 26 = .ok (.ldc 69, 2) := by decide +kernel
theorem dX6_sand_28 : decode cX6_sand 28 = .ok (.ireturn, 1) := by decide +kernel
theorem dX6_sand_29 : decode cX6_sand 29 = .ok (.aload_n 0, 1) := by decide +kernel
theorem dX6_sand_30 : decode cX6_sand 30 = .ok (.getfield 41, 3) := by decide +kernel
theorem dX6_sand_33 : decode cX6_sand 33 = .ok (.getfield 171, 3) := by decide +kernel
theorem dX6_sand_36 : decode cX6_sand 36 = .ok (.iload_n 1, 1) := by decide +kernel
theorem dX6_sand_37 : decode cX6_sand 37 = .ok (.iaload, 1) := by decide +kernel
theorem dX6_sand_38 : decode cX6_sand 38 = .ok (.iload_n 2, 1) := by decide +kernel
theorem dX6_sand_39 : decode cX6_sand 39 = .ok (.iadd, 1) := by decide +kernel
theorem dX6_sand_40 : decode cX6_sand 40 = .ok (.istore_n 3, 1) := by decide +kernel
theorem dX6_sand_41 : decode cX6_sand 41 = .ok (.iload_n 3, 1) := by decide +kernel
theorem dX6_sand_42 : decode cX6_sand 42 = .ok (.iconst 0, 1) := by decide +kernel
theorem dX6_sand_43 : decode cX6_sand 43 = .ok (.bipush 40, 2) := by decide +kernel
theorem dX6_sand_45 : decode cX6_sand 45 = .ok (.invokestatic 65, 3) := by decide +kernel
theorem dX6_sand_48 : decode cX6_sand 48 = .ok (.ifCond .ne 6, 3) := by decide +kernel
theorem dX6_sand_51 : decode cX6_sand 51 = .ok (.ldc 106, 2) := by decide +kernel
theorem dX6_sand_53 : decode cX6_sand 53 = .ok (.ireturn, 1) := by decide +kernel
theorem dX6_sand_54 : decode cX6_sand 54 = .ok (.aload_n 0, 1) := by decide +kernel
theorem dX6_sand_55 : decode cX6_sand 55 = .ok (.getfield 26, 3) := by decide +kernel
theorem dX6_sand_58 : decode cX6_sand 58 = .ok (.aload_n 0, 1) := by decide +kernel
theorem dX6_sand_59 : decode cX6_sand 59 = .ok (.getfield 41, 3) := by decide +kernel
theorem dX6_sand_62 : decode cX6_sand 62 = .ok (.invokevirtual 144, 3) := by decide +kernel
theorem dX6_sand_65 : decode cX6_sand 65 = .ok (.aload_n 0, 1) := by decide +kernel
theorem dX6_sand_66 : decode cX6_sand 66 = .ok (.getfield 41, 3) := by decide +kernel
theorem dX6_sand_69 : decode cX6_sand 69 = .ok (.getfield 171, 3) := by decide +kernel
theorem dX6_sand_72 : decode cX6_sand 72 = .ok (.iload_n 1, 1) := by decide +kernel
theorem dX6_sand_73 : decode cX6_sand 73 = .ok (.iload_n 3, 1) := by decide +kernel
theorem dX6_sand_74 : decode cX6_sand 74 = .ok (.iastore, 1) := by decide +kernel
theorem dX6_sand_75 : decode cX6_sand 75 = .ok (.iload_n 3, 1) := by decide +kernel
theorem dX6_sand_76 : decode cX6_sand 76 = .ok (.ireturn, 1) := by decide +kernel
theorem dX6_speed_0 : decode cX6_speed 0 = .ok (.aload_n 0, 1) := by decide +kernel
theorem dX6_speed_1 : decode cX6_speed 1 = .ok (.getfield 41, 3) := by decide +kernel
theorem dX6_speed_4 : decode cX6_speed 4 = .ok (.iload_n 1, 1) := by decide +kernel
theorem dX6_speed_5 : decode cX6_speed 5 = .ok (.invokevirtual 156, 3) := by decide +kernel
theorem dX6_speed_8 : decode cX6_speed 8 = .ok (.ifCond .eq 13, 3) := by decide +kernel
theorem dX6_speed_11 : decode cX6_speed 11 = .ok (.iload_n 2, 1) := by decide +kernel
theorem dX6_speed_12 : decode cX6_speed 12 = .ok (.iconst 1, 1) := by decide +kernel
theorem dX6_speed_13 : decode cX6_speed 13 = .ok (.bipush 9, 2) := by decide +kernel
theorem dX6_speed_15 : decode cX6_speed 15 = .ok (.invokestatic 65, 3) := by decide +kernel
theorem dX6_speed_18 : decode cX6_speed 18 = .ok (.ifCond .ne 6, 3) := by decide +kernel
theorem dX6_speed_21 : decode cX6_speed 21 = .ok (.ldc 69, 2) := by decide +kernel
theorem dX6_speed_23 : decode cX6_speed 23 = .ok (.ireturn, 1) := by decide +kernel
theorem dX6_speed_24 : decode cX6_speed 24 = .ok (.aload_n 0, 1) := by decide +kernel
theorem dX6_speed_25 : decode cX6_speed 25 = .ok (.getfield 26, 3) := by decide +kernel
theorem dX6_speed_28 : decode cX6_speed 28 = .ok (.aload_n 0, 1) := by decide +kernel
theorem dX6_speed_29 : decode cX6_speed 29 = .ok (.getfield 41, 3) := by decide +kernel
theorem dX6_speed_32 : decode cX6_speed 32 = .ok (.invokevirtual 144, 3) := by decide +kernel
theorem dX6_speed_35 : decode cX6_speed 35 = .ok (.aload_n 0, 1) := by decide +kernel
theorem dX6_speed_36 : decode cX6_speed 36 = .ok (.getfield 41, 3) := by decide +kernel
theorem dX6_speed_39 : decode cX6_speed 39 = .ok (.getfield 175, 3) := by decide +kernel
theorem dX6_speed_42 : decode cX6_speed 42 = .ok (.iload_n 1, 1) := by decide +kernel
theorem dX6_speed_43 : decode cX6_speed 43 = .ok (.iaload, 1) := by decide +kernel
theorem dX6_speed_44 : decode cX6_speed 44 = .ok (.istore_n 3, 1) := by decide +kernel
theorem dX6_speed_45 : decode cX6_speed 45 = .ok (.aload_n 0, 1) := by decide +kernel
theorem dX6_speed_46 : decode cX6_speed 46 = .ok (.getfield 41, 3) := by decide +kernel
theorem dX6_speed_49 : decode cX6_speed 49 = .ok (.getfield 175, 3) := by decide +kernel
theorem dX6_speed_52 : decode cX6_speed 52 = .ok (.iload_n 1, 1) := by decide +kernel
theorem dX6_speed_53 : decode cX6_speed 53 = .ok (.iload_n 2, 1) := by decide +kernel
theorem dX6_speed_54 : decode cX6_speed 54 = .ok (.iastore, 1) := by decide +kernel
theorem dX6_speed_55 : decode cX6_speed 55 = .ok (.iload_n 3, 1) := by decide +kernel
theorem dX6_speed_56 : decode cX6_speed 56 = .ok (.ireturn, 1) := by decide +kernel
theorem dX6_boat_0 : decode cX6_boat 0 = .ok (.aload_n 0, 1) := by decide +kernel
theorem dX6_boat_1 : decode cX6_boat 1 = .ok (.getfield 41, 3) := by decide +kernel
theorem dX6_boat_4 : decode cX6_boat 4 = .ok (.iload_n 1, 1) := by decide +kernel
theorem dX6_boat_5 : decode cX6_boat 5 = .ok (.invokevirtual 156, 3) := by decide +kernel
theorem dX6_boat_8 : decode cX6_boat 8 = .ok (.ifCond .ne 6, 3) := by decide +kernel
theorem dX6_boat_11 : decode cX6_boat 11 = .ok (.ldc 69, 2) := by decide +kernel
theorem dX6_boat_13 : decode cX6_boat 13 = .ok (.ireturn, 1) := by decide +kernel
theorem dX6_boat_14 : decode cX6_boat 14 = .ok (.iload_n 2, 1) := by decide +kernel
theorem dX6_boat_15 : decode cX6_boat 15 = .ok (.tableswitch 106 0 5 #[37, 47, 57, 69, 86, 96], 37) := by decide +kernel
theorem dX6_boat_52 : decode cX6_boat 52 = .ok (.aload_n 0, 1) := by decide +kernel
theorem dX6_boat_53 : decode cX6_boat 53 = .ok (.getfield 41, 3) := by decide +kernel
theorem dX6_boat_56 : decode cX6_boat 56 = .ok (.getfield 178, 3) := by decide +kernel
theorem dX6_boat_59 : decode cX6_boat 59 = .ok (.iload_n 1, 1) := by decide +kernel
theorem dX6_boat_60 : decode cX6_boat 60 = .ok (.iaload, 1) := by decide +kernel
theorem dX6_boat_61 : decode cX6_boat 61 = .ok (.ireturn, 1) := by decide +kernel
theorem dX6_boat_62 : decode cX6_boat 62 = .ok (.aload_n 0, 1) := by decide +kernel
theorem dX6_boat_63 : decode cX6_boat 63 = .ok (.getfield 41, 3) := by decide +kernel
theorem dX6_boat_66 : decode cX6_boat 66 = .ok (.getfield 175, 3) := by decide +kernel
theorem dX6_boat_69 : decode cX6_boat 69 = .ok (.iload_n 1, 1) := by decide +kernel
theorem dX6_boat_70 : decode cX6_boat 70 = .ok (.iaload, 1) := by decide +kernel
theorem dX6_boat_71 : decode cX6_boat 71 = .ok (.ireturn, 1) := by decide +kernel
theorem dX6_boat_72 : decode cX6_boat 72 = .ok (.aload_n 0, 1) := by decide +kernel
theorem dX6_boat_73 : decode cX6_boat 73 = .ok (.getfield 41, 3) := by decide +kernel
theorem dX6_boat_76 : decode cX6_boat 76 = .ok (.iload_n 1, 1) := by decide +kernel
theorem dX6_boat_77 : decode cX6_boat 77 = .ok (.invokevirtual 159, 3) := by decide +kernel
theorem dX6_boat_80 : decode cX6_boat 80 = .ok (.invokestatic 181, 3) := by decide +kernel
theorem dX6_boat_83 : decode cX6_boat 83 = .ok (.ireturn, 1) := by decide +kernel
theorem dX6_boat_84 : decode cX6_boat 84 = .ok (.aload_n 0, 1) := by decide +kernel
theorem dX6_boat_85 : decode cX6_boat 85 = .ok (.getfield 41, 3) := by decide +kernel
theorem dX6_boat_88 : decode cX6_boat 88 = .ok (.iload_n 1, 1) := by decide +kernel
theorem dX6_boat_89 : decode cX6_boat 89 = .ok (.aload_n 0, 1) := by decide +kernel
theorem dX6_boat_90 : decode cX6_boat 90 = .ok (.getfield 41, 3) := by decide +kernel
theorem dX6_boat_93 : decode cX6_boat 93 = .ok (.iconst 0, 1) := by decide +kernel
theorem dX6_boat_94 : decode cX6_boat 94 = .ok (.invokevirtual 185, 3) := by decide +kernel
theorem dX6_boat_97 : decode cX6_boat 97 = .ok (.invokevirtual 188, 3) := by decide +kernel
theorem dX6_boat_100 : decode cX6_boat 100 = .ok (.ireturn, 1) := by decide +kernel
theorem dX6_boat_101 : decode cX6_boat 101 = .ok (.aload_n 0, 1) := by decide +kernel
theorem dX6_boat_102 : decode cX6_boat 102 = .ok (.getfield 41, 3) := by decide +kernel
theorem dX6_boat_105 : decode cX6_boat 105 = .ok (.getfield 192, 3) := by decide +kernel
theorem dX6_boat_108 : decode cX6_boat 108 = .ok (.iload_n 1, 1) := by decide +kernel
theorem dX6_boat_109 : decode cX6_boat 109 = .ok (.iaload, 1) := by decide +kernel
theorem dX6_boat_110 : decode cX6_boat 110 = .ok (.ireturn, 1) := by decide +kernel
theorem dX6_boat_111 : decode cX6_boat 111 = .ok (.aload_n 0, 1) := by decide +kernel
theorem dX6_boat_112 : decode cX6_boat 112 = .ok (.getfield 41, 3) := by decide +kernel
theorem dX6_boat_115 : decode cX6_boat 115 = .ok (.getfield 195, 3) := by decide +kernel
theorem dX6_boat_118 : decode cX6_boat 118 = .ok (.iload_n 1, 1) := by decide +kernel
theorem dX6_boat_119 : decode cX6_boat 119 = .ok (.iaload, 1) := by decide +kernel
theorem dX6_boat_120 : decode cX6_boat 120 = .ok (.ireturn, 1) := by decide +kernel
theorem dX6_boat_121 : decode cX6_boat 121 = .ok (.ldc 69, 2) := by decide +kernel
theorem dX6_boat_123 : decode cX6_boat 123 = .ok (.ireturn, 1) := by decide +kernel
theorem dX6_cell_0 : decode cX6_cell 0 = .ok (.aload_n 0, 1) := by decide +kernel
theorem dX6_cell_1 : decode cX6_cell 1 = .ok (.getfield 41, 3) := by decide +kernel
theorem dX6_cell_4 : decode cX6_cell 4 = .ok (.iload_n 1, 1) := by decide +kernel
theorem dX6_cell_5 : decode cX6_cell 5 = .ok (.invokevirtual 168, 3) := by decide +kernel
theorem dX6_cell_8 : decode cX6_cell 8 = .ok (.ifCond .ne 6, 3) := by decide +kernel
theorem dX6_cell_11 : decode cX6_cell 11 = .ok (.ldc 69, 2) := by decide +kernel
theorem dX6_cell_13 : decode cX6_cell 13 = .ok (.ireturn, 1) := by decide +kernel
theorem dX6_cell_14 : decode cX6_cell 14 = .ok (.iload_n 2, 1) := by decide +kernel
theorem dX6_cell_15 : decode cX6_cell 15 = .ok (.lookupswitch 64 #[(0, 25), (1, 35)], 25) := by decide +kernel
theorem dX6_cell_40 : decode cX6_cell 40 = .ok (.aload_n 0, 1) := by decide +kernel
theorem dX6_cell_41 : decode cX6_cell 41 = .ok (.getfield 41, 3) := by decide +kernel
theorem dX6_cell_44 : decode cX6_cell 44 = .ok (.getfield 171, 3) := by decide +kernel
theorem dX6_cell_47 : decode cX6_cell 47 = .ok (.iload_n 1, 1) := by decide +kernel
theorem dX6_cell_48 : decode cX6_cell 48 = .ok (.iaload, 1) := by decide +kernel
theorem dX6_cell_49 : decode cX6_cell 49 = .ok (.ireturn, 1) := by decide +kernel
theorem dX6_cell_50 : decode cX6_cell 50 = .ok (.aload_n 0, 1) := by decide +kernel
theorem dX6_cell_51 : decode cX6_cell 51 = .ok (.getfield 41, 3) := by decide +kernel
theorem dX6_cell_54 : decode cX6_cell 54 = .ok (.getfield 171, 3) := by decide +kernel
theorem dX6_cell_57 : decode cX6_cell 57 = .ok (.iload_n 1, 1) := by decide +kernel
theorem dX6_cell_58 : decode cX6_cell 58 = .ok (.iaload, 1) := by decide +kernel
theorem dX6_cell_59 : decode cX6_cell 59 = .ok (.aload_n 0, 1) := by decide +kernel
theorem dX6_cell_60 : decode cX6_cell 60 = .ok (.getfield 41, 3) := by decide +kernel
theorem dX6_cell_63 : decode cX6_cell 63 = .ok (.iconst 0, 1) := by decide +kernel
theorem dX6_cell_64 : decode cX6_cell 64 = .ok (.invokevirtual 198, 3) := by decide +kernel
theorem dX6_cell_67 : decode cX6_cell 67 = .ok (.if_icmp .le 7, 3) := by decide +kernel
theorem dX6_cell_70 : decode cX6_cell 70 = .ok (.iconst 1, 1) := by decide +kernel
theorem dX6_cell_71 : decode cX6_cell 71 = .ok (.goto 4, 3) := by decide +kernel
theorem dX6_cell_74 : decode cX6_cell 74 = .ok (.iconst 0, 1) := by decide +kernel
theorem dX6_cell_75 : decode cX6_cell 75 = .ok (.invokestatic 181, 3) := by decide +kernel
theorem dX6_cell_78 : decode cX6_cell 78 = .ok (.ireturn, 1) := by decide +kernel
theorem dX6_cell_79 : decode cX6_cell 79 = .ok (.ldc 69, 2) := by decide +kernel
theorem dX6_cell_81 : decode cX6_cell 81 = .ok (.ireturn, 1) := by decide +kernel
theorem dX6_stand_0 : decode cX6_stand 0 = .ok (.aload_n 0, 1) := by decide +kernel
theorem dX6_stand_1 : decode cX6_stand 1 = .ok (.getfield 41, 3) := by decide +kernel
theorem dX6_stand_4 : decode cX6_stand 4 = .ok (.invokevirtual 138, 3) := by decide +kernel
theorem dX6_stand_7 : decode cX6_stand 7 = .ok (.ifCond .ne 6, 3) := by decide +kernel
theorem dX6_stand_10 : decode cX6_stand 10 = .ok (.ldc 134, 2) := by decide +kernel
theorem dX6_stand_12 : decode cX6_stand 12 = .ok (.ireturn, 1) := by decide +kernel
theorem dX6_stand_13 : decode cX6_stand 13 = .ok (.iload_n 1, 1) := by decide +kernel
theorem dX6_stand_14 : decode cX6_stand 14 = .ok (.tableswitch 94 0 5 #[38, 47, 59, 70, 78, 86], 38) := by decide +kernel
theorem dX6_stand_52 : decode cX6_stand 52 = .ok (.aload_n 0, 1) := by decide +kernel
theorem dX6_stand_53 : decode cX6_stand 53 = .ok (.getfield 41, 3) := by decide +kernel
theorem dX6_stand_56 : decode cX6_stand 56 = .ok (.iconst 0, 1) := by decide +kernel
theorem dX6_stand_57 : decode cX6_stand 57 = .ok (.invokevirtual 198, 3) := by decide +kernel
theorem dX6_stand_60 : decode cX6_stand 60 = .ok (.ireturn, 1) := by decide +kernel
theorem dX6_stand_61 : decode cX6_stand 61 = .ok (.aload_n 0, 1) := by decide +kernel
theorem dX6_stand_62 : decode cX6_stand 62 = .ok (.getfield 41, 3) := by decide +kernel
theorem dX6_stand_65 : decode cX6_stand 65 = .ok (.iconst 0, 1) := by decide +kernel
theorem dX6_stand_66 : decode cX6_stand 66 = .ok (.invokevirtual 185, 3) := by decide +kernel
theorem dX6_stand_69 : decode cX6_stand 69 = .ok (.invokestatic 181, 3) := by decide +kernel
theorem dX6_stand_72 : decode cX6_stand 72 = .ok (.ireturn, 1) := by decide +kernel
theorem dX6_stand_73 : decode cX6_stand 73 = .ok (.aload_n 0, 1) := by decide +kernel
theorem dX6_stand_74 : decode cX6_stand 74 = .ok (.getfield 41, 3) := by decide +kernel
theorem dX6_stand_77 : decode cX6_stand 77 = .ok (.getfield 150, 3) := by decide +kernel
theorem dX6_stand_80 : decode cX6_stand 80 = .ok (.invokestatic 153, 3) := by decide +kernel
theorem dX6_stand_83 : decode cX6_stand 83 = .ok (.ireturn, 1) := by decide +kernel
theorem dX6_stand_84 : decode cX6_stand 84 = .ok (.aload_n 0, 1) := by decide +kernel
theorem dX6_stand_85 : decode cX6_stand 85 = .ok (.getfield 41, 3) := by decide +kernel
theorem dX6_stand_88 : decode cX6_stand 88 = .ok (.getfield 165, 3) := by decide +kernel
theorem dX6_stand_91 : decode cX6_stand 91 = .ok (.ireturn, 1) := by decide +kernel
theorem dX6_stand_92 : decode cX6_stand 92 = .ok (.aload_n 0, 1) := by decide +kernel
theorem dX6_stand_93 : decode cX6_stand 93 = .ok (.getfield 41, 3) := by decide +kernel
theorem dX6_stand_96 : decode cX6_stand 96 = .ok (.getfield 162, 3) := by decide +kernel
theorem dX6_stand_99 : decode cX6_stand 99 = .ok (.ireturn, 1) := by decide +kernel
theorem dX6_stand_100 : decode cX6_stand 100 = .ok (.aload_n 0, 1) := by decide +kernel
theorem dX6_stand_101 : decode cX6_stand 101 = .ok (.getfield 41, 3) := by decide +kernel
theorem dX6_stand_104 : decode cX6_stand 104 = .ok (.invokevirtual 201, 3) := by decide +kernel
theorem dX6_stand_107 : decode cX6_stand 107 = .ok (.ireturn, 1) := by decide +kernel
theorem dX6_stand_108 : decode cX6_stand 108 = .ok (.ldc 69, 2) := by decide +kernel
theorem dX6_stand_110 : decode cX6_stand 110 = .ok (.ireturn, 1) := by decide +kernel
theorem dX6_ahead_0 : decode cX6_ahead 0 = .ok (.aload_n 0, 1) := by decide +kernel
theorem dX6_ahead_1 : decode cX6_ahead 1 = .ok (.getfield 41, 3) := by decide +kernel
theorem dX6_ahead_4 : decode cX6_ahead 4 = .ok (.iload_n 1, 1) := by decide +kernel
theorem dX6_ahead_5 : decode cX6_ahead 5 = .ok (.invokevirtual 156, 3) := by decide +kernel
theorem dX6_ahead_8 : decode cX6_ahead 8 = .ok (.ifCond .eq 13, 3) := by decide +kernel
theorem dX6_ahead_11 : decode cX6_ahead 11 = .ok (.iload_n 2, 1) := by decide +kernel
theorem dX6_ahead_12 : decode cX6_ahead 12 = .ok (.iconst 0, 1) := by decide +kernel
theorem dX6_ahead_13 : decode cX6_ahead 13 = .ok (.bipush 60, 2) := by decide +kernel
theorem dX6_ahead_15 : decode cX6_ahead 15 = .ok (.invokestatic 65, 3) := by decide +kernel
theorem dX6_ahead_18 : decode cX6_ahead 18 = .ok (.ifCond .ne 6, 3) := by decide +kernel
theorem dX6_ahead_21 : decode cX6_ahead 21 = .ok (.ldc 69, 2) := by decide +kernel
theorem dX6_ahead_23 : decode cX6_ahead 23 = .ok (.ireturn, 1) := by decide +kernel
theorem dX6_ahead_24 : decode cX6_ahead 24 = .ok (.aload_n 0, 1) := by decide +kernel
theorem dX6_ahead_25 : decode cX6_ahead 25 = .ok (.getfield 50, 3) := by decide +kernel
theorem dX6_ahead_28 : decode cX6_ahead 28 = .ok (.iload_n 2, 1) := by decide +kernel
theorem dX6_ahead_29 : decode cX6_ahead 29 = .ok (.invokevirtual 205, 3) := by decide +kernel
theorem dX6_ahead_32 : decode cX6_ahead 32 = .ok (.getfield 178, 3) := by decide +kernel
theorem dX6_ahead_35 : decode cX6_ahead 35 = .ok (.iload_n 1, 1) := by decide +kernel
theorem dX6_ahead_36 : decode cX6_ahead 36 = .ok (.iaload, 1) := by decide +kernel
theorem dX6_ahead_37 : decode cX6_ahead 37 = .ok (.ireturn, 1) := by decide +kernel
theorem dX6_owner_0 : decode cX6_owner 0 = .ok (.aload_n 0, 1) := by decide +kernel
theorem dX6_owner_1 : decode cX6_owner 1 = .ok (.getfield 41, 3) := by decide +kernel
theorem dX6_owner_4 : decode cX6_owner 4 = .ok (.invokevirtual 138, 3) := by decide +kernel
theorem dX6_owner_7 : decode cX6_owner 7 = .ok (.ifCond .ne 6, 3) := by decide +kernel
theorem dX6_owner_10 : decode cX6_owner 10 = .ok (.ldc 134, 2) := by decide +kernel
theorem dX6_owner_12 : decode cX6_owner 12 = .ok (.ireturn, 1) := by decide +kernel
theorem dX6_owner_13 : decode cX6_owner 13 = .ok (.iload_n 1, 1) := by decide +kernel
theorem dX6_owner_14 : decode cX6_owner 14 = .ok (.iconst 0, 1) := by decide +kernel
theorem dX6_owner_15 : decode cX6_owner 15 = .ok (.bipush 60, 2) := by decide +kernel
theorem dX6_owner_17 : decode cX6_owner 17 = .ok (.invokestatic 65, 3) := by decide +kernel
theorem dX6_owner_20 : decode cX6_owner 20 = .ok (.ifCond .ne 6, 3) := by decide +kernel
theorem dX6_owner_23 : decode cX6_owner 23 = .ok (.ldc 69, 2) := by decide +kernel
theorem dX6_owner_25 : decode cX6_owner 25 = .ok (.ireturn, 1) := by decide +kernel
theorem dX6_owner_26 : decode cX6_owner 26 = .ok (.aload_n 0, 1) := by decide +kernel
theorem dX6_owner_27 : decode cX6_owner 27 = .ok (.getfield 50, 3) := by decide +kernel
theorem dX6_owner_30 : decode cX6_owner 30 = .ok (.iload_n 1, 1) := by decide +kernel
theorem dX6_owner_31 : decode cX6_owner 31 = .ok (.invokevirtual 205, 3) := by decide +kernel
theorem dX6_owner_34 : decode cX6_owner 34 = .ok (.getfield 150, 3) := by decide +kernel
theorem dX6_owner_37 : decode cX6_owner 37 = .ok (.invokestatic 153, 3) := by decide +kernel
theorem dX6_owner_40 : decode cX6_owner 40 = .ok (.ireturn, 1) := by decide +kernel
theorem dX6_held_0 : decode cX6_held 0 = .ok (.aload_n 0, 1) := by decide +kernel
theorem dX6_held_1 : decode cX6_held 1 = .ok (.getfield 41, 3) := by decide +kernel
theorem dX6_held_4 : decode cX6_held 4 = .ok (.iload_n 1, 1) := by decide +kernel
theorem dX6_held_5 : decode cX6_held 5 = .ok (.invokevirtual 156, 3) := by decide +kernel
theorem dX6_held_8 : decode cX6_held 8 = .ok (.ifCond .eq 13, 3) := by decide +kernel
theorem dX6_held_11 : decode cX6_held 11 = .ok (.iload_n 2, 1) := by decide +kernel
theorem dX6_held_12 : decode cX6_held 12 = .ok (.iconst 0, 1) := by decide +kernel
theorem dX6_held_13 : decode cX6_held 13 = .ok (.bipush 60, 2) := by decide +kernel
theorem dX6_held_15 : decode cX6_held 15 = .ok (.invokestatic 65, 3) := by decide +kernel
theorem dX6_held_18 : decode cX6_held 18 = .ok (.ifCond .ne 6, 3) := by decide +kernel
theorem dX6_held_21 : decode cX6_held 21 = .ok (.ldc 69, 2) := by decide +kernel
theorem dX6_held_23 : decode cX6_held 23 = .ok (.ireturn, 1) := by decide +kernel
theorem dX6_held_24 : decode cX6_held 24 = .ok (.aload_n 0, 1) := by decide +kernel
theorem dX6_held_25 : decode cX6_held 25 = .ok (.getfield 50, 3) := by decide +kernel
theorem dX6_held_28 : decode cX6_held 28 = .ok (.iload_n 2, 1) := by decide +kernel
theorem dX6_held_29 : decode cX6_held 29 = .ok (.invokevirtual 205, 3) := by decide +kernel
theorem dX6_held_32 : decode cX6_held 32 = .ok (.getfield 192, 3) := by decide +kernel
theorem dX6_held_35 : decode cX6_held 35 = .ok (.iload_n 1, 1) := by decide +kernel
theorem dX6_held_36 : decode cX6_held 36 = .ok (.iaload, 1) := by decide +kernel
theorem dX6_held_37 : decode cX6_held 37 = .ok (.ireturn, 1) := by decide +kernel
theorem dX6_shows_0 : decode cX6_shows 0 = .ok (.aload_n 0, 1) := by decide +kernel
theorem dX6_shows_1 : decode cX6_shows 1 = .ok (.getfield 41, 3) := by decide +kernel
theorem dX6_shows_4 : decode cX6_shows 4 = .ok (.invokevirtual 138, 3) := by decide +kernel
theorem dX6_shows_7 : decode cX6_shows 7 = .ok (.ifCond .ne 6, 3) := by decide +kernel
theorem dX6_shows_10 : decode cX6_shows 10 = .ok (.ldc 134, 2) := by decide +kernel
theorem dX6_shows_12 : decode cX6_shows 12 = .ok (.ireturn, 1) := by decide +kernel
theorem dX6_shows_13 : decode cX6_shows 13 = .ok (.iconst 0, 1) := by decide +kernel
theorem dX6_shows_14 : decode cX6_shows 14 = .ok (.istore_n 1, 1) := by decide +kernel
theorem dX6_shows_15 : decode cX6_shows 15 = .ok (.iload_n 1, 1) := by decide +kernel
theorem dX6_shows_16 : decode cX6_shows 16 = .ok (.bipush 60, 2) := by decide +kernel
theorem dX6_shows_18 : decode cX6_shows 18 = .ok (.if_icmp .gt 22, 3) := by decide +kernel
theorem dX6_shows_21 : decode cX6_shows 21 = .ok (.aload_n 0, 1) := by decide +kernel
theorem dX6_shows_22 : decode cX6_shows 22 = .ok (.getfield 41, 3) := by decide +kernel
theorem dX6_shows_25 : decode cX6_shows 25 = .ok (.iload_n 1, 1) := by decide +kernel
theorem dX6_shows_26 : decode cX6_shows 26 = .ok (.invokevirtual 185, 3) := by decide +kernel
theorem dX6_shows_29 : decode cX6_shows 29 = .ok (.ifCond .eq 5, 3) := by decide +kernel
theorem dX6_shows_32 : decode cX6_shows 32 = .ok (.iload_n 1, 1) := by decide +kernel
theorem dX6_shows_33 : decode cX6_shows 33 = .ok (.ireturn, 1) := by decide +kernel
theorem dX6_shows_34 : decode cX6_shows 34 = .ok (.iinc 1 1, 3) := by decide +kernel
theorem dX6_shows_37 : decode cX6_shows 37 = .ok (.goto (-22), 3) := by decide +kernel
theorem dX6_shows_40 : decode cX6_shows 40 = .ok (.ldc 209, 2) := by decide +kernel
theorem dX6_shows_42 : decode cX6_shows 42 = .ok (.ireturn, 1) := by decide +kernel
theorem dX6_dry_0 : decode cX6_dry 0 = .ok (.aload_n 0, 1) := by decide +kernel
theorem dX6_dry_1 : decode cX6_dry 1 = .ok (.getfield 41, 3) := by decide +kernel
theorem dX6_dry_4 : decode cX6_dry 4 = .ok (.invokevirtual 138, 3) := by decide +kernel
theorem dX6_dry_7 : decode cX6_dry 7 = .ok (.ifCond .ne 6, 3) := by decide +kernel
theorem dX6_dry_10 : decode cX6_dry 10 = .ok (.ldc 134, 2) := by decide +kernel
theorem dX6_dry_12 : decode cX6_dry 12 = .ok (.ireturn, 1) := by decide +kernel
theorem dX6_dry_13 : decode cX6_dry 13 = .ok (.iload_n 1, 1) := by decide +kernel
theorem dX6_dry_14 : decode cX6_dry 14 = .ok (.iconst 1, 1) := by decide +kernel
theorem dX6_dry_15 : decode cX6_dry 15 = .ok (.bipush 60, 2) := by decide +kernel
theorem dX6_dry_17 : decode cX6_dry 17 = .ok (.invokestatic 65, 3) := by decide +kernel
theorem dX6_dry_20 : decode cX6_dry 20 = .ok (.ifCond .ne 6, 3) := by decide +kernel
theorem dX6_dry_23 : decode cX6_dry 23 = .ok (.ldc 69, 2) := by decide +kernel
theorem dX6_dry_25 : decode cX6_dry 25 = .ok (.ireturn, 1) := by decide +kernel
theorem dX6_dry_26 : decode cX6_dry 26 = .ok (.iconst 0, 1) := by decide +kernel
theorem dX6_dry_27 : decode cX6_dry 27 = .ok (.istore_n 2, 1) := by decide +kernel
theorem dX6_dry_28 : decode cX6_dry 28 = .ok (.iconst 0, 1) := by decide +kernel
theorem dX6_dry_29 : decode cX6_dry 29 = .ok (.istore_n 3, 1) := by decide +kernel
theorem dX6_dry_30 : decode cX6_dry 30 = .ok (.iload_n 3, 1) := by decide +kernel
theorem dX6_dry_31 : decode cX6_dry 31 = .ok (.iload_n 1, 1) := by decide +kernel
theorem dX6_dry_32 : decode cX6_dry 32 = .ok (.if_icmp .ge 20, 3) := by decide +kernel
theorem dX6_dry_35 : decode cX6_dry 35 = .ok (.iload_n 2, 1) := by decide +kernel
theorem dX6_dry_36 : decode cX6_dry 36 = .ok (.aload_n 0, 1) := by decide +kernel
theorem dX6_dry_37 : decode cX6_dry 37 = .ok (.getfield 41, 3) := by decide +kernel
theorem dX6_dry_40 : decode cX6_dry 40 = .ok (.iload_n 3, 1) := by decide +kernel
theorem dX6_dry_41 : decode cX6_dry 41 = .ok (.invokevirtual 210, 3) := by decide +kernel
theorem dX6_dry_44 : decode cX6_dry 44 = .ok (.ior, 1) := by decide +kernel
theorem dX6_dry_45 : decode cX6_dry 45 = .ok (.istore_n 2, 1) := by decide +kernel
theorem dX6_dry_46 : decode cX6_dry 46 = .ok (.iinc 3 1, 3) := by decide +kernel
theorem dX6_dry_49 : decode cX6_dry 49 = .ok (.goto (-19), 3) := by decide +kernel
theorem dX6_dry_52 : decode cX6_dry 52 = .ok (.iload_n 2, 1) := by decide +kernel
theorem dX6_dry_53 : decode cX6_dry 53 = .ok (.ireturn, 1) := by decide +kernel
theorem dX6_open_0 : decode cX6_open 0 = .ok (.aload_n 0, 1) := by decide +kernel
theorem dX6_open_1 : decode cX6_open 1 = .ok (.getfield 41, 3) := by decide +kernel
theorem dX6_open_4 : decode cX6_open 4 = .ok (.invokevirtual 138, 3) := by decide +kernel
theorem dX6_open_7 : decode cX6_open 7 = .ok (.ifCond .ne 6, 3) := by decide +kernel
theorem dX6_open_10 : decode cX6_open 10 = .ok (.ldc 134, 2) := by decide +kernel
theorem dX6_open_12 : decode cX6_open 12 = .ok (.ireturn, 1) := by decide +kernel
theorem dX6_open_13 : decode cX6_open 13 = .ok (.iload_n 1, 1) := by decide +kernel
theorem dX6_open_14 : decode cX6_open 14 = .ok (.iconst 1, 1) := by decide +kernel
theorem dX6_open_15 : decode cX6_open 15 = .ok (.bipush 60, 2) := by decide +kernel
theorem dX6_open_17 : decode cX6_open 17 = .ok (.invokestatic 65, 3) := by decide +kernel
theorem dX6_open_20 : decode cX6_open 20 = .ok (.ifCond .ne 6, 3) := by decide +kernel
theorem dX6_open_23 : decode cX6_open 23 = .ok (.ldc 69, 2) := by decide +kernel
theorem dX6_open_25 : decode cX6_open 25 = .ok (.ireturn, 1) := by decide +kernel
theorem dX6_open_26 : decode cX6_open 26 = .ok (.iconst 0, 1) := by decide +kernel
theorem dX6_open_27 : decode cX6_open 27 = .ok (.istore_n 2, 1) := by decide +kernel
theorem dX6_open_28 : decode cX6_open 28 = .ok (.iconst 0, 1) := by decide +kernel
theorem dX6_open_29 : decode cX6_open 29 = .ok (.istore_n 3, 1) := by decide +kernel
theorem dX6_open_30 : decode cX6_open 30 = .ok (.iload_n 3, 1) := by decide +kernel
theorem dX6_open_31 : decode cX6_open 31 = .ok (.iload_n 1, 1) := by decide +kernel
theorem dX6_open_32 : decode cX6_open 32 = .ok (.if_icmp .ge 23, 3) := by decide +kernel
theorem dX6_open_35 : decode cX6_open 35 = .ok (.iload_n 2, 1) := by decide +kernel
theorem dX6_open_36 : decode cX6_open 36 = .ok (.aload_n 0, 1) := by decide +kernel
theorem dX6_open_37 : decode cX6_open 37 = .ok (.getfield 41, 3) := by decide +kernel
theorem dX6_open_40 : decode cX6_open 40 = .ok (.iload_n 3, 1) := by decide +kernel
theorem dX6_open_41 : decode cX6_open 41 = .ok (.invokevirtual 185, 3) := by decide +kernel
theorem dX6_open_44 : decode cX6_open 44 = .ok (.invokestatic 181, 3) := by decide +kernel
theorem dX6_open_47 : decode cX6_open 47 = .ok (.iadd, 1) := by decide +kernel
theorem dX6_open_48 : decode cX6_open 48 = .ok (.istore_n 2, 1) := by decide +kernel
theorem dX6_open_49 : decode cX6_open 49 = .ok (.iinc 3 1, 3) := by decide +kernel
theorem dX6_open_52 : decode cX6_open 52 = .ok (.goto (-22), 3) := by decide +kernel
theorem dX6_open_55 : decode cX6_open 55 = .ok (.iload_n 2, 1) := by decide +kernel
theorem dX6_open_56 : decode cX6_open 56 = .ok (.ireturn, 1) := by decide +kernel
theorem dX6_first_0 : decode cX6_first 0 = .ok (.aload_n 0, 1) := by decide +kernel
theorem dX6_first_1 : decode cX6_first 1 = .ok (.getfield 41, 3) := by decide +kernel
theorem dX6_first_4 : decode cX6_first 4 = .ok (.invokevirtual 138, 3) := by decide +kernel
theorem dX6_first_7 : decode cX6_first 7 = .ok (.ifCond .ne 6, 3) := by decide +kernel
theorem dX6_first_10 : decode cX6_first 10 = .ok (.ldc 134, 2) := by decide +kernel
theorem dX6_first_12 : decode cX6_first 12 = .ok (.ireturn, 1) := by decide +kernel
theorem dX6_first_13 : decode cX6_first 13 = .ok (.iload_n 1, 1) := by decide +kernel
theorem dX6_first_14 : decode cX6_first 14 = .ok (.iconst 1, 1) := by decide +kernel
theorem dX6_first_15 : decode cX6_first 15 = .ok (.bipush 60, 2) := by decide +kernel
theorem dX6_first_17 : decode cX6_first 17 = .ok (.invokestatic 65, 3) := by decide +kernel
theorem dX6_first_20 : decode cX6_first 20 = .ok (.ifCond .ne 6, 3) := by decide +kernel
theorem dX6_first_23 : decode cX6_first 23 = .ok (.ldc 69, 2) := by decide +kernel
theorem dX6_first_25 : decode cX6_first 25 = .ok (.ireturn, 1) := by decide +kernel
theorem dX6_first_26 : decode cX6_first 26 = .ok (.aload_n 0, 1) := by decide +kernel
theorem dX6_first_27 : decode cX6_first 27 = .ok (.getfield 50, 3) := by decide +kernel
theorem dX6_first_30 : decode cX6_first 30 = .ok (.iload_n 1, 1) := by decide +kernel
theorem dX6_first_31 : decode cX6_first 31 = .ok (.invokevirtual 213, 3) := by decide +kernel
theorem dX6_first_34 : decode cX6_first 34 = .ok (.invokestatic 153, 3) := by decide +kernel
theorem dX6_first_37 : decode cX6_first 37 = .ok (.ireturn, 1) := by decide +kernel
theorem dX6_latest_0 : decode cX6_latest 0 = .ok (.aload_n 0, 1) := by decide +kernel
theorem dX6_latest_1 : decode cX6_latest 1 = .ok (.getfield 41, 3) := by decide +kernel
theorem dX6_latest_4 : decode cX6_latest 4 = .ok (.iload_n 1, 1) := by decide +kernel
theorem dX6_latest_5 : decode cX6_latest 5 = .ok (.invokevirtual 156, 3) := by decide +kernel
theorem dX6_latest_8 : decode cX6_latest 8 = .ok (.ifCond .eq 13, 3) := by decide +kernel
theorem dX6_latest_11 : decode cX6_latest 11 = .ok (.iload_n 2, 1) := by decide +kernel
theorem dX6_latest_12 : decode cX6_latest 12 = .ok (.iconst 1, 1) := by decide +kernel
theorem dX6_latest_13 : decode cX6_latest 13 = .ok (.bipush 40, 2) := by decide +kernel
theorem dX6_latest_15 : decode cX6_latest 15 = .ok (.invokestatic 65, 3) := by decide +kernel
theorem dX6_latest_18 : decode cX6_latest 18 = .ok (.ifCond .ne 6, 3) := by decide +kernel
theorem dX6_latest_21 : decode cX6_latest 21 = .ok (.ldc 69, 2) := by decide +kernel
theorem dX6_latest_23 : decode cX6_latest 23 = .ok (.ireturn, 1) := by decide +kernel
theorem dX6_latest_24 : decode cX6_latest 24 = .ok (.aload_n 0, 1) := by decide +kernel
theorem dX6_latest_25 : decode cX6_latest 25 = .ok (.getfield 41, 3) := by decide +kernel
theorem dX6_latest_28 : decode cX6_latest 28 = .ok (.iload_n 1, 1) := by decide +kernel
theorem dX6_latest_29 : decode cX6_latest 29 = .ok (.invokevirtual 159, 3) := by decide +kernel
theorem dX6_latest_32 : decode cX6_latest 32 = .ok (.ifCond .eq 6, 3) := by decide +kernel
theorem dX6_latest_35 : decode cX6_latest 35 = .ok (.ldc 134, 2) := by decide +kernel
theorem dX6_latest_37 : decode cX6_latest 37 = .ok (.ireturn, 1) := by decide +kernel
theorem dX6_latest_38 : decode cX6_latest 38 = .ok (.iload_n 2, 1) := by decide +kernel
theorem dX6_latest_39 : decode cX6_latest 39 = .ok (.iconst 1, 1) := by decide +kernel
theorem dX6_latest_40 : decode cX6_latest 40 = .ok (.isub, 1) := by decide +kernel
theorem dX6_latest_41 : decode cX6_latest 41 = .ok (.istore_n 3, 1) := by decide +kernel
theorem dX6_latest_42 : decode cX6_latest 42 = .ok (.iload_n 3, 1) := by decide +kernel
theorem dX6_latest_43 : decode cX6_latest 43 = .ok (.ifCond .lt 24, 3) := by decide +kernel
theorem dX6_latest_46 : decode cX6_latest 46 = .ok (.aload_n 0, 1) := by decide +kernel
theorem dX6_latest_47 : decode cX6_latest 47 = .ok (.getfield 50, 3) := by decide +kernel
theorem dX6_latest_50 : decode cX6_latest 50 = .ok (.iload_n 1, 1) := by decide +kernel
theorem dX6_latest_51 : decode cX6_latest 51 = .ok (.iload_n 3, 1) := by decide +kernel
theorem dX6_latest_52 : decode cX6_latest 52 = .ok (.iload_n 2, 1) := by decide +kernel
theorem dX6_latest_53 : decode cX6_latest 53 = .ok (.invokevirtual 216, 3) := by decide +kernel
theorem dX6_latest_56 : decode cX6_latest 56 = .ok (.ifCond .eq 5, 3) := by decide +kernel
theorem dX6_latest_59 : decode cX6_latest 59 = .ok (.iload_n 3, 1) := by decide +kernel
theorem dX6_latest_60 : decode cX6_latest 60 = .ok (.ireturn, 1) := by decide +kernel
theorem dX6_latest_61 : decode cX6_latest 61 = .ok (.iinc 3 (-1), 3) := by decide +kernel
theorem dX6_latest_64 : decode cX6_latest 64 = .ok (.goto (-22), 3) := by decide +kernel
theorem dX6_latest_67 : decode cX6_latest 67 = .ok (.ldc 209, 2) := by decide +kernel
theorem dX6_latest_69 : decode cX6_latest 69 = .ok (.ireturn, 1) := by decide +kernel
theorem dX6_winds_0 : decode cX6_winds 0 = .ok (.aload_n 0, 1) := by decide +kernel
theorem dX6_winds_1 : decode cX6_winds 1 = .ok (.getfield 41, 3) := by decide +kernel
theorem dX6_winds_4 : decode cX6_winds 4 = .ok (.iload_n 1, 1) := by decide +kernel
theorem dX6_winds_5 : decode cX6_winds 5 = .ok (.invokevirtual 156, 3) := by decide +kernel
theorem dX6_winds_8 : decode cX6_winds 8 = .ok (.ifCond .eq 13, 3) := by decide +kernel
theorem dX6_winds_11 : decode cX6_winds 11 = .ok (.iload_n 2, 1) := by decide +kernel
theorem dX6_winds_12 : decode cX6_winds 12 = .ok (.iconst 1, 1) := by decide +kernel
theorem dX6_winds_13 : decode cX6_winds 13 = .ok (.bipush 60, 2) := by decide +kernel
theorem dX6_winds_15 : decode cX6_winds 15 = .ok (.invokestatic 65, 3) := by decide +kernel
theorem dX6_winds_18 : decode cX6_winds 18 = .ok (.ifCond .ne 6, 3) := by decide +kernel
theorem dX6_winds_21 : decode cX6_winds 21 = .ok (.ldc 69, 2) := by decide +kernel
theorem dX6_winds_23 : decode cX6_winds 23 = .ok (.ireturn, 1) := by decide +kernel
theorem dX6_winds_24 : decode cX6_winds 24 = .ok (.aload_n 0, 1) := by decide +kernel
theorem dX6_winds_25 : decode cX6_winds 25 = .ok (.getfield 50, 3) := by decide +kernel
theorem dX6_winds_28 : decode cX6_winds 28 = .ok (.iload_n 1, 1) := by decide +kernel
theorem dX6_winds_29 : decode cX6_winds 29 = .ok (.iload_n 2, 1) := by decide +kernel
theorem dX6_winds_30 : decode cX6_winds 30 = .ok (.invokevirtual 219, 3) := by decide +kernel
theorem dX6_winds_33 : decode cX6_winds 33 = .ok (.ireturn, 1) := by decide +kernel
theorem dX6_recall_0 : decode cX6_recall 0 = .ok (.aload_n 0, 1) := by decide +kernel
theorem dX6_recall_1 : decode cX6_recall 1 = .ok (.getfield 41, 3) := by decide +kernel
theorem dX6_recall_4 : decode cX6_recall 4 = .ok (.iload_n 1, 1) := by decide +kernel
theorem dX6_recall_5 : decode cX6_recall 5 = .ok (.invokevirtual 156, 3) := by decide +kernel
theorem dX6_recall_8 : decode cX6_recall 8 = .ok (.ifCond .eq 22, 3) := by decide +kernel
theorem dX6_recall_11 : decode cX6_recall 11 = .ok (.iload_n 2, 1) := by decide +kernel
theorem dX6_recall_12 : decode cX6_recall 12 = .ok (.iconst 1, 1) := by decide +kernel
theorem dX6_recall_13 : decode cX6_recall 13 = .ok (.bipush 40, 2) := by decide +kernel
theorem dX6_recall_15 : decode cX6_recall 15 = .ok (.invokestatic 65, 3) := by decide +kernel
theorem dX6_recall_18 : decode cX6_recall 18 = .ok (.ifCond .eq 12, 3) := by decide +kernel
theorem dX6_recall_21 : decode cX6_recall 21 = .ok (.iload_n 3, 1) := by decide +kernel
theorem dX6_recall_22 : decode cX6_recall 22 = .ok (.iconst 0, 1) := by decide +kernel
theorem dX6_recall_23 : decode cX6_recall 23 = .ok (.iconst 1, 1) := by decide +kernel
theorem dX6_recall_24 : decode cX6_recall 24 = .ok (.invokestatic 65, 3) := by decide +kernel
theorem dX6_recall_27 : decode cX6_recall 27 = .ok (.ifCond .ne 6, 3) := by decide +kernel
theorem dX6_recall_30 : decode cX6_recall 30 = .ok (.ldc 69, 2) := by decide +kernel
theorem dX6_recall_32 : decode cX6_recall 32 = .ok (.ireturn, 1) := by decide +kernel
theorem dX6_recall_33 : decode cX6_recall 33 = .ok (.aload_n 0, 1) := by decide +kernel
theorem dX6_recall_34 : decode cX6_recall 34 = .ok (.getfield 50, 3) := by decide +kernel
theorem dX6_recall_37 : decode cX6_recall 37 = .ok (.iload_n 1, 1) := by decide +kernel
theorem dX6_recall_38 : decode cX6_recall 38 = .ok (.iload_n 2, 1) := by decide +kernel
theorem dX6_recall_39 : decode cX6_recall 39 = .ok (.invokevirtual 223, 3) := by decide +kernel
theorem dX6_recall_42 : decode cX6_recall 42 = .ok (.iload_n 3, 1) := by decide +kernel
theorem dX6_recall_43 : decode cX6_recall 43 = .ok (.invokestatic 226, 3) := by decide +kernel
theorem dX6_recall_46 : decode cX6_recall 46 = .ok (.ireturn, 1) := by decide +kernel
theorem dX6_fleet_0 : decode cX6_fleet 0 = .ok (.aload_n 0, 1) := by decide +kernel
theorem dX6_fleet_1 : decode cX6_fleet 1 = .ok (.getfield 41, 3) := by decide +kernel
theorem dX6_fleet_4 : decode cX6_fleet 4 = .ok (.invokevirtual 138, 3) := by decide +kernel
theorem dX6_fleet_7 : decode cX6_fleet 7 = .ok (.ifCond .ne 6, 3) := by decide +kernel
theorem dX6_fleet_10 : decode cX6_fleet 10 = .ok (.ldc 134, 2) := by decide +kernel
theorem dX6_fleet_12 : decode cX6_fleet 12 = .ok (.ireturn, 1) := by decide +kernel
theorem dX6_fleet_13 : decode cX6_fleet 13 = .ok (.iload_n 1, 1) := by decide +kernel
theorem dX6_fleet_14 : decode cX6_fleet 14 = .ok (.iconst 1, 1) := by decide +kernel
theorem dX6_fleet_15 : decode cX6_fleet 15 = .ok (.bipush 40, 2) := by decide +kernel
theorem dX6_fleet_17 : decode cX6_fleet 17 = .ok (.invokestatic 65, 3) := by decide +kernel
theorem dX6_fleet_20 : decode cX6_fleet 20 = .ok (.ifCond .eq 12, 3) := by decide +kernel
theorem dX6_fleet_23 : decode cX6_fleet 23 = .ok (.iload_n 2, 1) := by decide +kernel
theorem dX6_fleet_24 : decode cX6_fleet 24 = .ok (.iconst 0, 1) := by decide +kernel
theorem dX6_fleet_25 : decode cX6_fleet 25 = .ok (.iconst 1, 1) := by decide +kernel
theorem dX6_fleet_26 : decode cX6_fleet 26 = .ok (.invokestatic 65, 3) := by decide +kernel
theorem dX6_fleet_29 : decode cX6_fleet 29 = .ok (.ifCond .ne 6, 3) := by decide +kernel
theorem dX6_fleet_32 : decode cX6_fleet 32 = .ok (.ldc 69, 2) := by decide +kernel
theorem dX6_fleet_34 : decode cX6_fleet 34 = .ok (.ireturn, 1) := by decide +kernel
theorem dX6_fleet_35 : decode cX6_fleet 35 = .ok (.aload_n 0, 1) := by decide +kernel
theorem dX6_fleet_36 : decode cX6_fleet 36 = .ok (.getfield 50, 3) := by decide +kernel
theorem dX6_fleet_39 : decode cX6_fleet 39 = .ok (.iload_n 1, 1) := by decide +kernel
theorem dX6_fleet_40 : decode cX6_fleet 40 = .ok (.invokevirtual 229, 3) := by decide +kernel
theorem dX6_fleet_43 : decode cX6_fleet 43 = .ok (.iload_n 2, 1) := by decide +kernel
theorem dX6_fleet_44 : decode cX6_fleet 44 = .ok (.invokestatic 226, 3) := by decide +kernel
theorem dX6_fleet_47 : decode cX6_fleet 47 = .ok (.ireturn, 1) := by decide +kernel
theorem dX6_sandFor_0 : decode cX6_sandFor 0 = .ok (.aload_n 0, 1) := by decide +kernel
theorem dX6_sandFor_1 : decode cX6_sandFor 1 = .ok (.getfield 41, 3) := by decide +kernel
theorem dX6_sandFor_4 : decode cX6_sandFor 4 = .ok (.invokevirtual 138, 3) := by decide +kernel
theorem dX6_sandFor_7 : decode cX6_sandFor 7 = .ok (.ifCond .ne 6, 3) := by decide +kernel
theorem dX6_sandFor_10 : decode cX6_sandFor 10 = .ok (.ldc 134, 2) := by decide +kernel
theorem dX6_sandFor_12 : decode cX6_sandFor 12 = .ok (.ireturn, 1) := by decide +kernel
theorem dX6_sandFor_13 : decode cX6_sandFor 13 = .ok (.iload_n 1, 1) := by decide +kernel
theorem dX6_sandFor_14 : decode cX6_sandFor 14 = .ok (.iconst 1, 1) := by decide +kernel
theorem dX6_sandFor_15 : decode cX6_sandFor 15 = .ok (.bipush 60, 2) := by decide +kernel
theorem dX6_sandFor_17 : decode cX6_sandFor 17 = .ok (.invokestatic 65, 3) := by decide +kernel
theorem dX6_sandFor_20 : decode cX6_sandFor 20 = .ok (.ifCond .ne 6, 3) := by decide +kernel
theorem dX6_sandFor_23 : decode cX6_sandFor 23 = .ok (.ldc 69, 2) := by decide +kernel
theorem dX6_sandFor_25 : decode cX6_sandFor 25 = .ok (.ireturn, 1) := by decide +kernel
theorem dX6_sandFor_26 : decode cX6_sandFor 26 = .ok (.iconst 0, 1) := by decide +kernel
theorem dX6_sandFor_27 : decode cX6_sandFor 27 = .ok (.istore_n 2, 1) := by decide +kernel
theorem dX6_sandFor_28 : decode cX6_sandFor 28 = .ok (.iload_n 2, 1) := by decide +kernel
theorem dX6_sandFor_29 : decode cX6_sandFor 29 = .ok (.bipush 40, 2) := by decide +kernel
theorem dX6_sandFor_31 : decode cX6_sandFor 31 = .ok (.if_icmp .gt 23, 3) := by decide +kernel
theorem dX6_sandFor_34 : decode cX6_sandFor 34 = .ok (.aload_n 0, 1) := by decide +kernel
theorem dX6_sandFor_35 : decode cX6_sandFor 35 = .ok (.getfield 50, 3) := by decide +kernel
theorem dX6_sandFor_38 : decode cX6_sandFor 38 = .ok (.iload_n 2, 1) := by decide +kernel
theorem dX6_sandFor_39 : decode cX6_sandFor 39 = .ok (.iload_n 1, 1) := by decide +kernel
theorem dX6_sandFor_40 : decode cX6_sandFor 40 = .ok (.invokevirtual 232, 3) := by decide +kernel
theorem dX6_sandFor_43 : decode cX6_sandFor 43 = .ok (.ifCond .eq 5, 3) := by decide +kernel
theorem dX6_sandFor_46 : decode cX6_sandFor 46 = .ok (.iload_n 2, 1) := by decide +kernel
theorem dX6_sandFor_47 : decode cX6_sandFor 47 = .ok (.ireturn, 1) := by decide +kernel
theorem dX6_sandFor_48 : decode cX6_sandFor 48 = .ok (.iinc 2 1, 3) := by decide +kernel
theorem dX6_sandFor_51 : decode cX6_sandFor 51 = .ok (.goto (-23), 3) := by decide +kernel
theorem dX6_sandFor_54 : decode cX6_sandFor 54 = .ok (.ldc 209, 2) := by decide +kernel
theorem dX6_sandFor_56 : decode cX6_sandFor 56 = .ok (.ireturn, 1) := by decide +kernel
theorem dX6_who_0 : decode cX6_who 0 = .ok (.aload_n 0, 1) := by decide +kernel
theorem dX6_who_1 : decode cX6_who 1 = .ok (.getfield 41, 3) := by decide +kernel
theorem dX6_who_4 : decode cX6_who 4 = .ok (.iload_n 1, 1) := by decide +kernel
theorem dX6_who_5 : decode cX6_who 5 = .ok (.invokevirtual 156, 3) := by decide +kernel
theorem dX6_who_8 : decode cX6_who 8 = .ok (.ifCond .eq 12, 3) := by decide +kernel
theorem dX6_who_11 : decode cX6_who 11 = .ok (.iload_n 2, 1) := by decide +kernel
theorem dX6_who_12 : decode cX6_who 12 = .ok (.iconst 0, 1) := by decide +kernel
theorem dX6_who_13 : decode cX6_who 13 = .ok (.iconst 2, 1) := by decide +kernel
theorem dX6_who_14 : decode cX6_who 14 = .ok (.invokestatic 65, 3) := by decide +kernel
theorem dX6_who_17 : decode cX6_who 17 = .ok (.ifCond .ne 6, 3) := by decide +kernel
theorem dX6_who_20 : decode cX6_who 20 = .ok (.ldc 69, 2) := by decide +kernel
theorem dX6_who_22 : decode cX6_who 22 = .ok (.ireturn, 1) := by decide +kernel
theorem dX6_who_23 : decode cX6_who 23 = .ok (.iload_n 3, 1) := by decide +kernel
theorem dX6_who_24 : decode cX6_who 24 = .ok (.invokestatic 61, 3) := by decide +kernel
theorem dX6_who_27 : decode cX6_who 27 = .ok (.ifCond .eq 14, 3) := by decide +kernel
theorem dX6_who_30 : decode cX6_who 30 = .ok (.iload 5, 2) := by decide +kernel
theorem dX6_who_32 : decode cX6_who 32 = .ok (.iconst 1, 1) := by decide +kernel
theorem dX6_who_33 : decode cX6_who 33 = .ok (.bipush 12, 2) := by decide +kernel
theorem dX6_who_35 : decode cX6_who 35 = .ok (.invokestatic 65, 3) := by decide +kernel
theorem dX6_who_38 : decode cX6_who 38 = .ok (.ifCond .ne 6, 3) := by decide +kernel
theorem dX6_who_41 : decode cX6_who 41 = .ok (.ldc 69, 2) := by decide +kernel
theorem dX6_who_43 : decode cX6_who 43 = .ok (.ireturn, 1) := by decide +kernel
theorem dX6_who_44 : decode cX6_who 44 = .ok (.aload_n 0, 1) := by decide +kernel
theorem dX6_who_45 : decode cX6_who 45 = .ok (.getfield 10, 3) := by decide +kernel
theorem dX6_who_48 : decode cX6_who 48 = .ok (.iload_n 3, 1) := by decide +kernel
theorem dX6_who_49 : decode cX6_who 49 = .ok (.invokevirtual 81, 3) := by decide +kernel
theorem dX6_who_52 : decode cX6_who 52 = .ok (.ifCond .eq 9, 3) := by decide +kernel
theorem dX6_who_55 : decode cX6_who 55 = .ok (.aload_n 0, 1) := by decide +kernel
theorem dX6_who_56 : decode cX6_who 56 = .ok (.iconst 1, 1) := by decide +kernel
theorem dX6_who_57 : decode cX6_who 57 = .ok (.invokevirtual 70, 3) := by decide +kernel
theorem dX6_who_60 : decode cX6_who 60 = .ok (.ireturn, 1) := by decide +kernel
theorem dX6_who_61 : decode cX6_who 61 = .ok (.aload_n 0, 1) := by decide +kernel
theorem dX6_who_62 : decode cX6_who 62 = .ok (.getfield 10, 3) := by decide +kernel
theorem dX6_who_65 : decode cX6_who 65 = .ok (.iload_n 3, 1) := by decide +kernel
theorem dX6_who_66 : decode cX6_who 66 = .ok (.iload 4, 2) := by decide +kernel
theorem dX6_who_68 : decode cX6_who 68 = .ok (.iload 5, 2) := by decide +kernel
theorem dX6_who_70 : decode cX6_who 70 = .ok (.invokevirtual 84, 3) := by decide +kernel
theorem dX6_who_73 : decode cX6_who 73 = .ok (.ifCond .ne 9, 3) := by decide +kernel
theorem dX6_who_76 : decode cX6_who 76 = .ok (.aload_n 0, 1) := by decide +kernel
theorem dX6_who_77 : decode cX6_who 77 = .ok (.iconst 2, 1) := by decide +kernel
theorem dX6_who_78 : decode cX6_who 78 = .ok (.invokevirtual 70, 3) := by decide +kernel
theorem dX6_who_81 : decode cX6_who 81 = .ok (.ireturn, 1) := by decide +kernel
theorem dX6_who_82 : decode cX6_who 82 = .ok (.aload_n 0, 1) := by decide +kernel
theorem dX6_who_83 : decode cX6_who 83 = .ok (.aload_n 0, 1) := by decide +kernel
theorem dX6_who_84 : decode cX6_who 84 = .ok (.getfield 50, 3) := by decide +kernel
theorem dX6_who_87 : decode cX6_who 87 = .ok (.iload_n 1, 1) := by decide +kernel
theorem dX6_who_88 : decode cX6_who 88 = .ok (.iload_n 2, 1) := by decide +kernel
theorem dX6_who_89 : decode cX6_who 89 = .ok (.aload_n 0, 1) := by decide +kernel
theorem dX6_who_90 : decode cX6_who 90 = .ok (.getfield 10, 3) := by decide +kernel
theorem dX6_who_93 : decode cX6_who 93 = .ok (.getfield 235, 3) := by decide +kernel
theorem dX6_who_96 : decode cX6_who 96 = .ok (.iload_n 3, 1) := by decide +kernel
theorem dX6_who_97 : decode cX6_who 97 = .ok (.aaload, 1) := by decide +kernel
theorem dX6_who_98 : decode cX6_who 98 = .ok (.iload 4, 2) := by decide +kernel
theorem dX6_who_100 : decode cX6_who 100 = .ok (.iload 5, 2) := by decide +kernel
theorem dX6_who_102 : decode cX6_who 102 = .ok (.invokevirtual 239, 3) := by decide +kernel
theorem dX6_who_105 : decode cX6_who 105 = .ok (.invokevirtual 78, 3) := by decide +kernel
theorem dX6_who_108 : decode cX6_who 108 = .ok (.ireturn, 1) := by decide +kernel
theorem dX6_barred_0 : decode cX6_barred 0 = .ok (.aload_n 0, 1) := by decide +kernel
theorem dX6_barred_1 : decode cX6_barred 1 = .ok (.getfield 41, 3) := by decide +kernel
theorem dX6_barred_4 : decode cX6_barred 4 = .ok (.invokevirtual 138, 3) := by decide +kernel
theorem dX6_barred_7 : decode cX6_barred 7 = .ok (.ifCond .ne 6, 3) := by decide +kernel
theorem dX6_barred_10 : decode cX6_barred 10 = .ok (.ldc 134, 2) := by decide +kernel
theorem dX6_barred_12 : decode cX6_barred 12 = .ok (.ireturn, 1) := by decide +kernel
theorem dX6_barred_13 : decode cX6_barred 13 = .ok (.iload_n 1, 1) := by decide +kernel
theorem dX6_barred_14 : decode cX6_barred 14 = .ok (.invokestatic 61, 3) := by decide +kernel
theorem dX6_barred_17 : decode cX6_barred 17 = .ok (.ifCond .eq 13, 3) := by decide +kernel
theorem dX6_barred_20 : decode cX6_barred 20 = .ok (.iload_n 3, 1) := by decide +kernel
theorem dX6_barred_21 : decode cX6_barred 21 = .ok (.iconst 1, 1) := by decide +kernel
theorem dX6_barred_22 : decode cX6_barred 22 = .ok (.bipush 12, 2) := by decide +kernel
theorem dX6_barred_24 : decode cX6_barred 24 = .ok (.invokestatic 65, 3) := by decide +kernel
theorem dX6_barred_27 : decode cX6_barred 27 = .ok (.ifCond .ne 6, 3) := by decide +kernel
theorem dX6_barred_30 : decode cX6_barred 30 = .ok (.ldc 69, 2) := by decide +kernel
theorem dX6_barred_32 : decode cX6_barred 32 = .ok (.ireturn, 1) := by decide +kernel
theorem dX6_barred_33 : decode cX6_barred 33 = .ok (.aload_n 0, 1) := by decide +kernel
theorem dX6_barred_34 : decode cX6_barred 34 = .ok (.getfield 10, 3) := by decide +kernel
theorem dX6_barred_37 : decode cX6_barred 37 = .ok (.iload_n 1, 1) := by decide +kernel
theorem dX6_barred_38 : decode cX6_barred 38 = .ok (.invokevirtual 81, 3) := by decide +kernel
theorem dX6_barred_41 : decode cX6_barred 41 = .ok (.ifCond .eq 9, 3) := by decide +kernel
theorem dX6_barred_44 : decode cX6_barred 44 = .ok (.aload_n 0, 1) := by decide +kernel
theorem dX6_barred_45 : decode cX6_barred 45 = .ok (.iconst 1, 1) := by decide +kernel
theorem dX6_barred_46 : decode cX6_barred 46 = .ok (.invokevirtual 70, 3) := by decide +kernel
theorem dX6_barred_49 : decode cX6_barred 49 = .ok (.ireturn, 1) := by decide +kernel
theorem dX6_barred_50 : decode cX6_barred 50 = .ok (.aload_n 0, 1) := by decide +kernel
theorem dX6_barred_51 : decode cX6_barred 51 = .ok (.getfield 10, 3) := by decide +kernel
theorem dX6_barred_54 : decode cX6_barred 54 = .ok (.iload_n 1, 1) := by decide +kernel
theorem dX6_barred_55 : decode cX6_barred 55 = .ok (.iload_n 2, 1) := by decide +kernel
theorem dX6_barred_56 : decode cX6_barred 56 = .ok (.iload_n 3, 1) := by decide +kernel
theorem dX6_barred_57 : decode cX6_barred 57 = .ok (.invokevirtual 84, 3) := by decide +kernel
theorem dX6_barred_60 : decode cX6_barred 60 = .ok (.ifCond .ne 9, 3) := by decide +kernel
theorem dX6_barred_63 : decode cX6_barred 63 = .ok (.aload_n 0, 1) := by decide +kernel
theorem dX6_barred_64 : decode cX6_barred 64 = .ok (.iconst 2, 1) := by decide +kernel
theorem dX6_barred_65 : decode cX6_barred 65 = .ok (.invokevirtual 70, 3) := by decide +kernel
theorem dX6_barred_68 : decode cX6_barred 68 = .ok (.ireturn, 1) := by decide +kernel
theorem dX6_barred_69 : decode cX6_barred 69 = .ok (.aload_n 0, 1) := by decide +kernel
theorem dX6_barred_70 : decode cX6_barred 70 = .ok (.aload_n 0, 1) := by decide +kernel
theorem dX6_barred_71 : decode cX6_barred 71 = .ok (.getfield 50, 3) := by decide +kernel
theorem dX6_barred_74 : decode cX6_barred 74 = .ok (.aload_n 0, 1) := by decide +kernel
theorem dX6_barred_75 : decode cX6_barred 75 = .ok (.getfield 10, 3) := by decide +kernel
theorem dX6_barred_78 : decode cX6_barred 78 = .ok (.getfield 235, 3) := by decide +kernel
theorem dX6_barred_81 : decode cX6_barred 81 = .ok (.iload_n 1, 1) := by decide +kernel
theorem dX6_barred_82 : decode cX6_barred 82 = .ok (.aaload, 1) := by decide +kernel
theorem dX6_barred_83 : decode cX6_barred 83 = .ok (.iload_n 2, 1) := by decide +kernel
theorem dX6_barred_84 : decode cX6_barred 84 = .ok (.iload_n 3, 1) := by decide +kernel
theorem dX6_barred_85 : decode cX6_barred 85 = .ok (.invokevirtual 243, 3) := by decide +kernel
theorem dX6_barred_88 : decode cX6_barred 88 = .ok (.invokevirtual 78, 3) := by decide +kernel
theorem dX6_barred_91 : decode cX6_barred 91 = .ok (.ireturn, 1) := by decide +kernel
theorem dX6_rich_0 : decode cX6_rich 0 = .ok (.aload_n 0, 1) := by decide +kernel
theorem dX6_rich_1 : decode cX6_rich 1 = .ok (.getfield 41, 3) := by decide +kernel
theorem dX6_rich_4 : decode cX6_rich 4 = .ok (.invokevirtual 138, 3) := by decide +kernel
theorem dX6_rich_7 : decode cX6_rich 7 = .ok (.ifCond .ne 6, 3) := by decide +kernel
theorem dX6_rich_10 : decode cX6_rich 10 = .ok (.ldc 134, 2) := by decide +kernel
theorem dX6_rich_12 : decode cX6_rich 12 = .ok (.ireturn, 1) := by decide +kernel
theorem dX6_rich_13 : decode cX6_rich 13 = .ok (.iconst (-1), 1) := by decide +kernel
theorem dX6_rich_14 : decode cX6_rich 14 = .ok (.istore_n 1, 1) := by decide +kernel
theorem dX6_rich_15 : decode cX6_rich 15 = .ok (.iconst 0, 1) := by decide +kernel
theorem dX6_rich_16 : decode cX6_rich 16 = .ok (.istore_n 2, 1) := by decide +kernel
theorem dX6_rich_17 : decode cX6_rich 17 = .ok (.iload_n 2, 1) := by decide +kernel
theorem dX6_rich_18 : decode cX6_rich 18 = .ok (.aload_n 0, 1) := by decide +kernel
theorem dX6_rich_19 : decode cX6_rich 19 = .ok (.getfield 41, 3) := by decide +kernel
theorem dX6_rich_22 : decode cX6_rich 22 = .ok (.getfield 125, 3) := by decide +kernel
theorem dX6_rich_25 : decode cX6_rich 25 = .ok (.if_icmp .ge 41, 3) := by decide +kernel
theorem dX6_rich_28 : decode cX6_rich 28 = .ok (.aload_n 0, 1) := by decide +kernel
theorem dX6_rich_29 : decode cX6_rich 29 = .ok (.getfield 41, 3) := by decide +kernel
theorem dX6_rich_32 : decode cX6_rich 32 = .ok (.getfield 192, 3) := by decide +kernel
theorem dX6_rich_35 : decode cX6_rich 35 = .ok (.iload_n 2, 1) := by decide +kernel
theorem dX6_rich_36 : decode cX6_rich 36 = .ok (.iaload, 1) := by decide +kernel
theorem dX6_rich_37 : decode cX6_rich 37 = .ok (.iload_n 1, 1) := by decide +kernel
theorem dX6_rich_38 : decode cX6_rich 38 = .ok (.iconst (-1), 1) := by decide +kernel
theorem dX6_rich_39 : decode cX6_rich 39 = .ok (.if_icmp .ne 7, 3) := by decide +kernel
theorem dX6_rich_42 : decode cX6_rich 42 = .ok (.iconst 0, 1) := by decide +kernel
theorem dX6_rich_43 : decode cX6_rich 43 = .ok (.goto 12, 3) := by decide +kernel
theorem dX6_rich_46 : decode cX6_rich 46 = .ok (.aload_n 0, 1) := by decide +kernel
theorem dX6_rich_47 : decode cX6_rich 47 = .ok (.getfield 41, 3) := by decide +kernel
theorem dX6_rich_50 : decode cX6_rich 50 = .ok (.getfield 192, 3) := by decide +kernel
theorem dX6_rich_53 : decode cX6_rich 53 = .ok (.iload_n 1, 1) := by decide +kernel
theorem dX6_rich_54 : decode cX6_rich 54 = .ok (.iaload, 1) := by decide +kernel
theorem dX6_rich_55 : decode cX6_rich 55 = .ok (.if_icmp .le 5, 3) := by decide +kernel
theorem dX6_rich_58 : decode cX6_rich 58 = .ok (.iload_n 2, 1) := by decide +kernel
theorem dX6_rich_59 : decode cX6_rich 59 = .ok (.istore_n 1, 1) := by decide +kernel
theorem dX6_rich_60 : decode cX6_rich 60 = .ok (.iinc 2 1, 3) := by decide +kernel
theorem dX6_rich_63 : decode cX6_rich 63 = .ok (.goto (-46), 3) := by decide +kernel
theorem dX6_rich_66 : decode cX6_rich 66 = .ok (.iload_n 1, 1) := by decide +kernel
theorem dX6_rich_67 : decode cX6_rich 67 = .ok (.invokestatic 153, 3) := by decide +kernel
theorem dX6_rich_70 : decode cX6_rich 70 = .ok (.ireturn, 1) := by decide +kernel
theorem dX6_wreck_0 : decode cX6_wreck 0 = .ok (.aload_n 0, 1) := by decide +kernel
theorem dX6_wreck_1 : decode cX6_wreck 1 = .ok (.getfield 41, 3) := by decide +kernel
theorem dX6_wreck_4 : decode cX6_wreck 4 = .ok (.iload_n 1, 1) := by decide +kernel
theorem dX6_wreck_5 : decode cX6_wreck 5 = .ok (.invokevirtual 156, 3) := by decide +kernel
theorem dX6_wreck_8 : decode cX6_wreck 8 = .ok (.ifCond .eq 13, 3) := by decide +kernel
theorem dX6_wreck_11 : decode cX6_wreck 11 = .ok (.iload_n 2, 1) := by decide +kernel
theorem dX6_wreck_12 : decode cX6_wreck 12 = .ok (.iconst 0, 1) := by decide +kernel
theorem dX6_wreck_13 : decode cX6_wreck 13 = .ok (.bipush 60, 2) := by decide +kernel
theorem dX6_wreck_15 : decode cX6_wreck 15 = .ok (.invokestatic 65, 3) := by decide +kernel
theorem dX6_wreck_18 : decode cX6_wreck 18 = .ok (.ifCond .ne 7, 3) := by decide +kernel
theorem dX6_wreck_21 : decode cX6_wreck 21 = .ok (.ldc2_w 247, 3) := by decide +kernel
theorem dX6_wreck_24 : decode cX6_wreck 24 = .ok (.lreturn, 1) := by decide +kernel
theorem dX6_wreck_25 : decode cX6_wreck 25 = .ok (.iload_n 3, 1) := by decide +kernel
theorem dX6_wreck_26 : decode cX6_wreck 26 = .ok (.iconst 0, 1) := by decide +kernel
theorem dX6_wreck_27 : decode cX6_wreck 27 = .ok (.bipush 10, 2) := by decide +kernel
theorem dX6_wreck_29 : decode cX6_wreck 29 = .ok (.invokestatic 65, 3) := by decide +kernel
theorem dX6_wreck_32 : decode cX6_wreck 32 = .ok (.ifCond .eq 13, 3) := by decide +kernel
theorem dX6_wreck_35 : decode cX6_wreck 35 = .ok (.iload 4, 2) := by decide +kernel
theorem dX6_wreck_37 : decode cX6_wreck 37 = .ok (.iconst 0, 1) := by decide +kernel
theorem dX6_wreck_38 : decode cX6_wreck 38 = .ok (.iconst 1, 1) := by decide +kernel
theorem dX6_wreck_39 : decode cX6_wreck 39 = .ok (.invokestatic 65, 3) := by decide +kernel
theorem dX6_wreck_42 : decode cX6_wreck 42 = .ok (.ifCond .ne 7, 3) := by decide +kernel
theorem dX6_wreck_45 : decode cX6_wreck 45 = .ok (.ldc2_w 247, 3) := by decide +kernel
theorem dX6_wreck_48 : decode cX6_wreck 48 = .ok (.lreturn, 1) := by decide +kernel
theorem dX6_wreck_49 : decode cX6_wreck 49 = .ok (.aload_n 0, 1) := by decide +kernel
theorem dX6_wreck_50 : decode cX6_wreck 50 = .ok (.getfield 50, 3) := by decide +kernel
theorem dX6_wreck_53 : decode cX6_wreck 53 = .ok (.iload_n 1, 1) := by decide +kernel
theorem dX6_wreck_54 : decode cX6_wreck 54 = .ok (.iload_n 2, 1) := by decide +kernel
theorem dX6_wreck_55 : decode cX6_wreck 55 = .ok (.iload_n 3, 1) := by decide +kernel
theorem dX6_wreck_56 : decode cX6_wreck 56 = .ok (.invokevirtual 249, 3) := by decide +kernel
theorem dX6_wreck_59 : decode cX6_wreck 59 = .ok (.lstore 5, 2) := by decide +kernel
theorem dX6_wreck_61 : decode cX6_wreck 61 = .ok (.aload_n 0, 1) := by decide +kernel
theorem dX6_wreck_62 : decode cX6_wreck 62 = .ok (.getfield 50, 3) := by decide +kernel
theorem dX6_wreck_65 : decode cX6_wreck 65 = .ok (.invokevirtual 253, 3) := by decide +kernel
theorem dX6_wreck_68 : decode cX6_wreck 68 = .ok (.lstore 7, 2) := by decide +kernel
theorem dX6_wreck_70 : decode cX6_wreck 70 = .ok (.lload 7, 2) := by decide +kernel
theorem dX6_wreck_72 : decode cX6_wreck 72 = .ok (.lload 5, 2) := by decide +kernel
theorem dX6_wreck_74 : decode cX6_wreck 74 = .ok (.invokestatic 257, 3) := by decide +kernel
theorem dX6_wreck_77 : decode cX6_wreck 77 = .ok (.lstore 9, 2) := by decide +kernel
theorem dX6_wreck_79 : decode cX6_wreck 79 = .ok (.lload 9, 2) := by decide +kernel
theorem dX6_wreck_81 : decode cX6_wreck 81 = .ok (.lconst 1, 1) := by decide +kernel
theorem dX6_wreck_82 : decode cX6_wreck 82 = .ok (.lcmp, 1) := by decide +kernel
theorem dX6_wreck_83 : decode cX6_wreck 83 = .ok (.ifCond .ge 7, 3) := by decide +kernel
theorem dX6_wreck_86 : decode cX6_wreck 86 = .ok (.ldc2_w 247, 3) := by decide +kernel
theorem dX6_wreck_89 : decode cX6_wreck 89 = .ok (.lreturn, 1) := by decide +kernel
theorem dX6_wreck_90 : decode cX6_wreck 90 = .ok (.iload 4, 2) := by decide +kernel
theorem dX6_wreck_92 : decode cX6_wreck 92 = .ok (.ifCond .ne 8, 3) := by decide +kernel
theorem dX6_wreck_95 : decode cX6_wreck 95 = .ok (.lload 5, 2) := by decide +kernel
theorem dX6_wreck_97 : decode cX6_wreck 97 = .ok (.goto 5, 3) := by decide +kernel
theorem dX6_wreck_100 : decode cX6_wreck 100 = .ok (.lload 7, 2) := by decide +kernel
theorem dX6_wreck_102 : decode cX6_wreck 102 = .ok (.lload 9, 2) := by decide +kernel
theorem dX6_wreck_104 : decode cX6_wreck 104 = .ok (.ldiv, 1) := by decide +kernel
theorem dX6_wreck_105 : decode cX6_wreck 105 = .ok (.lreturn, 1) := by decide +kernel
theorem dX6_drawn_0 : decode cX6_drawn 0 = .ok (.aload_n 0, 1) := by decide +kernel
theorem dX6_drawn_1 : decode cX6_drawn 1 = .ok (.getfield 41, 3) := by decide +kernel
theorem dX6_drawn_4 : decode cX6_drawn 4 = .ok (.invokevirtual 138, 3) := by decide +kernel
theorem dX6_drawn_7 : decode cX6_drawn 7 = .ok (.ifCond .ne 6, 3) := by decide +kernel
theorem dX6_drawn_10 : decode cX6_drawn 10 = .ok (.ldc 134, 2) := by decide +kernel
theorem dX6_drawn_12 : decode cX6_drawn 12 = .ok (.ireturn, 1) := by decide +kernel
theorem dX6_drawn_13 : decode cX6_drawn 13 = .ok (.iload_n 1, 1) := by decide +kernel
theorem dX6_drawn_14 : decode cX6_drawn 14 = .ok (.iconst 0, 1) := by decide +kernel
theorem dX6_drawn_15 : decode cX6_drawn 15 = .ok (.bipush 60, 2) := by decide +kernel
theorem dX6_drawn_17 : decode cX6_drawn 17 = .ok (.invokestatic 65, 3) := by decide +kernel
theorem dX6_drawn_20 : decode cX6_drawn 20 = .ok (.ifCond .eq 23, 3) := by decide +kernel
theorem dX6_drawn_23 : decode cX6_drawn 23 = .ok (.iload_n 2, 1) := by decide +kernel
theorem dX6_drawn_24 : decode cX6_drawn 24 = .ok (.iconst 1, 1) := by decide +kernel
theorem dX6_drawn_25 : decode cX6_drawn 25 = .ok (.ldc_w 261, 3) := by decide +kernel
theorem dX6_drawn_28 : decode cX6_drawn 28 = .ok (.invokestatic 65, 3) := by decide +kernel
theorem dX6_drawn_31 : decode cX6_drawn 31 = .ok (.ifCond .eq 12, 3) := by decide +kernel
theorem dX6_drawn_34 : decode cX6_drawn 34 = .ok (.iload_n 3, 1) := by decide +kernel
theorem dX6_drawn_35 : decode cX6_drawn 35 = .ok (.iconst 0, 1) := by decide +kernel
theorem dX6_drawn_36 : decode cX6_drawn 36 = .ok (.iconst 1, 1) := by decide +kernel
theorem dX6_drawn_37 : decode cX6_drawn 37 = .ok (.invokestatic 65, 3) := by decide +kernel
theorem dX6_drawn_40 : decode cX6_drawn 40 = .ok (.ifCond .ne 6, 3) := by decide +kernel
theorem dX6_drawn_43 : decode cX6_drawn 43 = .ok (.ldc 69, 2) := by decide +kernel
theorem dX6_drawn_45 : decode cX6_drawn 45 = .ok (.ireturn, 1) := by decide +kernel
theorem dX6_drawn_46 : decode cX6_drawn 46 = .ok (.aload_n 0, 1) := by decide +kernel
theorem dX6_drawn_47 : decode cX6_drawn 47 = .ok (.getfield 50, 3) := by decide +kernel
theorem dX6_drawn_50 : decode cX6_drawn 50 = .ok (.iload_n 1, 1) := by decide +kernel
theorem dX6_drawn_51 : decode cX6_drawn 51 = .ok (.iload_n 2, 1) := by decide +kernel
theorem dX6_drawn_52 : decode cX6_drawn 52 = .ok (.iload_n 3, 1) := by decide +kernel
theorem dX6_drawn_53 : decode cX6_drawn 53 = .ok (.iconst 1, 1) := by decide +kernel
theorem dX6_drawn_54 : decode cX6_drawn 54 = .ok (.if_icmp .ne 7, 3) := by decide +kernel
theorem dX6_drawn_57 : decode cX6_drawn 57 = .ok (.iconst 1, 1) := by decide +kernel
theorem dX6_drawn_58 : decode cX6_drawn 58 = .ok (.goto 4, 3) := by decide +kernel
theorem dX6_drawn_61 : decode cX6_drawn 61 = .ok (.iconst 0, 1) := by decide +kernel
theorem dX6_drawn_62 : decode cX6_drawn 62 = .ok (.invokevirtual 262, 3) := by decide +kernel
theorem dX6_drawn_65 : decode cX6_drawn 65 = .ok (.ireturn, 1) := by decide +kernel
theorem dX6_image_0 : decode cX6_image 0 = .ok (.iload_n 1, 1) := by decide +kernel
theorem dX6_image_1 : decode cX6_image 1 = .ok (.iconst 0, 1) := by decide +kernel
theorem dX6_image_2 : decode cX6_image 2 = .ok (.iconst 1, 1) := by decide +kernel
theorem dX6_image_3 : decode cX6_image 3 = .ok (.invokestatic 65, 3) := by decide +kernel
theorem dX6_image_6 : decode cX6_image 6 = .ok (.ifCond .ne 6, 3) := by decide +kernel
theorem dX6_image_9 : decode cX6_image 9 = .ok (.ldc 69, 2) := by decide +kernel
theorem dX6_image_11 : decode cX6_image 11 = .ok (.ireturn, 1) := by decide +kernel
theorem dX6_image_12 : decode cX6_image 12 = .ok (.aload_n 0, 1) := by decide +kernel
theorem dX6_image_13 : decode cX6_image 13 = .ok (.getfield 41, 3) := by decide +kernel
theorem dX6_image_16 : decode cX6_image 16 = .ok (.invokevirtual 138, 3) := by decide +kernel
theorem dX6_image_19 : decode cX6_image 19 = .ok (.ifCond .ne 6, 3) := by decide +kernel
theorem dX6_image_22 : decode cX6_image 22 = .ok (.ldc 134, 2) := by decide +kernel
theorem dX6_image_24 : decode cX6_image 24 = .ok (.ireturn, 1) := by decide +kernel
theorem dX6_image_25 : decode cX6_image 25 = .ok (.aload_n 0, 1) := by decide +kernel
theorem dX6_image_26 : decode cX6_image 26 = .ok (.getfield 33, 3) := by decide +kernel
theorem dX6_image_29 : decode cX6_image 29 = .ok (.iload_n 1, 1) := by decide +kernel
theorem dX6_image_30 : decode cX6_image 30 = .ok (.aaload, 1) := by decide +kernel
theorem dX6_image_31 : decode cX6_image 31 = .ok (.aload_n 0, 1) := by decide +kernel
theorem dX6_image_32 : decode cX6_image 32 = .ok (.getfield 41, 3) := by decide +kernel
theorem dX6_image_35 : decode cX6_image 35 = .ok (.invokevirtual 119, 3) := by decide +kernel
theorem dX6_image_38 : decode cX6_image 38 = .ok (.iconst 1, 1) := by decide +kernel
theorem dX6_image_39 : decode cX6_image 39 = .ok (.ireturn, 1) := by decide +kernel
theorem dX6_restore_0 : decode cX6_restore 0 = .ok (.iload_n 1, 1) := by decide +kernel
theorem dX6_restore_1 : decode cX6_restore 1 = .ok (.iconst 0, 1) := by decide +kernel
theorem dX6_restore_2 : decode cX6_restore 2 = .ok (.iconst 1, 1) := by decide +kernel
theorem dX6_restore_3 : decode cX6_restore 3 = .ok (.invokestatic 65, 3) := by decide +kernel
theorem dX6_restore_6 : decode cX6_restore 6 = .ok (.ifCond .ne 6, 3) := by decide +kernel
theorem dX6_restore_9 : decode cX6_restore 9 = .ok (.ldc 69, 2) := by decide +kernel
theorem dX6_restore_11 : decode cX6_restore 11 = .ok (.ireturn, 1) := by decide +kernel
theorem dX6_restore_12 : decode cX6_restore 12 = .ok (.aload_n 0, 1) := by decide +kernel
theorem dX6_restore_13 : decode cX6_restore 13 = .ok (.getfield 33, 3) := by decide +kernel
theorem dX6_restore_16 : decode cX6_restore 16 = .ok (.iload_n 1, 1) := by decide +kernel
theorem dX6_restore_17 : decode cX6_restore 17 = .ok (.aaload, 1) := by decide +kernel
theorem dX6_restore_18 : decode cX6_restore 18 = .ok (.invokevirtual 138, 3) := by decide +kernel
theorem dX6_restore_21 : decode cX6_restore 21 = .ok (.ifCond .ne 6, 3) := by decide +kernel
theorem dX6_restore_24 : decode cX6_restore 24 = .ok (.ldc 134, 2) := by decide +kernel
theorem dX6_restore_26 : decode cX6_restore 26 = .ok (.ireturn, 1) := by decide +kernel
theorem dX6_restore_27 : decode cX6_restore 27 = .ok (.aload_n 0, 1) := by decide +kernel
theorem dX6_restore_28 : decode cX6_restore 28 = .ok (.getfield 41, 3) := by decide +kernel
theorem dX6_restore_31 : decode cX6_restore 31 = .ok (.aload_n 0, 1) := by decide +kernel
theorem dX6_restore_32 : decode cX6_restore 32 = .ok (.getfield 33, 3) := by decide +kernel
theorem dX6_restore_35 : decode cX6_restore 35 = .ok (.iload_n 1, 1) := by decide +kernel
theorem dX6_restore_36 : decode cX6_restore 36 = .ok (.aaload, 1) := by decide +kernel
theorem dX6_restore_37 : decode cX6_restore 37 = .ok (.invokevirtual 119, 3) := by decide +kernel
theorem dX6_restore_40 : decode cX6_restore 40 = .ok (.aload_n 0, 1) := by decide +kernel
theorem dX6_restore_41 : decode cX6_restore 41 = .ok (.getfield 26, 3) := by decide +kernel
theorem dX6_restore_44 : decode cX6_restore 44 = .ok (.invokevirtual 122, 3) := by decide +kernel
theorem dX6_restore_47 : decode cX6_restore 47 = .ok (.iconst 1, 1) := by decide +kernel
theorem dX6_restore_48 : decode cX6_restore 48 = .ok (.ireturn, 1) := by decide +kernel
theorem dX6_kind_0 : decode cX6_kind 0 = .ok (.aload_n 0, 1) := by decide +kernel
theorem dX6_kind_1 : decode cX6_kind 1 = .ok (.getfield 41, 3) := by decide +kernel
theorem dX6_kind_4 : decode cX6_kind 4 = .ok (.iload_n 1, 1) := by decide +kernel
theorem dX6_kind_5 : decode cX6_kind 5 = .ok (.invokevirtual 156, 3) := by decide +kernel
theorem dX6_kind_8 : decode cX6_kind 8 = .ok (.ifCond .eq 15, 3) := by decide +kernel
theorem dX6_kind_11 : decode cX6_kind 11 = .ok (.aload_n 0, 1) := by decide +kernel
theorem dX6_kind_12 : decode cX6_kind 12 = .ok (.getfield 41, 3) := by decide +kernel
theorem dX6_kind_15 : decode cX6_kind 15 = .ok (.getfield 266, 3) := by decide +kernel
theorem dX6_kind_18 : decode cX6_kind 18 = .ok (.iload_n 1, 1) := by decide +kernel
theorem dX6_kind_19 : decode cX6_kind 19 = .ok (.iaload, 1) := by decide +kernel
theorem dX6_kind_20 : decode cX6_kind 20 = .ok (.goto 5, 3) := by decide +kernel
theorem dX6_kind_23 : decode cX6_kind 23 = .ok (.ldc 69, 2) := by decide +kernel
theorem dX6_kind_25 : decode cX6_kind 25 = .ok (.ireturn, 1) := by decide +kernel
theorem dX6_as_0 : decode cX6_as 0 = .ok (.aload_n 0, 1) := by decide +kernel
theorem dX6_as_1 : decode cX6_as 1 = .ok (.getfield 41, 3) := by decide +kernel
theorem dX6_as_4 : decode cX6_as 4 = .ok (.iload_n 1, 1) := by decide +kernel
theorem dX6_as_5 : decode cX6_as 5 = .ok (.invokevirtual 156, 3) := by decide +kernel
theorem dX6_as_8 : decode cX6_as 8 = .ok (.ifCond .eq 12, 3) := by decide +kernel
theorem dX6_as_11 : decode cX6_as 11 = .ok (.iload_n 2, 1) := by decide +kernel
theorem dX6_as_12 : decode cX6_as 12 = .ok (.iconst 0, 1) := by decide +kernel
theorem dX6_as_13 : decode cX6_as 13 = .ok (.iconst 5, 1) := by decide +kernel
theorem dX6_as_14 : decode cX6_as 14 = .ok (.invokestatic 65, 3) := by decide +kernel
theorem dX6_as_17 : decode cX6_as 17 = .ok (.ifCond .ne 6, 3) := by decide +kernel
theorem dX6_as_20 : decode cX6_as 20 = .ok (.ldc 69, 2) := by decide +kernel
theorem dX6_as_22 : decode cX6_as 22 = .ok (.ireturn, 1) := by decide +kernel
theorem dX6_as_23 : decode cX6_as 23 = .ok (.aload_n 0, 1) := by decide +kernel
theorem dX6_as_24 : decode cX6_as 24 = .ok (.getfield 41, 3) := by decide +kernel
theorem dX6_as_27 : decode cX6_as 27 = .ok (.getfield 266, 3) := by decide +kernel
theorem dX6_as_30 : decode cX6_as 30 = .ok (.iload_n 1, 1) := by decide +kernel
theorem dX6_as_31 : decode cX6_as 31 = .ok (.iaload, 1) := by decide +kernel
theorem dX6_as_32 : decode cX6_as 32 = .ok (.iload_n 2, 1) := by decide +kernel
theorem dX6_as_33 : decode cX6_as 33 = .ok (.invokestatic 269, 3) := by decide +kernel
theorem dX6_as_36 : decode cX6_as 36 = .ok (.ifCond .ne 9, 3) := by decide +kernel
theorem dX6_as_39 : decode cX6_as 39 = .ok (.aload_n 0, 1) := by decide +kernel
theorem dX6_as_40 : decode cX6_as 40 = .ok (.iconst 3, 1) := by decide +kernel
theorem dX6_as_41 : decode cX6_as 41 = .ok (.invokevirtual 70, 3) := by decide +kernel
theorem dX6_as_44 : decode cX6_as 44 = .ok (.ireturn, 1) := by decide +kernel
theorem dX6_as_45 : decode cX6_as 45 = .ok (.aload_n 0, 1) := by decide +kernel
theorem dX6_as_46 : decode cX6_as 46 = .ok (.iload_n 1, 1) := by decide +kernel
theorem dX6_as_47 : decode cX6_as 47 = .ok (.invokevirtual 78, 3) := by decide +kernel
theorem dX6_as_50 : decode cX6_as 50 = .ok (.ireturn, 1) := by decide +kernel
theorem dX6_ask_0 : decode cX6_ask 0 = .ok (.aload_n 0, 1) := by decide +kernel
theorem dX6_ask_1 : decode cX6_ask 1 = .ok (.getfield 41, 3) := by decide +kernel
theorem dX6_ask_4 : decode cX6_ask 4 = .ok (.iload_n 1, 1) := by decide +kernel
theorem dX6_ask_5 : decode cX6_ask 5 = .ok (.invokevirtual 156, 3) := by decide +kernel
theorem dX6_ask_8 : decode cX6_ask 8 = .ok (.ifCond .eq 12, 3) := by decide +kernel
theorem dX6_ask_11 : decode cX6_ask 11 = .ok (.iload_n 2, 1) := by decide +kernel
theorem dX6_ask_12 : decode cX6_ask 12 = .ok (.iconst 0, 1) := by decide +kernel
theorem dX6_ask_13 : decode cX6_ask 13 = .ok (.iconst 1, 1) := by decide +kernel
theorem dX6_ask_14 : decode cX6_ask 14 = .ok (.invokestatic 65, 3) := by decide +kernel
theorem dX6_ask_17 : decode cX6_ask 17 = .ok (.ifCond .ne 6, 3) := by decide +kernel
theorem dX6_ask_20 : decode cX6_ask 20 = .ok (.ldc 69, 2) := by decide +kernel
theorem dX6_ask_22 : decode cX6_ask 22 = .ok (.ireturn, 1) := by decide +kernel
theorem dX6_ask_23 : decode cX6_ask 23 = .ok (.aload_n 0, 1) := by decide +kernel
theorem dX6_ask_24 : decode cX6_ask 24 = .ok (.getfield 57, 3) := by decide +kernel
theorem dX6_ask_27 : decode cX6_ask 27 = .ok (.iload_n 1, 1) := by decide +kernel
theorem dX6_ask_28 : decode cX6_ask 28 = .ok (.iload_n 2, 1) := by decide +kernel
theorem dX6_ask_29 : decode cX6_ask 29 = .ok (.iconst 1, 1) := by decide +kernel
theorem dX6_ask_30 : decode cX6_ask 30 = .ok (.if_icmp .ne 7, 3) := by decide +kernel
theorem dX6_ask_33 : decode cX6_ask 33 = .ok (.iconst 1, 1) := by decide +kernel
theorem dX6_ask_34 : decode cX6_ask 34 = .ok (.goto 4, 3) := by decide +kernel
theorem dX6_ask_37 : decode cX6_ask 37 = .ok (.iconst 0, 1) := by decide +kernel
theorem dX6_ask_38 : decode cX6_ask 38 = .ok (.invokevirtual 272, 3) := by decide +kernel
theorem dX6_ask_41 : decode cX6_ask 41 = .ok (.ireturn, 1) := by decide +kernel
theorem dX6_trace_0 : decode cX6_trace 0 = .ok (.iload_n 1, 1) := by decide +kernel
theorem dX6_trace_1 : decode cX6_trace 1 = .ok (.iconst 0, 1) := by decide +kernel
theorem dX6_trace_2 : decode cX6_trace 2 = .ok (.aload_n 0, 1) := by decide +kernel
theorem dX6_trace_3 : decode cX6_trace 3 = .ok (.getfield 57, 3) := by decide +kernel
theorem dX6_trace_6 : decode cX6_trace 6 = .ok (.getfield 275, 3) := by decide +kernel
theorem dX6_trace_9 : decode cX6_trace 9 = .ok (.iconst 1, 1) := by decide +kernel
theorem dX6_trace_10 : decode cX6_trace 10 = .ok (.isub, 1) := by decide +kernel
theorem dX6_trace_11 : decode cX6_trace 11 = .ok (.invokestatic 65, 3) := by decide +kernel
theorem dX6_trace_14 : decode cX6_trace 14 = .ok (.ifCond .eq 15, 3) := by decide +kernel
theorem dX6_trace_17 : decode cX6_trace 17 = .ok (.aload_n 0, 1) := by decide +kernel
theorem dX6_trace_18 : decode cX6_trace 18 = .ok (.getfield 57, 3) := by decide +kernel
theorem dX6_trace_21 : decode cX6_trace 21 = .ok (.getfield 278, 3) := by decide +kernel
theorem dX6_trace_24 : decode cX6_trace 24 = .ok (.iload_n 1, 1) := by decide +kernel
theorem dX6_trace_25 : decode cX6_trace 25 = .ok (.iaload, 1) := by decide +kernel
theorem dX6_trace_26 : decode cX6_trace 26 = .ok (.goto 5, 3) := by decide +kernel
theorem dX6_trace_29 : decode cX6_trace 29 = .ok (.ldc 209, 2) := by decide +kernel
theorem dX6_trace_31 : decode cX6_trace 31 = .ok (.ireturn, 1) := by decide +kernel
theorem dX6_count_0 : decode cX6_count 0 = .ok (.iload_n 1, 1) := by decide +kernel
theorem dX6_count_1 : decode cX6_count 1 = .ok (.tableswitch 111 0 7 #[47, 55, 63, 71, 79, 87, 95, 103], 47) := by decide +kernel
theorem dX6_count_48 : decode cX6_count 48 = .ok (.aload_n 0, 1) := by decide +kernel
theorem dX6_count_49 : decode cX6_count 49 = .ok (.getfield 10, 3) := by decide +kernel
theorem dX6_count_52 : decode cX6_count 52 = .ok (.invokevirtual 281, 3) := by decide +kernel
theorem dX6_count_55 : decode cX6_count 55 = .ok (.ireturn, 1) := by decide +kernel
theorem dX6_count_56 : decode cX6_count 56 = .ok (.aload_n 0, 1) := by decide +kernel
theorem dX6_count_57 : decode cX6_count 57 = .ok (.getfield 41, 3) := by decide +kernel
theorem dX6_count_60 : decode cX6_count 60 = .ok (.getfield 284, 3) := by decide +kernel
theorem dX6_count_63 : decode cX6_count 63 = .ok (.ireturn, 1) := by decide +kernel
theorem dX6_count_64 : decode cX6_count 64 = .ok (.aload_n 0, 1) := by decide +kernel
theorem dX6_count_65 : decode cX6_count 65 = .ok (.getfield 41, 3) := by decide +kernel
theorem dX6_count_68 : decode cX6_count 68 = .ok (.getfield 125, 3) := by decide +kernel
theorem dX6_count_71 : decode cX6_count 71 = .ok (.ireturn, 1) := by decide +kernel
theorem dX6_count_72 : decode cX6_count 72 = .ok (.aload_n 0, 1) := by decide +kernel
theorem dX6_count_73 : decode cX6_count 73 = .ok (.getfield 41, 3) := by decide +kernel
theorem dX6_count_76 : decode cX6_count 76 = .ok (.getfield 141, 3) := by decide +kernel
theorem dX6_count_79 : decode cX6_count 79 = .ok (.ireturn, 1) := by decide +kernel
theorem dX6_count_80 : decode cX6_count 80 = .ok (.aload_n 0, 1) := by decide +kernel
theorem dX6_count_81 : decode cX6_count 81 = .ok (.getfield 41, 3) := by decide +kernel
theorem dX6_count_84 : decode cX6_count 84 = .ok (.getfield 162, 3) := by decide +kernel
theorem dX6_count_87 : decode cX6_count 87 = .ok (.ireturn, 1) := by decide +kernel
theorem dX6_count_88 : decode cX6_count 88 = .ok (.aload_n 0, 1) := by decide +kernel
theorem dX6_count_89 : decode cX6_count 89 = .ok (.getfield 41, 3) := by decide +kernel
theorem dX6_count_92 : decode cX6_count 92 = .ok (.invokevirtual 287, 3) := by decide +kernel
theorem dX6_count_95 : decode cX6_count 95 = .ok (.ireturn, 1) := by decide +kernel
theorem dX6_count_96 : decode cX6_count 96 = .ok (.aload_n 0, 1) := by decide +kernel
theorem dX6_count_97 : decode cX6_count 97 = .ok (.getfield 26, 3) := by decide +kernel
theorem dX6_count_100 : decode cX6_count 100 = .ok (.getfield 131, 3) := by decide +kernel
theorem dX6_count_103 : decode cX6_count 103 = .ok (.ireturn, 1) := by decide +kernel
theorem dX6_count_104 : decode cX6_count 104 = .ok (.aload_n 0, 1) := by decide +kernel
theorem dX6_count_105 : decode cX6_count 105 = .ok (.getfield 19, 3) := by decide +kernel
theorem dX6_count_108 : decode cX6_count 108 = .ok (.getfield 290, 3) := by decide +kernel
theorem dX6_count_111 : decode cX6_count 111 = .ok (.ireturn, 1) := by decide +kernel
theorem dX6_count_112 : decode cX6_count 112 = .ok (.ldc 69, 2) := by decide +kernel
theorem dX6_count_114 : decode cX6_count 114 = .ok (.ireturn, 1) := by decide +kernel
theorem dX6_status_0 : decode cX6_status 0 = .ok (.aload_n 0, 1) := by decide +kernel
theorem dX6_status_1 : decode cX6_status 1 = .ok (.getfield 37, 3) := by decide +kernel
theorem dX6_status_4 : decode cX6_status 4 = .ok (.ireturn, 1) := by decide +kernel
theorem dX6_finding_0 : decode cX6_finding 0 = .ok (.aload_n 0, 1) := by decide +kernel
theorem dX6_finding_1 : decode cX6_finding 1 = .ok (.iload_n 1, 1) := by decide +kernel
theorem dX6_finding_2 : decode cX6_finding 2 = .ok (.putfield 37, 3) := by decide +kernel
theorem dX6_finding_5 : decode cX6_finding 5 = .ok (.ldc_w 291, 3) := by decide +kernel
theorem dX6_finding_8 : decode cX6_finding 8 = .ok (.iload_n 1, 1) := by decide +kernel
theorem dX6_finding_9 : decode cX6_finding 9 = .ok (.isub, 1) := by decide +kernel
theorem dX6_finding_10 : decode cX6_finding 10 = .ok (.ireturn, 1) := by decide +kernel
theorem dX6_fine_0 : decode cX6_fine 0 = .ok (.aload_n 0, 1) := by decide +kernel
theorem dX6_fine_1 : decode cX6_fine 1 = .ok (.iconst 0, 1) := by decide +kernel
theorem dX6_fine_2 : decode cX6_fine 2 = .ok (.putfield 37, 3) := by decide +kernel
theorem dX6_fine_5 : decode cX6_fine 5 = .ok (.iload_n 1, 1) := by decide +kernel
theorem dX6_fine_6 : decode cX6_fine 6 = .ok (.ireturn, 1) := by decide +kernel
theorem dX6_within_0 : decode cX6_within 0 = .ok (.iload_n 0, 1) := by decide +kernel
theorem dX6_within_1 : decode cX6_within 1 = .ok (.iload_n 1, 1) := by decide +kernel
theorem dX6_within_2 : decode cX6_within 2 = .ok (.if_icmp .lt 12, 3) := by decide +kernel
theorem dX6_within_5 : decode cX6_within 5 = .ok (.iload_n 0, 1) := by decide +kernel
theorem dX6_within_6 : decode cX6_within 6 = .ok (.iload_n 2, 1) := by decide +kernel
theorem dX6_within_7 : decode cX6_within 7 = .ok (.if_icmp .gt 7, 3) := by decide +kernel
theorem dX6_within_10 : decode cX6_within 10 = .ok (.iconst 1, 1) := by decide +kernel
theorem dX6_within_11 : decode cX6_within 11 = .ok (.goto 4, 3) := by decide +kernel
theorem dX6_within_14 : decode cX6_within 14 = .ok (.iconst 0, 1) := by decide +kernel
theorem dX6_within_15 : decode cX6_within 15 = .ok (.ireturn, 1) := by decide +kernel
theorem dX6_bit_0 : decode cX6_bit 0 = .ok (.iload_n 0, 1) := by decide +kernel
theorem dX6_bit_1 : decode cX6_bit 1 = .ok (.ifCond .eq 7, 3) := by decide +kernel
theorem dX6_bit_4 : decode cX6_bit 4 = .ok (.iconst 1, 1) := by decide +kernel
theorem dX6_bit_5 : decode cX6_bit 5 = .ok (.goto 4, 3) := by decide +kernel
theorem dX6_bit_8 : decode cX6_bit 8 = .ok (.iconst 0, 1) := by decide +kernel
theorem dX6_bit_9 : decode cX6_bit 9 = .ok (.ireturn, 1) := by decide +kernel
theorem dX6_boatOrNone_0 : decode cX6_boatOrNone 0 = .ok (.iload_n 0, 1) := by decide +kernel
theorem dX6_boatOrNone_1 : decode cX6_boatOrNone 1 = .ok (.iconst (-1), 1) := by decide +kernel
theorem dX6_boatOrNone_2 : decode cX6_boatOrNone 2 = .ok (.if_icmp .ne 8, 3) := by decide +kernel
theorem dX6_boatOrNone_5 : decode cX6_boatOrNone 5 = .ok (.ldc 209, 2) := by decide +kernel
theorem dX6_boatOrNone_7 : decode cX6_boatOrNone 7 = .ok (.goto 4, 3) := by decide +kernel
theorem dX6_boatOrNone_10 : decode cX6_boatOrNone 10 = .ok (.iload_n 0, 1) := by decide +kernel
theorem dX6_boatOrNone_11 : decode cX6_boatOrNone 11 = .ok (.ireturn, 1) := by decide +kernel
theorem dX6_sizeOrSet_0 : decode cX6_sizeOrSet 0 = .ok (.iload_n 0, 1) := by decide +kernel
theorem dX6_sizeOrSet_1 : decode cX6_sizeOrSet 1 = .ok (.iconst (-1), 1) := by decide +kernel
theorem dX6_sizeOrSet_2 : decode cX6_sizeOrSet 2 = .ok (.if_icmp .ne 6, 3) := by decide +kernel
theorem dX6_sizeOrSet_5 : decode cX6_sizeOrSet 5 = .ok (.ldc 209, 2) := by decide +kernel
theorem dX6_sizeOrSet_7 : decode cX6_sizeOrSet 7 = .ok (.ireturn, 1) := by decide +kernel
theorem dX6_sizeOrSet_8 : decode cX6_sizeOrSet 8 = .ok (.iload_n 1, 1) := by decide +kernel
theorem dX6_sizeOrSet_9 : decode cX6_sizeOrSet 9 = .ok (.ifCond .ne 10, 3) := by decide +kernel
theorem dX6_sizeOrSet_12 : decode cX6_sizeOrSet 12 = .ok (.iload_n 0, 1) := by decide +kernel
theorem dX6_sizeOrSet_13 : decode cX6_sizeOrSet 13 = .ok (.invokestatic 292, 3) := by decide +kernel
theorem dX6_sizeOrSet_16 : decode cX6_sizeOrSet 16 = .ok (.goto 4, 3) := by decide +kernel
theorem dX6_sizeOrSet_19 : decode cX6_sizeOrSet 19 = .ok (.iload_n 0, 1) := by decide +kernel
theorem dX6_sizeOrSet_20 : decode cX6_sizeOrSet 20 = .ok (.ireturn, 1) := by decide +kernel
theorem dX6_commonDivisor_0 : decode cX6_commonDivisor 0 = .ok (.iconst 0, 1) := by decide +kernel
theorem dX6_commonDivisor_1 : decode cX6_commonDivisor 1 = .ok (.istore 4, 2) := by decide +kernel
theorem dX6_commonDivisor_3 : decode cX6_commonDivisor 3 = .ok (.iload 4, 2) := by decide +kernel
theorem dX6_commonDivisor_5 : decode cX6_commonDivisor 5 = .ok (.bipush 64, 2) := by decide +kernel
theorem dX6_commonDivisor_7 : decode cX6_commonDivisor 7 = .ok (.if_icmp .ge 25, 3) := by decide +kernel
theorem dX6_commonDivisor_10 : decode cX6_commonDivisor 10 = .ok (.lload_n 2, 1) := by decide +kernel
theorem dX6_commonDivisor_11 : decode cX6_commonDivisor 11 = .ok (.lconst 0, 1) := by decide +kernel
theorem dX6_commonDivisor_12 : decode cX6_commonDivisor 12 = .ok (.lcmp, 1) := by decide +kernel
theorem dX6_commonDivisor_13 : decode cX6_commonDivisor 13 = .ok (.ifCond .eq 19, 3) := by decide +kernel
theorem dX6_commonDivisor_16 : decode cX6_commonDivisor 16 = .ok (.lload_n 0, 1) := by decide +kernel
theorem dX6_commonDivisor_17 : decode cX6_commonDivisor 17 = .ok (.lload_n 2, 1) := by decide +kernel
theorem dX6_commonDivisor_18 : decode cX6_commonDivisor 18 = .ok (.lrem, 1) := by decide +kernel
theorem dX6_commonDivisor_19 : decode cX6_commonDivisor 19 = .ok (.lstore 5, 2) := by decide +kernel
theorem dX6_commonDivisor_21 : decode cX6_commonDivisor 21 = .ok (.lload_n 2, 1) := by decide +kernel
theorem dX6_commonDivisor_22 : decode cX6_commonDivisor 22 = .ok (.lstore_n 0, 1) := by decide +kernel
theorem dX6_commonDivisor_23 : decode cX6_commonDivisor 23 = .ok (.lload 5, 2) := by decide +kernel
theorem dX6_commonDivisor_25 : decode cX6_commonDivisor 25 = .ok (.lstore_n 2, 1) := by decide +kernel
theorem dX6_commonDivisor_26 : decode cX6_commonDivisor 26 = .ok (.iinc 4 1, 3) := by decide +kernel
theorem dX6_commonDivisor_29 : decode cX6_commonDivisor 29 = .ok (.goto (-26), 3) := by decide +kernel
theorem dX6_commonDivisor_32 : decode cX6_commonDivisor 32 = .ok (.lload_n 0, 1) := by decide +kernel
theorem dX6_commonDivisor_33 : decode cX6_commonDivisor 33 = .ok (.lreturn, 1) := by decide +kernel
theorem dJ6_bitCount_0f7a4_0 : decode cJ6_bitCount_0f7a4 0 = .ok (.iload_n 0, 1) := by decide +kernel
theorem dJ6_bitCount_0f7a4_1 : decode cJ6_bitCount_0f7a4 1 = .ok (.iload_n 0, 1) := by decide +kernel
theorem dJ6_bitCount_0f7a4_2 : decode cJ6_bitCount_0f7a4 2 = .ok (.iconst 1, 1) := by decide +kernel
theorem dJ6_bitCount_0f7a4_3 : decode cJ6_bitCount_0f7a4 3 = .ok (.iushr, 1) := by decide +kernel
theorem dJ6_bitCount_0f7a4_4 : decode cJ6_bitCount_0f7a4 4 = .ok (.ldc_w 265, 3) := by decide +kernel
theorem dJ6_bitCount_0f7a4_7 : decode cJ6_bitCount_0f7a4 7 = .ok (.iand, 1) := by decide +kernel
theorem dJ6_bitCount_0f7a4_8 : decode cJ6_bitCount_0f7a4 8 = .ok (.isub, 1) := by decide +kernel
theorem dJ6_bitCount_0f7a4_9 : decode cJ6_bitCount_0f7a4 9 = .ok (.istore_n 0, 1) := by decide +kernel
theorem dJ6_bitCount_0f7a4_10 : decode cJ6_bitCount_0f7a4 10 = .ok (.iload_n 0, 1) := by decide +kernel
theorem dJ6_bitCount_0f7a4_11 : decode cJ6_bitCount_0f7a4 11 = .ok (.ldc_w 266, 3) := by decide +kernel
theorem dJ6_bitCount_0f7a4_14 : decode cJ6_bitCount_0f7a4 14 = .ok (.iand, 1) := by decide +kernel
theorem dJ6_bitCount_0f7a4_15 : decode cJ6_bitCount_0f7a4 15 = .ok (.iload_n 0, 1) := by decide +kernel
theorem dJ6_bitCount_0f7a4_16 : decode cJ6_bitCount_0f7a4 16 = .ok (.iconst 2, 1) := by decide +kernel
theorem dJ6_bitCount_0f7a4_17 : decode cJ6_bitCount_0f7a4 17 = .ok (.iushr, 1) := by decide +kernel
theorem dJ6_bitCount_0f7a4_18 : decode cJ6_bitCount_0f7a4 18 = .ok (.ldc_w 266, 3) := by decide +kernel
theorem dJ6_bitCount_0f7a4_21 : decode cJ6_bitCount_0f7a4 21 = .ok (.iand, 1) := by decide +kernel
theorem dJ6_bitCount_0f7a4_22 : decode cJ6_bitCount_0f7a4 22 = .ok (.iadd, 1) := by decide +kernel
theorem dJ6_bitCount_0f7a4_23 : decode cJ6_bitCount_0f7a4 23 = .ok (.istore_n 0, 1) := by decide +kernel
theorem dJ6_bitCount_0f7a4_24 : decode cJ6_bitCount_0f7a4 24 = .ok (.iload_n 0, 1) := by decide +kernel
theorem dJ6_bitCount_0f7a4_25 : decode cJ6_bitCount_0f7a4 25 = .ok (.iload_n 0, 1) := by decide +kernel
theorem dJ6_bitCount_0f7a4_26 : decode cJ6_bitCount_0f7a4 26 = .ok (.iconst 4, 1) := by decide +kernel
theorem dJ6_bitCount_0f7a4_27 : decode cJ6_bitCount_0f7a4 27 = .ok (.iushr, 1) := by decide +kernel
theorem dJ6_bitCount_0f7a4_28 : decode cJ6_bitCount_0f7a4 28 = .ok (.iadd, 1) := by decide +kernel
theorem dJ6_bitCount_0f7a4_29 : decode cJ6_bitCount_0f7a4 29 = .ok (.ldc_w 267, 3) := by decide +kernel
theorem dJ6_bitCount_0f7a4_32 : decode cJ6_bitCount_0f7a4 32 = .ok (.iand, 1) := by decide +kernel
theorem dJ6_bitCount_0f7a4_33 : decode cJ6_bitCount_0f7a4 33 = .ok (.istore_n 0, 1) := by decide +kernel
theorem dJ6_bitCount_0f7a4_34 : decode cJ6_bitCount_0f7a4 34 = .ok (.iload_n 0, 1) := by decide +kernel
theorem dJ6_bitCount_0f7a4_35 : decode cJ6_bitCount_0f7a4 35 = .ok (.iload_n 0, 1) := by decide +kernel
theorem dJ6_bitCount_0f7a4_36 : decode cJ6_bitCount_0f7a4 36 = .ok (.bipush 8, 2) := by decide +kernel
theorem dJ6_bitCount_0f7a4_38 : decode cJ6_bitCount_0f7a4 38 = .ok (.iushr, 1) := by decide +kernel
theorem dJ6_bitCount_0f7a4_39 : decode cJ6_bitCount_0f7a4 39 = .ok (.iadd, 1) := by decide +kernel
theorem dJ6_bitCount_0f7a4_40 : decode cJ6_bitCount_0f7a4 40 = .ok (.istore_n 0, 1) := by decide +kernel
theorem dJ6_bitCount_0f7a4_41 : decode cJ6_bitCount_0f7a4 41 = .ok (.iload_n 0, 1) := by decide +kernel
theorem dJ6_bitCount_0f7a4_42 : decode cJ6_bitCount_0f7a4 42 = .ok (.iload_n 0, 1) := by decide +kernel
theorem dJ6_bitCount_0f7a4_43 : decode cJ6_bitCount_0f7a4 43 = .ok (.bipush 16, 2) := by decide +kernel
theorem dJ6_bitCount_0f7a4_45 : decode cJ6_bitCount_0f7a4 45 = .ok (.iushr, 1) := by decide +kernel
theorem dJ6_bitCount_0f7a4_46 : decode cJ6_bitCount_0f7a4 46 = .ok (.iadd, 1) := by decide +kernel
theorem dJ6_bitCount_0f7a4_47 : decode cJ6_bitCount_0f7a4 47 = .ok (.istore_n 0, 1) := by decide +kernel
theorem dJ6_bitCount_0f7a4_48 : decode cJ6_bitCount_0f7a4 48 = .ok (.iload_n 0, 1) := by decide +kernel
theorem dJ6_bitCount_0f7a4_49 : decode cJ6_bitCount_0f7a4 49 = .ok (.bipush 63, 2) := by decide +kernel
theorem dJ6_bitCount_0f7a4_51 : decode cJ6_bitCount_0f7a4 51 = .ok (.iand, 1) := by decide +kernel
theorem dJ6_bitCount_0f7a4_52 : decode cJ6_bitCount_0f7a4 52 = .ok (.ireturn, 1) := by decide +kernel
theorem dJ9_max_7cf53_0 : decode cJ9_max_7cf53 0 = .ok (.iload_n 0, 1) := by decide +kernel
theorem dJ9_max_7cf53_1 : decode cJ9_max_7cf53 1 = .ok (.iload_n 1, 1) := by decide +kernel
theorem dJ9_max_7cf53_2 : decode cJ9_max_7cf53 2 = .ok (.if_icmp .lt 7, 3) := by decide +kernel
theorem dJ9_max_7cf53_5 : decode cJ9_max_7cf53 5 = .ok (.iload_n 0, 1) := by decide +kernel
theorem dJ9_max_7cf53_6 : decode cJ9_max_7cf53 6 = .ok (.goto 4, 3) := by decide +kernel
theorem dJ9_max_7cf53_9 : decode cJ9_max_7cf53 9 = .ok (.iload_n 1, 1) := by decide +kernel
theorem dJ9_max_7cf53_10 : decode cJ9_max_7cf53 10 = .ok (.ireturn, 1) := by decide +kernel
theorem dJ9_min_7cf53_0 : decode cJ9_min_7cf53 0 = .ok (.iload_n 0, 1) := by decide +kernel
theorem dJ9_min_7cf53_1 : decode cJ9_min_7cf53 1 = .ok (.iload_n 1, 1) := by decide +kernel
theorem dJ9_min_7cf53_2 : decode cJ9_min_7cf53 2 = .ok (.if_icmp .gt 7, 3) := by decide +kernel
theorem dJ9_min_7cf53_5 : decode cJ9_min_7cf53 5 = .ok (.iload_n 0, 1) := by decide +kernel
theorem dJ9_min_7cf53_6 : decode cJ9_min_7cf53 6 = .ok (.goto 4, 3) := by decide +kernel
theorem dJ9_min_7cf53_9 : decode cJ9_min_7cf53 9 = .ok (.iload_n 1, 1) := by decide +kernel
theorem dJ9_min_7cf53_10 : decode cJ9_min_7cf53 10 = .ok (.ireturn, 1) := by decide +kernel
