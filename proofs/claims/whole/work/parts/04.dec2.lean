theorem dX7_init_0 : decode cX7_init 0 = .ok (.aload_n 0, 1) := by decide +kernel
theorem dX7_init_1 : decode cX7_init 1 = .ok (.invokespecial 1, 3) := by decide +kernel
theorem dX7_init_4 : decode cX7_init 4 = .ok (.aload_n 0, 1) := by decide +kernel
theorem dX7_init_5 : decode cX7_init 5 = .ok (.bipush 8, 2) := by decide +kernel
theorem dX7_init_7 : decode cX7_init 7 = .ok (.newarray .int, 2) := by decide +kernel
theorem dX7_init_9 : decode cX7_init 9 = .ok (.putfield 7, 3) := by decide +kernel
theorem dX7_init_12 : decode cX7_init 12 = .ok (.aload_n 0, 1) := by decide +kernel
theorem dX7_init_13 : decode cX7_init 13 = .ok (.bipush 8, 2) := by decide +kernel
theorem dX7_init_15 : decode cX7_init 15 = .ok (.newarray .int, 2) := by decide +kernel
theorem dX7_init_17 : decode cX7_init 17 = .ok (.putfield 13, 3) := by decide +kernel
theorem dX7_init_20 : decode cX7_init 20 = .ok (.aload_n 0, 1) := by decide +kernel
theorem dX7_init_21 : decode cX7_init 21 = .ok (.sipush 320, 3) := by decide +kernel
theorem dX7_init_24 : decode cX7_init 24 = .ok (.newarray .int, 2) := by decide +kernel
theorem dX7_init_26 : decode cX7_init 26 = .ok (.putfield 16, 3) := by decide +kernel
theorem dX7_init_29 : decode cX7_init 29 = .ok (.aload_n 0, 1) := by decide +kernel
theorem dX7_init_30 : decode cX7_init 30 = .ok (.bipush 44, 2) := by decide +kernel
theorem dX7_init_32 : decode cX7_init 32 = .ok (.newarray .int, 2) := by decide +kernel
theorem dX7_init_34 : decode cX7_init 34 = .ok (.putfield 19, 3) := by decide +kernel
theorem dX7_init_37 : decode cX7_init 37 = .ok (.aload_n 0, 1) := by decide +kernel
theorem dX7_init_38 : decode cX7_init 38 = .ok (.bipush 40, 2) := by decide +kernel
theorem dX7_init_40 : decode cX7_init 40 = .ok (.newarray .int, 2) := by decide +kernel
theorem dX7_init_42 : decode cX7_init 42 = .ok (.putfield 22, 3) := by decide +kernel
theorem dX7_init_45 : decode cX7_init 45 = .ok (.aload_n 0, 1) := by decide +kernel
theorem dX7_init_46 : decode cX7_init 46 = .ok (.bipush 120, 2) := by decide +kernel
theorem dX7_init_48 : decode cX7_init 48 = .ok (.newarray .int, 2) := by decide +kernel
theorem dX7_init_50 : decode cX7_init 50 = .ok (.putfield 25, 3) := by decide +kernel
theorem dX7_init_53 : decode cX7_init 53 = .ok (.aload_n 0, 1) := by decide +kernel
theorem dX7_init_54 : decode cX7_init 54 = .ok (.bipush 44, 2) := by decide +kernel
theorem dX7_init_56 : decode cX7_init 56 = .ok (.newarray .int, 2) := by decide +kernel
theorem dX7_init_58 : decode cX7_init 58 = .ok (.putfield 28, 3) := by decide +kernel
theorem dX7_init_61 : decode cX7_init 61 = .ok (.aload_n 0, 1) := by decide +kernel
theorem dX7_init_62 : decode cX7_init 62 = .ok (.sipush 1056, 3) := by decide +kernel
theorem dX7_init_65 : decode cX7_init 65 = .ok (.newarray .int, 2) := by decide +kernel
theorem dX7_init_67 : decode cX7_init 67 = .ok (.putfield 31, 3) := by decide +kernel
theorem dX7_init_70 : decode cX7_init 70 = .ok (.aload_n 0, 1) := by decide +kernel
theorem dX7_init_71 : decode cX7_init 71 = .ok (.bipush 44, 2) := by decide +kernel
theorem dX7_init_73 : decode cX7_init 73 = .ok (.newarray .int, 2) := by decide +kernel
theorem dX7_init_75 : decode cX7_init 75 = .ok (.putfield 34, 3) := by decide +kernel
theorem dX7_init_78 : decode cX7_init 78 = .ok (.aload_n 0, 1) := by decide +kernel
theorem dX7_init_79 : decode cX7_init 79 = .ok (.iconst 2, 1) := by decide +kernel
theorem dX7_init_80 : decode cX7_init 80 = .ok (.newarray .boolean, 2) := by decide +kernel
theorem dX7_init_82 : decode cX7_init 82 = .ok (.putfield 37, 3) := by decide +kernel
theorem dX7_init_85 : decode cX7_init 85 = .ok (.aload_n 0, 1) := by decide +kernel
theorem dX7_init_86 : decode cX7_init 86 = .ok (.bipush 88, 2) := by decide +kernel
theorem dX7_init_88 : decode cX7_init 88 = .ok (.newarray .int, 2) := by decide +kernel
theorem dX7_init_90 : decode cX7_init 90 = .ok (.putfield 41, 3) := by decide +kernel
theorem dX7_init_93 : decode cX7_init 93 = .ok (.aload_n 0, 1) := by decide +kernel
theorem dX7_init_94 : decode cX7_init 94 = .ok (.bipush 16, 2) := by decide +kernel
theorem dX7_init_96 : decode cX7_init 96 = .ok (.newarray .int, 2) := by decide +kernel
theorem dX7_init_98 : decode cX7_init 98 = .ok (.putfield 44, 3) := by decide +kernel
theorem dX7_init_101 : decode cX7_init 101 = .ok (.iconst 0, 1) := by decide +kernel
theorem dX7_init_102 : decode cX7_init 102 = .ok (.istore_n 1, 1) := by decide +kernel
theorem dX7_init_103 : decode cX7_init 103 = .ok (.iload_n 1, 1) := by decide +kernel
theorem dX7_init_104 : decode cX7_init 104 = .ok (.bipush 8, 2) := by decide +kernel
theorem dX7_init_106 : decode cX7_init 106 = .ok (.if_icmp .ge 16, 3) := by decide +kernel
theorem dX7_init_109 : decode cX7_init 109 = .ok (.aload_n 0, 1) := by decide +kernel
theorem dX7_init_110 : decode cX7_init 110 = .ok (.getfield 13, 3) := by decide +kernel
theorem dX7_init_113 : decode cX7_init 113 = .ok (.iload_n 1, 1) := by decide +kernel
theorem dX7_init_114 : decode cX7_init 114 = .ok (.iconst (-1), 1) := by decide +kernel
theorem dX7_init_115 : decode cX7_init 115 = .ok (.iastore, 1) := by decide +kernel
theorem dX7_init_116 : decode cX7_init 116 = .ok (.iinc 1 1, 3) := by decide +kernel
theorem dX7_init_119 : decode cX7_init 119 = .ok (.goto (-16), 3) := by decide +kernel
theorem dX7_init_122 : decode cX7_init 122 = .ok (.return_, 1) := by decide +kernel
theorem dX7_in_0 : decode cX7_in 0 = .ok (.lload_n 0, 1) := by decide +kernel
theorem dX7_in_1 : decode cX7_in 1 = .ok (.lload_n 2, 1) := by decide +kernel
theorem dX7_in_2 : decode cX7_in 2 = .ok (.lcmp, 1) := by decide +kernel
theorem dX7_in_3 : decode cX7_in 3 = .ok (.ifCond .lt 14, 3) := by decide +kernel
theorem dX7_in_6 : decode cX7_in 6 = .ok (.lload_n 0, 1) := by decide +kernel
theorem dX7_in_7 : decode cX7_in 7 = .ok (.lload 4, 2) := by decide +kernel
theorem dX7_in_9 : decode cX7_in 9 = .ok (.lcmp, 1) := by decide +kernel
theorem dX7_in_10 : decode cX7_in 10 = .ok (.ifCond .gt 7, 3) := by decide +kernel
theorem dX7_in_13 : decode cX7_in 13 = .ok (.iconst 1, 1) := by decide +kernel
theorem dX7_in_14 : decode cX7_in 14 = .ok (.goto 4, 3) := by decide +kernel
theorem dX7_in_17 : decode cX7_in 17 = .ok (.iconst 0, 1) := by decide +kernel
theorem dX7_in_18 : decode cX7_in 18 = .ok (.ireturn, 1) := by decide +kernel
theorem dX7_has_0 : decode cX7_has 0 = .ok (.iload_n 0, 1) := by decide +kernel
theorem dX7_has_1 : decode cX7_has 1 = .ok (.iload_n 1, 1) := by decide +kernel
theorem dX7_has_2 : decode cX7_has 2 = .ok (.ishr, 1) := by decide +kernel
theorem dX7_has_3 : decode cX7_has 3 = .ok (.iconst 1, 1) := by decide +kernel
theorem dX7_has_4 : decode cX7_has 4 = .ok (.iand, 1) := by decide +kernel
theorem dX7_has_5 : decode cX7_has 5 = .ok (.iconst 1, 1) := by decide +kernel
theorem dX7_has_6 : decode cX7_has 6 = .ok (.if_icmp .ne 7, 3) := by decide +kernel
theorem dX7_has_9 : decode cX7_has 9 = .ok (.iconst 1, 1) := by decide +kernel
theorem dX7_has_10 : decode cX7_has 10 = .ok (.goto 4, 3) := by decide +kernel
theorem dX7_has_13 : decode cX7_has 13 = .ok (.iconst 0, 1) := by decide +kernel
theorem dX7_has_14 : decode cX7_has 14 = .ok (.ireturn, 1) := by decide +kernel
theorem dX7_ones_0 : decode cX7_ones 0 = .ok (.iconst 0, 1) := by decide +kernel
theorem dX7_ones_1 : decode cX7_ones 1 = .ok (.istore_n 1, 1) := by decide +kernel
theorem dX7_ones_2 : decode cX7_ones 2 = .ok (.iload_n 0, 1) := by decide +kernel
theorem dX7_ones_3 : decode cX7_ones 3 = .ok (.istore_n 2, 1) := by decide +kernel
theorem dX7_ones_4 : decode cX7_ones 4 = .ok (.iload_n 2, 1) := by decide +kernel
theorem dX7_ones_5 : decode cX7_ones 5 = .ok (.ifCond .eq 15, 3) := by decide +kernel
theorem dX7_ones_8 : decode cX7_ones 8 = .ok (.iinc 1 1, 3) := by decide +kernel
theorem dX7_ones_11 : decode cX7_ones 11 = .ok (.iload_n 2, 1) := by decide +kernel
theorem dX7_ones_12 : decode cX7_ones 12 = .ok (.iload_n 2, 1) := by decide +kernel
theorem dX7_ones_13 : decode cX7_ones 13 = .ok (.iconst 1, 1) := by decide +kernel
theorem dX7_ones_14 : decode cX7_ones 14 = .ok (.isub, 1) := by decide +kernel
theorem dX7_ones_15 : decode cX7_ones 15 = .ok (.iand, 1) := by decide +kernel
theorem dX7_ones_16 : decode cX7_ones 16 = .ok (.istore_n 2, 1) := by decide +kernel
theorem dX7_ones_17 : decode cX7_ones 17 = .ok (.goto (-13), 3) := by decide +kernel
theorem dX7_ones_20 : decode cX7_ones 20 = .ok (.iload_n 1, 1) := by decide +kernel
theorem dX7_ones_21 : decode cX7_ones 21 = .ok (.ireturn, 1) := by decide +kernel
theorem dX7_find_0 : decode cX7_find 0 = .ok (.aload_n 0, 1) := by decide +kernel
theorem dX7_find_1 : decode cX7_find 1 = .ok (.iload_n 1, 1) := by decide +kernel
theorem dX7_find_2 : decode cX7_find 2 = .ok (.putfield 47, 3) := by decide +kernel
theorem dX7_find_5 : decode cX7_find 5 = .ok (.ldc 51, 2) := by decide +kernel
theorem dX7_find_7 : decode cX7_find 7 = .ok (.iload_n 1, 1) := by decide +kernel
theorem dX7_find_8 : decode cX7_find 8 = .ok (.isub, 1) := by decide +kernel
theorem dX7_find_9 : decode cX7_find 9 = .ok (.ireturn, 1) := by decide +kernel
theorem dX7_well_0 : decode cX7_well 0 = .ok (.aload_n 0, 1) := by decide +kernel
theorem dX7_well_1 : decode cX7_well 1 = .ok (.iconst 0, 1) := by decide +kernel
theorem dX7_well_2 : decode cX7_well 2 = .ok (.putfield 47, 3) := by decide +kernel
theorem dX7_well_5 : decode cX7_well 5 = .ok (.iload_n 1, 1) := by decide +kernel
theorem dX7_well_6 : decode cX7_well 6 = .ok (.ireturn, 1) := by decide +kernel
theorem dX7_isRow_0 : decode cX7_isRow 0 = .ok (.iload_n 0, 1) := by decide +kernel
theorem dX7_isRow_1 : decode cX7_isRow 1 = .ok (.i2l, 1) := by decide +kernel
theorem dX7_isRow_2 : decode cX7_isRow 2 = .ok (.lconst 0, 1) := by decide +kernel
theorem dX7_isRow_3 : decode cX7_isRow 3 = .ok (.ldc2_w 52, 3) := by decide +kernel
theorem dX7_isRow_6 : decode cX7_isRow 6 = .ok (.invokestatic 54, 3) := by decide +kernel
theorem dX7_isRow_9 : decode cX7_isRow 9 = .ok (.ireturn, 1) := by decide +kernel
theorem dX7_row_0 : decode cX7_row 0 = .ok (.iload_n 1, 1) := by decide +kernel
theorem dX7_row_1 : decode cX7_row 1 = .ok (.invokestatic 58, 3) := by decide +kernel
theorem dX7_row_4 : decode cX7_row 4 = .ok (.ifCond .eq 21, 3) := by decide +kernel
theorem dX7_row_7 : decode cX7_row 7 = .ok (.iload_n 2, 1) := by decide +kernel
theorem dX7_row_8 : decode cX7_row 8 = .ok (.i2l, 1) := by decide +kernel
theorem dX7_row_9 : decode cX7_row 9 = .ok (.lconst 0, 1) := by decide +kernel
theorem dX7_row_10 : decode cX7_row 10 = .ok (.ldc2_w 62, 3) := by decide +kernel
theorem dX7_row_13 : decode cX7_row 13 = .ok (.invokestatic 54, 3) := by decide +kernel
theorem dX7_row_16 : decode cX7_row 16 = .ok (.ifCond .eq 9, 3) := by decide +kernel
theorem dX7_row_19 : decode cX7_row 19 = .ok (.iload_n 3, 1) := by decide +kernel
theorem dX7_row_20 : decode cX7_row 20 = .ok (.bipush 40, 2) := by decide +kernel
theorem dX7_row_22 : decode cX7_row 22 = .ok (.if_icmp .le 6, 3) := by decide +kernel
theorem dX7_row_25 : decode cX7_row 25 = .ok (.ldc 64, 2) := by decide +kernel
theorem dX7_row_27 : decode cX7_row 27 = .ok (.ireturn, 1) := by decide +kernel
theorem dX7_row_28 : decode cX7_row 28 = .ok (.iload_n 3, 1) := by decide +kernel
theorem dX7_row_29 : decode cX7_row 29 = .ok (.ifCond .ge 9, 3) := by decide +kernel
theorem dX7_row_32 : decode cX7_row 32 = .ok (.aload_n 0, 1) := by decide +kernel
theorem dX7_row_33 : decode cX7_row 33 = .ok (.iconst 4, 1) := by decide +kernel
theorem dX7_row_34 : decode cX7_row 34 = .ok (.invokevirtual 65, 3) := by decide +kernel
theorem dX7_row_37 : decode cX7_row 37 = .ok (.ireturn, 1) := by decide +kernel
theorem dX7_row_38 : decode cX7_row 38 = .ok (.aload_n 0, 1) := by decide +kernel
theorem dX7_row_39 : decode cX7_row 39 = .ok (.getfield 7, 3) := by decide +kernel
theorem dX7_row_42 : decode cX7_row 42 = .ok (.iload_n 1, 1) := by decide +kernel
theorem dX7_row_43 : decode cX7_row 43 = .ok (.iload_n 2, 1) := by decide +kernel
theorem dX7_row_44 : decode cX7_row 44 = .ok (.iastore, 1) := by decide +kernel
theorem dX7_row_45 : decode cX7_row 45 = .ok (.aload_n 0, 1) := by decide +kernel
theorem dX7_row_46 : decode cX7_row 46 = .ok (.getfield 13, 3) := by decide +kernel
theorem dX7_row_49 : decode cX7_row 49 = .ok (.iload_n 1, 1) := by decide +kernel
theorem dX7_row_50 : decode cX7_row 50 = .ok (.iload_n 3, 1) := by decide +kernel
theorem dX7_row_51 : decode cX7_row 51 = .ok (.iastore, 1) := by decide +kernel
theorem dX7_row_52 : decode cX7_row 52 = .ok (.iconst 0, 1) := by decide +kernel
theorem dX7_row_53 : decode cX7_row 53 = .ok (.istore 4, 2) := by decide +kernel
theorem dX7_row_55 : decode cX7_row 55 = .ok (.iload 4, 2) := by decide +kernel
theorem dX7_row_57 : decode cX7_row 57 = .ok (.bipush 40, 2) := by decide +kernel
theorem dX7_row_59 : decode cX7_row 59 = .ok (.if_icmp .ge 22, 3) := by decide +kernel
theorem dX7_row_62 : decode cX7_row 62 = .ok (.aload_n 0, 1) := by decide +kernel
theorem dX7_row_63 : decode cX7_row 63 = .ok (.getfield 16, 3) := by decide +kernel
theorem dX7_row_66 : decode cX7_row 66 = .ok (.bipush 40, 2) := by decide +kernel
theorem dX7_row_68 : decode cX7_row 68 = .ok (.iload_n 1, 1) := by decide +kernel
theorem dX7_row_69 : decode cX7_row 69 = .ok (.imul, 1) := by decide +kernel
theorem dX7_row_70 : decode cX7_row 70 = .ok (.iload 4, 2) := by decide +kernel
theorem dX7_row_72 : decode cX7_row 72 = .ok (.iadd, 1) := by decide +kernel
theorem dX7_row_73 : decode cX7_row 73 = .ok (.iconst 0, 1) := by decide +kernel
theorem dX7_row_74 : decode cX7_row 74 = .ok (.iastore, 1) := by decide +kernel
theorem dX7_row_75 : decode cX7_row 75 = .ok (.iinc 4 1, 3) := by decide +kernel
theorem dX7_row_78 : decode cX7_row 78 = .ok (.goto (-23), 3) := by decide +kernel
theorem dX7_row_81 : decode cX7_row 81 = .ok (.aload_n 0, 1) := by decide +kernel
theorem dX7_row_82 : decode cX7_row 82 = .ok (.iload_n 3, 1) := by decide +kernel
theorem dX7_row_83 : decode cX7_row 83 = .ok (.invokevirtual 69, 3) := by decide +kernel
theorem dX7_row_86 : decode cX7_row 86 = .ok (.ireturn, 1) := by decide +kernel
theorem dX7_asLane_0 : decode cX7_asLane 0 = .ok (.iload_n 0, 1) := by decide +kernel
theorem dX7_asLane_1 : decode cX7_asLane 1 = .ok (.ifCond .ne 13, 3) := by decide +kernel
theorem dX7_asLane_4 : decode cX7_asLane 4 = .ok (.iload_n 1, 1) := by decide +kernel
theorem dX7_asLane_5 : decode cX7_asLane 5 = .ok (.bipush 24, 2) := by decide +kernel
theorem dX7_asLane_7 : decode cX7_asLane 7 = .ok (.ishl, 1) := by decide +kernel
theorem dX7_asLane_8 : decode cX7_asLane 8 = .ok (.bipush 24, 2) := by decide +kernel
theorem dX7_asLane_10 : decode cX7_asLane 10 = .ok (.ishr, 1) := by decide +kernel
theorem dX7_asLane_11 : decode cX7_asLane 11 = .ok (.goto 19, 3) := by decide +kernel
theorem dX7_asLane_14 : decode cX7_asLane 14 = .ok (.iload_n 0, 1) := by decide +kernel
theorem dX7_asLane_15 : decode cX7_asLane 15 = .ok (.iconst 1, 1) := by decide +kernel
theorem dX7_asLane_16 : decode cX7_asLane 16 = .ok (.if_icmp .ne 13, 3) := by decide +kernel
theorem dX7_asLane_19 : decode cX7_asLane 19 = .ok (.iload_n 1, 1) := by decide +kernel
theorem dX7_asLane_20 : decode cX7_asLane 20 = .ok (.bipush 16, 2) := by decide +kernel
theorem dX7_asLane_22 : decode cX7_asLane 22 = .ok (.ishl, 1) := by decide +kernel
theorem dX7_asLane_23 : decode cX7_asLane 23 = .ok (.bipush 16, 2) := by decide +kernel
theorem dX7_asLane_25 : decode cX7_asLane 25 = .ok (.ishr, 1) := by decide +kernel
theorem dX7_asLane_26 : decode cX7_asLane 26 = .ok (.goto 4, 3) := by decide +kernel
theorem dX7_asLane_29 : decode cX7_asLane 29 = .ok (.iload_n 1, 1) := by decide +kernel
theorem dX7_asLane_30 : decode cX7_asLane 30 = .ok (.ireturn, 1) := by decide +kernel
theorem dX7_set_0 : decode cX7_set 0 = .ok (.iload_n 1, 1) := by decide +kernel
theorem dX7_set_1 : decode cX7_set 1 = .ok (.invokestatic 58, 3) := by decide +kernel
theorem dX7_set_4 : decode cX7_set 4 = .ok (.ifCond .ne 6, 3) := by decide +kernel
theorem dX7_set_7 : decode cX7_set 7 = .ok (.ldc 64, 2) := by decide +kernel
theorem dX7_set_9 : decode cX7_set 9 = .ok (.ireturn, 1) := by decide +kernel
theorem dX7_set_10 : decode cX7_set 10 = .ok (.aload_n 0, 1) := by decide +kernel
theorem dX7_set_11 : decode cX7_set 11 = .ok (.getfield 13, 3) := by decide +kernel
theorem dX7_set_14 : decode cX7_set 14 = .ok (.iload_n 1, 1) := by decide +kernel
theorem dX7_set_15 : decode cX7_set 15 = .ok (.iaload, 1) := by decide +kernel
theorem dX7_set_16 : decode cX7_set 16 = .ok (.ifCond .ge 9, 3) := by decide +kernel
theorem dX7_set_19 : decode cX7_set 19 = .ok (.aload_n 0, 1) := by decide +kernel
theorem dX7_set_20 : decode cX7_set 20 = .ok (.iconst 1, 1) := by decide +kernel
theorem dX7_set_21 : decode cX7_set 21 = .ok (.invokevirtual 65, 3) := by decide +kernel
theorem dX7_set_24 : decode cX7_set 24 = .ok (.ireturn, 1) := by decide +kernel
theorem dX7_set_25 : decode cX7_set 25 = .ok (.iload_n 2, 1) := by decide +kernel
theorem dX7_set_26 : decode cX7_set 26 = .ok (.i2l, 1) := by decide +kernel
theorem dX7_set_27 : decode cX7_set 27 = .ok (.lconst 0, 1) := by decide +kernel
theorem dX7_set_28 : decode cX7_set 28 = .ok (.aload_n 0, 1) := by decide +kernel
theorem dX7_set_29 : decode cX7_set 29 = .ok (.getfield 13, 3) := by decide +kernel
theorem dX7_set_32 : decode cX7_set 32 = .ok (.iload_n 1, 1) := by decide +kernel
theorem dX7_set_33 : decode cX7_set 33 = .ok (.iaload, 1) := by decide +kernel
theorem dX7_set_34 : decode cX7_set 34 = .ok (.iconst 1, 1) := by decide +kernel
theorem dX7_set_35 : decode cX7_set 35 = .ok (.isub, 1) := by decide +kernel
theorem dX7_set_36 : decode cX7_set 36 = .ok (.i2l, 1) := by decide +kernel
theorem dX7_set_37 : decode cX7_set 37 = .ok (.invokestatic 54, 3) := by decide +kernel
theorem dX7_set_40 : decode cX7_set 40 = .ok (.ifCond .ne 9, 3) := by decide +kernel
theorem dX7_set_43 : decode cX7_set 43 = .ok (.aload_n 0, 1) := by decide +kernel
theorem dX7_set_44 : decode cX7_set 44 = .ok (.iconst 2, 1) := by decide +kernel
theorem dX7_set_45 : decode cX7_set 45 = .ok (.invokevirtual 65, 3) := by decide +kernel
theorem dX7_set_48 : decode cX7_set 48 = .ok (.ireturn, 1) := by decide +kernel
theorem dX7_set_49 : decode cX7_set 49 = .ok (.aload_n 0, 1) := by decide +kernel
theorem dX7_set_50 : decode cX7_set 50 = .ok (.getfield 16, 3) := by decide +kernel
theorem dX7_set_53 : decode cX7_set 53 = .ok (.bipush 40, 2) := by decide +kernel
theorem dX7_set_55 : decode cX7_set 55 = .ok (.iload_n 1, 1) := by decide +kernel
theorem dX7_set_56 : decode cX7_set 56 = .ok (.imul, 1) := by decide +kernel
theorem dX7_set_57 : decode cX7_set 57 = .ok (.iload_n 2, 1) := by decide +kernel
theorem dX7_set_58 : decode cX7_set 58 = .ok (.iadd, 1) := by decide +kernel
theorem dX7_set_59 : decode cX7_set 59 = .ok (.aload_n 0, 1) := by decide +kernel
theorem dX7_set_60 : decode cX7_set 60 = .ok (.getfield 7, 3) := by decide +kernel
theorem dX7_set_63 : decode cX7_set 63 = .ok (.iload_n 1, 1) := by decide +kernel
theorem dX7_set_64 : decode cX7_set 64 = .ok (.iaload, 1) := by decide +kernel
theorem dX7_set_65 : decode cX7_set 65 = .ok (.iload_n 3, 1) := by decide +kernel
theorem dX7_set_66 : decode cX7_set 66 = .ok (.invokestatic 72, 3) := by decide +kernel
theorem dX7_set_69 : decode cX7_set 69 = .ok (.iastore, 1) := by decide +kernel
theorem dX7_set_70 : decode cX7_set 70 = .ok (.aload_n 0, 1) := by decide +kernel
theorem dX7_set_71 : decode cX7_set 71 = .ok (.aload_n 0, 1) := by decide +kernel
theorem dX7_set_72 : decode cX7_set 72 = .ok (.getfield 16, 3) := by decide +kernel
theorem dX7_set_75 : decode cX7_set 75 = .ok (.bipush 40, 2) := by decide +kernel
theorem dX7_set_77 : decode cX7_set 77 = .ok (.iload_n 1, 1) := by decide +kernel
theorem dX7_set_78 : decode cX7_set 78 = .ok (.imul, 1) := by decide +kernel
theorem dX7_set_79 : decode cX7_set 79 = .ok (.iload_n 2, 1) := by decide +kernel
theorem dX7_set_80 : decode cX7_set 80 = .ok (.iadd, 1) := by decide +kernel
theorem dX7_set_81 : decode cX7_set 81 = .ok (.iaload, 1) := by decide +kernel
theorem dX7_set_82 : decode cX7_set 82 = .ok (.invokevirtual 69, 3) := by decide +kernel
theorem dX7_set_85 : decode cX7_set 85 = .ok (.ireturn, 1) := by decide +kernel
theorem dX7_copy_0 : decode cX7_copy 0 = .ok (.iload_n 1, 1) := by decide +kernel
theorem dX7_copy_1 : decode cX7_copy 1 = .ok (.invokestatic 58, 3) := by decide +kernel
theorem dX7_copy_4 : decode cX7_copy 4 = .ok (.ifCond .eq 10, 3) := by decide +kernel
theorem dX7_copy_7 : decode cX7_copy 7 = .ok (.iload_n 3, 1) := by decide +kernel
theorem dX7_copy_8 : decode cX7_copy 8 = .ok (.invokestatic 58, 3) := by decide +kernel
theorem dX7_copy_11 : decode cX7_copy 11 = .ok (.ifCond .ne 6, 3) := by decide +kernel
theorem dX7_copy_14 : decode cX7_copy 14 = .ok (.ldc 64, 2) := by decide +kernel
theorem dX7_copy_16 : decode cX7_copy 16 = .ok (.ireturn, 1) := by decide +kernel
theorem dX7_copy_17 : decode cX7_copy 17 = .ok (.aload_n 0, 1) := by decide +kernel
theorem dX7_copy_18 : decode cX7_copy 18 = .ok (.getfield 13, 3) := by decide +kernel
theorem dX7_copy_21 : decode cX7_copy 21 = .ok (.iload_n 1, 1) := by decide +kernel
theorem dX7_copy_22 : decode cX7_copy 22 = .ok (.iaload, 1) := by decide +kernel
theorem dX7_copy_23 : decode cX7_copy 23 = .ok (.ifCond .lt 12, 3) := by decide +kernel
theorem dX7_copy_26 : decode cX7_copy 26 = .ok (.aload_n 0, 1) := by decide +kernel
theorem dX7_copy_27 : decode cX7_copy 27 = .ok (.getfield 13, 3) := by decide +kernel
theorem dX7_copy_30 : decode cX7_copy 30 = .ok (.iload_n 3, 1) := by decide +kernel
theorem dX7_copy_31 : decode cX7_copy 31 = .ok (.iaload, 1) := by decide +kernel
theorem dX7_copy_32 : decode cX7_copy 32 = .ok (.ifCond .ge 9, 3) := by decide +kernel
theorem dX7_copy_35 : decode cX7_copy 35 = .ok (.aload_n 0, 1) := by decide +kernel
theorem dX7_copy_36 : decode cX7_copy 36 = .ok (.iconst 1, 1) := by decide +kernel
theorem dX7_copy_37 : decode cX7_copy 37 = .ok (.invokevirtual 65, 3) := by decide +kernel
theorem dX7_copy_40 : decode cX7_copy 40 = .ok (.ireturn, 1) := by decide +kernel
theorem dX7_copy_41 : decode cX7_copy 41 = .ok (.aload_n 0, 1) := by decide +kernel
theorem dX7_copy_42 : decode cX7_copy 42 = .ok (.getfield 7, 3) := by decide +kernel
theorem dX7_copy_45 : decode cX7_copy 45 = .ok (.iload_n 1, 1) := by decide +kernel
theorem dX7_copy_46 : decode cX7_copy 46 = .ok (.iaload, 1) := by decide +kernel
theorem dX7_copy_47 : decode cX7_copy 47 = .ok (.aload_n 0, 1) := by decide +kernel
theorem dX7_copy_48 : decode cX7_copy 48 = .ok (.getfield 7, 3) := by decide +kernel
theorem dX7_copy_51 : decode cX7_copy 51 = .ok (.iload_n 3, 1) := by decide +kernel
theorem dX7_copy_52 : decode cX7_copy 52 = .ok (.iaload, 1) := by decide +kernel
theorem dX7_copy_53 : decode cX7_copy 53 = .ok (.if_icmp .eq 9, 3) := by decide +kernel
theorem dX7_copy_56 : decode cX7_copy 56 = .ok (.aload_n 0, 1) := by decide +kernel
theorem dX7_copy_57 : decode cX7_copy 57 = .ok (.iconst 5, 1) := by decide +kernel
theorem dX7_copy_58 : decode cX7_copy 58 = .ok (.invokevirtual 65, 3) := by decide +kernel
theorem dX7_copy_61 : decode cX7_copy 61 = .ok (.ireturn, 1) := by decide +kernel
theorem dX7_copy_62 : decode cX7_copy 62 = .ok (.iload 5, 2) := by decide +kernel
theorem dX7_copy_64 : decode cX7_copy 64 = .ok (.ifCond .lt 44, 3) := by decide +kernel
theorem dX7_copy_67 : decode cX7_copy 67 = .ok (.iload_n 2, 1) := by decide +kernel
theorem dX7_copy_68 : decode cX7_copy 68 = .ok (.i2l, 1) := by decide +kernel
theorem dX7_copy_69 : decode cX7_copy 69 = .ok (.lconst 0, 1) := by decide +kernel
theorem dX7_copy_70 : decode cX7_copy 70 = .ok (.aload_n 0, 1) := by decide +kernel
theorem dX7_copy_71 : decode cX7_copy 71 = .ok (.getfield 13, 3) := by decide +kernel
theorem dX7_copy_74 : decode cX7_copy 74 = .ok (.iload_n 1, 1) := by decide +kernel
theorem dX7_copy_75 : decode cX7_copy 75 = .ok (.iaload, 1) := by decide +kernel
theorem dX7_copy_76 : decode cX7_copy 76 = .ok (.i2l, 1) := by decide +kernel
theorem dX7_copy_77 : decode cX7_copy 77 = .ok (.iload 5, 2) := by decide +kernel
theorem dX7_copy_79 : decode cX7_copy 79 = .ok (.i2l, 1) := by decide +kernel
theorem dX7_copy_80 : decode cX7_copy 80 = .ok (.lsub, 1) := by decide +kernel
theorem dX7_copy_81 : decode cX7_copy 81 = .ok (.invokestatic 54, 3) := by decide +kernel
theorem dX7_copy_84 : decode cX7_copy 84 = .ok (.ifCond .eq 24, 3) := by decide +kernel
theorem dX7_copy_87 : decode cX7_copy 87 = .ok (.iload 4, 2) := by decide +kernel
theorem dX7_copy_89 : decode cX7_copy 89 = .ok (.i2l, 1) := by decide +kernel
theorem dX7_copy_90 : decode cX7_copy 90 = .ok (.lconst 0, 1) := by decide +kernel
theorem dX7_copy_91 : decode cX7_copy 91 = .ok (.aload_n 0, 1) := by decide +kernel
theorem dX7_copy_92 : decode cX7_copy 92 = .ok (.getfield 13, 3) := by decide +kernel
theorem dX7_copy_95 : decode cX7_copy 95 = .ok (.iload_n 3, 1) := by decide +kernel
theorem dX7_copy_96 : decode cX7_copy 96 = .ok (.iaload, 1) := by decide +kernel
theorem dX7_copy_97 : decode cX7_copy 97 = .ok (.i2l, 1) := by decide +kernel
theorem dX7_copy_98 : decode cX7_copy 98 = .ok (.iload 5, 2) := by decide +kernel
theorem dX7_copy_100 : decode cX7_copy 100 = .ok (.i2l, 1) := by decide +kernel
theorem dX7_copy_101 : decode cX7_copy 101 = .ok (.lsub, 1) := by decide +kernel
theorem dX7_copy_102 : decode cX7_copy 102 = .ok (.invokestatic 54, 3) := by decide +kernel
theorem dX7_copy_105 : decode cX7_copy 105 = .ok (.ifCond .ne 9, 3) := by decide +kernel
theorem dX7_copy_108 : decode cX7_copy 108 = .ok (.aload_n 0, 1) := by decide +kernel
theorem dX7_copy_109 : decode cX7_copy 109 = .ok (.iconst 2, 1) := by decide +kernel
theorem dX7_copy_110 : decode cX7_copy 110 = .ok (.invokevirtual 65, 3) := by decide +kernel
theorem dX7_copy_113 : decode cX7_copy 113 = .ok (.ireturn, 1) := by decide +kernel
theorem dX7_copy_114 : decode cX7_copy 114 = .ok (.iconst 0, 1) := by decide +kernel
theorem dX7_copy_115 : decode cX7_copy 115 = .ok (.istore 6, 2) := by decide +kernel
theorem dX7_copy_117 : decode cX7_copy 117 = .ok (.iload 6, 2) := by decide +kernel
theorem dX7_copy_119 : decode cX7_copy 119 = .ok (.iload 5, 2) := by decide +kernel
theorem dX7_copy_121 : decode cX7_copy 121 = .ok (.if_icmp .ge 30, 3) := by decide +kernel
theorem dX7_copy_124 : decode cX7_copy 124 = .ok (.aload_n 0, 1) := by decide +kernel
theorem dX7_copy_125 : decode cX7_copy 125 = .ok (.getfield 22, 3) := by decide +kernel
theorem dX7_copy_128 : decode cX7_copy 128 = .ok (.iload 6, 2) := by decide +kernel
theorem dX7_copy_130 : decode cX7_copy 130 = .ok (.aload_n 0, 1) := by decide +kernel
theorem dX7_copy_131 : decode cX7_copy 131 = .ok (.getfield 16, 3) := by decide +kernel
theorem dX7_copy_134 : decode cX7_copy 134 = .ok (.bipush 40, 2) := by decide +kernel
theorem dX7_copy_136 : decode cX7_copy 136 = .ok (.iload_n 1, 1) := by decide +kernel
theorem dX7_copy_137 : decode cX7_copy 137 = .ok (.imul, 1) := by decide +kernel
theorem dX7_copy_138 : decode cX7_copy 138 = .ok (.iload_n 2, 1) := by decide +kernel
theorem dX7_copy_139 : decode cX7_copy 139 = .ok (.iadd, 1) := by decide +kernel
theorem dX7_copy_140 : decode cX7_copy 140 = .ok (.iload 6, 2) := by decide +kernel
theorem dX7_copy_142 : decode cX7_copy 142 = .ok (.iadd, 1) := by decide +kernel
theorem dX7_copy_143 : decode cX7_copy 143 = .ok (.iaload, 1) := by decide +kernel
theorem dX7_copy_144 : decode cX7_copy 144 = .ok (.iastore, 1) := by decide +kernel
theorem dX7_copy_145 : decode cX7_copy 145 = .ok (.iinc 6 1, 3) := by decide +kernel
theorem dX7_copy_148 : decode cX7_copy 148 = .ok (.goto (-31), 3) := by decide +kernel
theorem dX7_copy_151 : decode cX7_copy 151 = .ok (.iconst 0, 1) := by decide +kernel
theorem dX7_copy_152 : decode cX7_copy 152 = .ok (.istore 6, 2) := by decide +kernel
theorem dX7_copy_154 : decode cX7_copy 154 = .ok (.iload 6, 2) := by decide +kernel
theorem dX7_copy_156 : decode cX7_copy 156 = .ok (.iload 5, 2) := by decide +kernel
theorem dX7_copy_158 : decode cX7_copy 158 = .ok (.if_icmp .ge 31, 3) := by decide +kernel
theorem dX7_copy_161 : decode cX7_copy 161 = .ok (.aload_n 0, 1) := by decide +kernel
theorem dX7_copy_162 : decode cX7_copy 162 = .ok (.getfield 16, 3) := by decide +kernel
theorem dX7_copy_165 : decode cX7_copy 165 = .ok (.bipush 40, 2) := by decide +kernel
theorem dX7_copy_167 : decode cX7_copy 167 = .ok (.iload_n 3, 1) := by decide +kernel
theorem dX7_copy_168 : decode cX7_copy 168 = .ok (.imul, 1) := by decide +kernel
theorem dX7_copy_169 : decode cX7_copy 169 = .ok (.iload 4, 2) := by decide +kernel
theorem dX7_copy_171 : decode cX7_copy 171 = .ok (.iadd, 1) := by decide +kernel
theorem dX7_copy_172 : decode cX7_copy 172 = .ok (.iload 6, 2) := by decide +kernel
theorem dX7_copy_174 : decode cX7_copy 174 = .ok (.iadd, 1) := by decide +kernel
theorem dX7_copy_175 : decode cX7_copy 175 = .ok (.aload_n 0, 1) := by decide +kernel
theorem dX7_copy_176 : decode cX7_copy 176 = .ok (.getfield 22, 3) := by decide +kernel
theorem dX7_copy_179 : decode cX7_copy 179 = .ok (.iload 6, 2) := by decide +kernel
theorem dX7_copy_181 : decode cX7_copy 181 = .ok (.iaload, 1) := by decide +kernel
theorem dX7_copy_182 : decode cX7_copy 182 = .ok (.iastore, 1) := by decide +kernel
theorem dX7_copy_183 : decode cX7_copy 183 = .ok (.iinc 6 1, 3) := by decide +kernel
theorem dX7_copy_186 : decode cX7_copy 186 = .ok (.goto (-32), 3) := by decide +kernel
theorem dX7_copy_189 : decode cX7_copy 189 = .ok (.aload_n 0, 1) := by decide +kernel
theorem dX7_copy_190 : decode cX7_copy 190 = .ok (.iload 5, 2) := by decide +kernel
theorem dX7_copy_192 : decode cX7_copy 192 = .ok (.invokevirtual 69, 3) := by decide +kernel
theorem dX7_copy_195 : decode cX7_copy 195 = .ok (.ireturn, 1) := by decide +kernel
theorem dX7_drop_0 : decode cX7_drop 0 = .ok (.iload_n 1, 1) := by decide +kernel
theorem dX7_drop_1 : decode cX7_drop 1 = .ok (.invokestatic 58, 3) := by decide +kernel
theorem dX7_drop_4 : decode cX7_drop 4 = .ok (.ifCond .ne 6, 3) := by decide +kernel
theorem dX7_drop_7 : decode cX7_drop 7 = .ok (.ldc 64, 2) := by decide +kernel
theorem dX7_drop_9 : decode cX7_drop 9 = .ok (.ireturn, 1) := by decide +kernel
theorem dX7_drop_10 : decode cX7_drop 10 = .ok (.aload_n 0, 1) := by decide +kernel
theorem dX7_drop_11 : decode cX7_drop 11 = .ok (.getfield 13, 3) := by decide +kernel
theorem dX7_drop_14 : decode cX7_drop 14 = .ok (.iload_n 1, 1) := by decide +kernel
theorem dX7_drop_15 : decode cX7_drop 15 = .ok (.iaload, 1) := by decide +kernel
theorem dX7_drop_16 : decode cX7_drop 16 = .ok (.ifCond .ge 9, 3) := by decide +kernel
theorem dX7_drop_19 : decode cX7_drop 19 = .ok (.aload_n 0, 1) := by decide +kernel
theorem dX7_drop_20 : decode cX7_drop 20 = .ok (.iconst 1, 1) := by decide +kernel
theorem dX7_drop_21 : decode cX7_drop 21 = .ok (.invokevirtual 65, 3) := by decide +kernel
theorem dX7_drop_24 : decode cX7_drop 24 = .ok (.ireturn, 1) := by decide +kernel
theorem dX7_drop_25 : decode cX7_drop 25 = .ok (.aload_n 0, 1) := by decide +kernel
theorem dX7_drop_26 : decode cX7_drop 26 = .ok (.getfield 13, 3) := by decide +kernel
theorem dX7_drop_29 : decode cX7_drop 29 = .ok (.iload_n 1, 1) := by decide +kernel
theorem dX7_drop_30 : decode cX7_drop 30 = .ok (.iaload, 1) := by decide +kernel
theorem dX7_drop_31 : decode cX7_drop 31 = .ok (.istore_n 2, 1) := by decide +kernel
theorem dX7_drop_32 : decode cX7_drop 32 = .ok (.aload_n 0, 1) := by decide +kernel
theorem dX7_drop_33 : decode cX7_drop 33 = .ok (.getfield 13, 3) := by decide +kernel
theorem dX7_drop_36 : decode cX7_drop 36 = .ok (.iload_n 1, 1) := by decide +kernel
theorem dX7_drop_37 : decode cX7_drop 37 = .ok (.iconst (-1), 1) := by decide +kernel
theorem dX7_drop_38 : decode cX7_drop 38 = .ok (.iastore, 1) := by decide +kernel
theorem dX7_drop_39 : decode cX7_drop 39 = .ok (.aload_n 0, 1) := by decide +kernel
theorem dX7_drop_40 : decode cX7_drop 40 = .ok (.iload_n 2, 1) := by decide +kernel
theorem dX7_drop_41 : decode cX7_drop 41 = .ok (.invokevirtual 69, 3) := by decide +kernel
theorem dX7_drop_44 : decode cX7_drop 44 = .ok (.ireturn, 1) := by decide +kernel
theorem dX7_feed_0 : decode cX7_feed 0 = .ok (.iload_n 1, 1) := by decide +kernel
theorem dX7_feed_1 : decode cX7_feed 1 = .ok (.i2l, 1) := by decide +kernel
theorem dX7_feed_2 : decode cX7_feed 2 = .ok (.lconst 0, 1) := by decide +kernel
theorem dX7_feed_3 : decode cX7_feed 3 = .ok (.ldc2_w 76, 3) := by decide +kernel
theorem dX7_feed_6 : decode cX7_feed 6 = .ok (.invokestatic 54, 3) := by decide +kernel
theorem dX7_feed_9 : decode cX7_feed 9 = .ok (.ifCond .ne 6, 3) := by decide +kernel
theorem dX7_feed_12 : decode cX7_feed 12 = .ok (.ldc 64, 2) := by decide +kernel
theorem dX7_feed_14 : decode cX7_feed 14 = .ok (.ireturn, 1) := by decide +kernel
theorem dX7_feed_15 : decode cX7_feed 15 = .ok (.aload_n 0, 1) := by decide +kernel
theorem dX7_feed_16 : decode cX7_feed 16 = .ok (.getfield 78, 3) := by decide +kernel
theorem dX7_feed_19 : decode cX7_feed 19 = .ok (.bipush 120, 2) := by decide +kernel
theorem dX7_feed_21 : decode cX7_feed 21 = .ok (.if_icmp .ne 6, 3) := by decide +kernel
theorem dX7_feed_24 : decode cX7_feed 24 = .ok (.ldc 81, 2) := by decide +kernel
theorem dX7_feed_26 : decode cX7_feed 26 = .ok (.ireturn, 1) := by decide +kernel
theorem dX7_feed_27 : decode cX7_feed 27 = .ok (.aload_n 0, 1) := by decide +kernel
theorem dX7_feed_28 : decode cX7_feed 28 = .ok (.getfield 25, 3) := by decide +kernel
theorem dX7_feed_31 : decode cX7_feed 31 = .ok (.aload_n 0, 1) := by decide +kernel
theorem dX7_feed_32 : decode cX7_feed 32 = .ok (.getfield 78, 3) := by decide +kernel
theorem dX7_feed_35 : decode cX7_feed 35 = .ok (.iload_n 1, 1) := by decide +kernel
theorem dX7_feed_36 : decode cX7_feed 36 = .ok (.iastore, 1) := by decide +kernel
theorem dX7_feed_37 : decode cX7_feed 37 = .ok (.aload_n 0, 1) := by decide +kernel
theorem dX7_feed_38 : decode cX7_feed 38 = .ok (.dup, 1) := by decide +kernel
theorem dX7_feed_39 : decode cX7_feed 39 = .ok (.getfield 78, 3) := by decide +kernel
theorem dX7_feed_42 : decode cX7_feed 42 = .ok (.iconst 1, 1) := by decide +kernel
theorem dX7_feed_43 : decode cX7_feed 43 = .ok (.iadd, 1) := by decide +kernel
theorem dX7_feed_44 : decode cX7_feed 44 = .ok (.putfield 78, 3) := by decide +kernel
theorem dX7_feed_47 : decode cX7_feed 47 = .ok (.aload_n 0, 1) := by decide +kernel
theorem dX7_feed_48 : decode cX7_feed 48 = .ok (.getfield 78, 3) := by decide +kernel
theorem dX7_feed_51 : decode cX7_feed 51 = .ok (.ireturn, 1) := by decide +kernel
theorem dX7_nextToken_0 : decode cX7_nextToken 0 = .ok (.aload_n 0, 1) := by decide +kernel
theorem dX7_nextToken_1 : decode cX7_nextToken 1 = .ok (.aload_n 0, 1) := by decide +kernel
theorem dX7_nextToken_2 : decode cX7_nextToken 2 = .ok (.getfield 82, 3) := by decide +kernel
theorem dX7_nextToken_5 : decode cX7_nextToken 5 = .ok (.putfield 85, 3) := by decide +kernel
theorem dX7_nextToken_8 : decode cX7_nextToken 8 = .ok (.aload_n 0, 1) := by decide +kernel
theorem dX7_nextToken_9 : decode cX7_nextToken 9 = .ok (.aload_n 0, 1) := by decide +kernel
theorem dX7_nextToken_10 : decode cX7_nextToken 10 = .ok (.getfield 82, 3) := by decide +kernel
theorem dX7_nextToken_13 : decode cX7_nextToken 13 = .ok (.aload_n 0, 1) := by decide +kernel
theorem dX7_nextToken_14 : decode cX7_nextToken 14 = .ok (.getfield 78, 3) := by decide +kernel
theorem dX7_nextToken_17 : decode cX7_nextToken 17 = .ok (.if_icmp .ne 7, 3) := by decide +kernel
theorem dX7_nextToken_20 : decode cX7_nextToken 20 = .ok (.iconst 3, 1) := by decide +kernel
theorem dX7_nextToken_21 : decode cX7_nextToken 21 = .ok (.goto 4, 3) := by decide +kernel
theorem dX7_nextToken_24 : decode cX7_nextToken 24 = .ok (.iconst 0, 1) := by decide +kernel
theorem dX7_nextToken_25 : decode cX7_nextToken 25 = .ok (.putfield 88, 3) := by decide +kernel
theorem dX7_nextToken_28 : decode cX7_nextToken 28 = .ok (.aload_n 0, 1) := by decide +kernel
theorem dX7_nextToken_29 : decode cX7_nextToken 29 = .ok (.iconst 0, 1) := by decide +kernel
theorem dX7_nextToken_30 : decode cX7_nextToken 30 = .ok (.putfield 91, 3) := by decide +kernel
theorem dX7_nextToken_33 : decode cX7_nextToken 33 = .ok (.aload_n 0, 1) := by decide +kernel
theorem dX7_nextToken_34 : decode cX7_nextToken 34 = .ok (.getfield 82, 3) := by decide +kernel
theorem dX7_nextToken_37 : decode cX7_nextToken 37 = .ok (.aload_n 0, 1) := by decide +kernel
theorem dX7_nextToken_38 : decode cX7_nextToken 38 = .ok (.getfield 78, 3) := by decide +kernel
theorem dX7_nextToken_41 : decode cX7_nextToken 41 = .ok (.if_icmp .ge 78, 3) := by decide +kernel
theorem dX7_nextToken_44 : decode cX7_nextToken 44 = .ok (.aload_n 0, 1) := by decide +kernel
theorem dX7_nextToken_45 : decode cX7_nextToken 45 = .ok (.getfield 25, 3) := by decide +kernel
theorem dX7_nextToken_48 : decode cX7_nextToken 48 = .ok (.aload_n 0, 1) := by decide +kernel
theorem dX7_nextToken_49 : decode cX7_nextToken 49 = .ok (.getfield 82, 3) := by decide +kernel
theorem dX7_nextToken_52 : decode cX7_nextToken 52 = .ok (.iaload, 1) := by decide +kernel
theorem dX7_nextToken_53 : decode cX7_nextToken 53 = .ok (.i2l, 1) := by decide +kernel
theorem dX7_nextToken_54 : decode cX7_nextToken 54 = .ok (.ldc2_w 94, 3) := by decide +kernel
theorem dX7_nextToken_57 : decode cX7_nextToken 57 = .ok (.ldc2_w 96, 3) := by decide +kernel
theorem dX7_nextToken_60 : decode cX7_nextToken 60 = .ok (.invokestatic 54, 3) := by decide +kernel
theorem dX7_nextToken_63 : decode cX7_nextToken 63 = .ok (.ifCond .eq 56, 3) := by decide +kernel
theorem dX7_nextToken_66 : decode cX7_nextToken 66 = .ok (.aload_n 0, 1) := by decide +kernel
theorem dX7_nextToken_67 : decode cX7_nextToken 67 = .ok (.aload_n 0, 1) := by decide +kernel
theorem dX7_nextToken_68 : decode cX7_nextToken 68 = .ok (.getfield 91, 3) := by decide +kernel
theorem dX7_nextToken_71 : decode cX7_nextToken 71 = .ok (.bipush 99, 2) := by decide +kernel
theorem dX7_nextToken_73 : decode cX7_nextToken 73 = .ok (.if_icmp .le 10, 3) := by decide +kernel
theorem dX7_nextToken_76 : decode cX7_nextToken 76 = .ok (.aload_n 0, 1) := by decide +kernel
theorem dX7_nextToken_77 : decode cX7_nextToken 77 = .ok (.getfield 91, 3) := by decide +kernel
theorem dX7_nextToken_80 : decode cX7_nextToken 80 = .ok (.goto 23, 3) := by decide +kernel
theorem dX7_nextToken_83 : decode cX7_nextToken 83 = .ok (.bipush 10, 2) := by decide +kernel
theorem dX7_nextToken_85 : decode cX7_nextToken 85 = .ok (.aload_n 0, 1) := by decide +kernel
theorem dX7_nextToken_86 : decode cX7_nextToken 86 = .ok (.getfield 91, 3) := by decide +kernel
theorem dX7_nextToken_89 : decode cX7_nextToken 89 = .ok (.imul, 1) := by decide +kernel
theorem dX7_nextToken_90 : decode cX7_nextToken 90 = .ok (.aload_n 0, 1) := by decide +kernel
theorem dX7_nextToken_91 : decode cX7_nextToken 91 = .ok (.getfield 25, 3) := by decide +kernel
theorem dX7_nextToken_94 : decode cX7_nextToken 94 = .ok (.aload_n 0, 1) := by decide +kernel
theorem dX7_nextToken_95 : decode cX7_nextToken 95 = .ok (.getfield 82, 3) := by decide +kernel
theorem dX7_nextToken_98 : decode cX7_nextToken 98 = .ok (.iaload, 1) := by decide +kernel
theorem dX7_nextToken_99 : decode cX7_nextToken 99 = .ok (.iadd, 1) := by decide +kernel
theorem dX7_nextToken_100 : decode cX7_nextToken 100 = .ok (.bipush 48, 2) := by decide +kernel
theorem dX7_nextToken_102 : decode cX7_nextToken 102 = .ok (.isub, 1) := by decide +kernel
theorem dX7_nextToken_103 : decode cX7_nextToken 103 = .ok (.putfield 91, 3) := by decide +kernel
theorem dX7_nextToken_106 : decode cX7_nextToken 106 = .ok (.aload_n 0, 1) := by decide +kernel
theorem dX7_nextToken_107 : decode cX7_nextToken 107 = .ok (.dup, 1) := by decide +kernel
theorem dX7_nextToken_108 : decode cX7_nextToken 108 = .ok (.getfield 82, 3) := by decide +kernel
theorem dX7_nextToken_111 : decode cX7_nextToken 111 = .ok (.iconst 1, 1) := by decide +kernel
theorem dX7_nextToken_112 : decode cX7_nextToken 112 = .ok (.iadd, 1) := by decide +kernel
theorem dX7_nextToken_113 : decode cX7_nextToken 113 = .ok (.putfield 82, 3) := by decide +kernel
theorem dX7_nextToken_116 : decode cX7_nextToken 116 = .ok (.goto (-83), 3) := by decide +kernel
theorem dX7_nextToken_119 : decode cX7_nextToken 119 = .ok (.aload_n 0, 1) := by decide +kernel
theorem dX7_nextToken_120 : decode cX7_nextToken 120 = .ok (.getfield 82, 3) := by decide +kernel
theorem dX7_nextToken_123 : decode cX7_nextToken 123 = .ok (.aload_n 0, 1) := by decide +kernel
theorem dX7_nextToken_124 : decode cX7_nextToken 124 = .ok (.getfield 85, 3) := by decide +kernel
theorem dX7_nextToken_127 : decode cX7_nextToken 127 = .ok (.if_icmp .le 28, 3) := by decide +kernel
theorem dX7_nextToken_130 : decode cX7_nextToken 130 = .ok (.aload_n 0, 1) := by decide +kernel
theorem dX7_nextToken_131 : decode cX7_nextToken 131 = .ok (.aload_n 0, 1) := by decide +kernel
theorem dX7_nextToken_132 : decode cX7_nextToken 132 = .ok (.getfield 82, 3) := by decide +kernel
theorem dX7_nextToken_135 : decode cX7_nextToken 135 = .ok (.aload_n 0, 1) := by decide +kernel
theorem dX7_nextToken_136 : decode cX7_nextToken 136 = .ok (.getfield 85, 3) := by decide +kernel
theorem dX7_nextToken_139 : decode cX7_nextToken 139 = .ok (.isub, 1) := by decide +kernel
theorem dX7_nextToken_140 : decode cX7_nextToken 140 = .ok (.iconst 2, 1) := by decide +kernel
theorem dX7_nextToken_141 : decode cX7_nextToken 141 = .ok (.if_icmp .le 7, 3) := by decide +kernel
theorem dX7_nextToken_144 : decode cX7_nextToken 144 = .ok (.iconst 0, 1) := by decide +kernel
theorem dX7_nextToken_145 : decode cX7_nextToken 145 = .ok (.goto 4, 3) := by decide +kernel
theorem dX7_nextToken_148 : decode cX7_nextToken 148 = .ok (.iconst 2, 1) := by decide +kernel
theorem dX7_nextToken_149 : decode cX7_nextToken 149 = .ok (.putfield 88, 3) := by decide +kernel
theorem dX7_nextToken_152 : decode cX7_nextToken 152 = .ok (.goto 77, 3) := by decide +kernel
theorem dX7_nextToken_155 : decode cX7_nextToken 155 = .ok (.aload_n 0, 1) := by decide +kernel
theorem dX7_nextToken_156 : decode cX7_nextToken 156 = .ok (.getfield 88, 3) := by decide +kernel
theorem dX7_nextToken_159 : decode cX7_nextToken 159 = .ok (.ifCond .ne 70, 3) := by decide +kernel
theorem dX7_nextToken_162 : decode cX7_nextToken 162 = .ok (.aload_n 0, 1) := by decide +kernel
theorem dX7_nextToken_163 : decode cX7_nextToken 163 = .ok (.aload_n 0, 1) := by decide +kernel
theorem dX7_nextToken_164 : decode cX7_nextToken 164 = .ok (.getfield 25, 3) := by decide +kernel
theorem dX7_nextToken_167 : decode cX7_nextToken 167 = .ok (.aload_n 0, 1) := by decide +kernel
theorem dX7_nextToken_168 : decode cX7_nextToken 168 = .ok (.getfield 82, 3) := by decide +kernel
theorem dX7_nextToken_171 : decode cX7_nextToken 171 = .ok (.iaload, 1) := by decide +kernel
theorem dX7_nextToken_172 : decode cX7_nextToken 172 = .ok (.putfield 91, 3) := by decide +kernel
theorem dX7_nextToken_175 : decode cX7_nextToken 175 = .ok (.aload_n 0, 1) := by decide +kernel
theorem dX7_nextToken_176 : decode cX7_nextToken 176 = .ok (.aload_n 0, 1) := by decide +kernel
theorem dX7_nextToken_177 : decode cX7_nextToken 177 = .ok (.getfield 91, 3) := by decide +kernel
theorem dX7_nextToken_180 : decode cX7_nextToken 180 = .ok (.i2l, 1) := by decide +kernel
theorem dX7_nextToken_181 : decode cX7_nextToken 181 = .ok (.ldc2_w 98, 3) := by decide +kernel
theorem dX7_nextToken_184 : decode cX7_nextToken 184 = .ok (.ldc2_w 100, 3) := by decide +kernel
theorem dX7_nextToken_187 : decode cX7_nextToken 187 = .ok (.invokestatic 54, 3) := by decide +kernel
theorem dX7_nextToken_190 : decode cX7_nextToken 190 = .ok (.ifCond .ne 21, 3) := by decide +kernel
theorem dX7_nextToken_193 : decode cX7_nextToken 193 = .ok (.aload_n 0, 1) := by decide +kernel
theorem dX7_nextToken_194 : decode cX7_nextToken 194 = .ok (.getfield 91, 3) := by decide +kernel
theorem dX7_nextToken_197 : decode cX7_nextToken 197 = .ok (.bipush 44, 2) := by decide +kernel
theorem dX7_nextToken_199 : decode cX7_nextToken 199 = .ok (.if_icmp .eq 12, 3) := by decide +kernel
theorem dX7_nextToken_202 : decode cX7_nextToken 202 = .ok (.aload_n 0, 1) := by decide +kernel
theorem dX7_nextToken_203 : decode cX7_nextToken 203 = .ok (.getfield 91, 3) := by decide +kernel
theorem dX7_nextToken_206 : decode cX7_nextToken 206 = .ok (.bipush 59, 2) := by decide +kernel
theorem dX7_nextToken_208 : decode cX7_nextToken 208 = .ok (.if_icmp .ne 7, 3) := by decide +kernel
theorem dX7_nextToken_211 : decode cX7_nextToken 211 = .ok (.iconst 1, 1) := by decide +kernel
theorem dX7_nextToken_212 : decode cX7_nextToken 212 = .ok (.goto 4, 3) := by decide +kernel
theorem dX7_nextToken_215 : decode cX7_nextToken 215 = .ok (.iconst 0, 1) := by decide +kernel
theorem dX7_nextToken_216 : decode cX7_nextToken 216 = .ok (.putfield 88, 3) := by decide +kernel
theorem dX7_nextToken_219 : decode cX7_nextToken 219 = .ok (.aload_n 0, 1) := by decide +kernel
theorem dX7_nextToken_220 : decode cX7_nextToken 220 = .ok (.dup, 1) := by decide +kernel
theorem dX7_nextToken_221 : decode cX7_nextToken 221 = .ok (.getfield 82, 3) := by decide +kernel
theorem dX7_nextToken_224 : decode cX7_nextToken 224 = .ok (.iconst 1, 1) := by decide +kernel
theorem dX7_nextToken_225 : decode cX7_nextToken 225 = .ok (.iadd, 1) := by decide +kernel
theorem dX7_nextToken_226 : decode cX7_nextToken 226 = .ok (.putfield 82, 3) := by decide +kernel
theorem dX7_nextToken_229 : decode cX7_nextToken 229 = .ok (.return_, 1) := by decide +kernel
theorem dX7_faults_0 : decode cX7_faults 0 = .ok (.aload_n 0, 1) := by decide +kernel
theorem dX7_faults_1 : decode cX7_faults 1 = .ok (.iload_n 1, 1) := by decide +kernel
theorem dX7_faults_2 : decode cX7_faults 2 = .ok (.putfield 102, 3) := by decide +kernel
theorem dX7_faults_5 : decode cX7_faults 5 = .ok (.iconst 0, 1) := by decide +kernel
theorem dX7_faults_6 : decode cX7_faults 6 = .ok (.ireturn, 1) := by decide +kernel
theorem dX7_isLetter_0 : decode cX7_isLetter 0 = .ok (.aload_n 0, 1) := by decide +kernel
theorem dX7_isLetter_1 : decode cX7_isLetter 1 = .ok (.getfield 88, 3) := by decide +kernel
theorem dX7_isLetter_4 : decode cX7_isLetter 4 = .ok (.iconst 1, 1) := by decide +kernel
theorem dX7_isLetter_5 : decode cX7_isLetter 5 = .ok (.if_icmp .ne 15, 3) := by decide +kernel
theorem dX7_isLetter_8 : decode cX7_isLetter 8 = .ok (.aload_n 0, 1) := by decide +kernel
theorem dX7_isLetter_9 : decode cX7_isLetter 9 = .ok (.getfield 91, 3) := by decide +kernel
theorem dX7_isLetter_12 : decode cX7_isLetter 12 = .ok (.iload_n 1, 1) := by decide +kernel
theorem dX7_isLetter_13 : decode cX7_isLetter 13 = .ok (.if_icmp .ne 7, 3) := by decide +kernel
theorem dX7_isLetter_16 : decode cX7_isLetter 16 = .ok (.iconst 1, 1) := by decide +kernel
theorem dX7_isLetter_17 : decode cX7_isLetter 17 = .ok (.goto 4, 3) := by decide +kernel
theorem dX7_isLetter_20 : decode cX7_isLetter 20 = .ok (.iconst 0, 1) := by decide +kernel
theorem dX7_isLetter_21 : decode cX7_isLetter 21 = .ok (.ireturn, 1) := by decide +kernel
theorem dX7_takes_0 : decode cX7_takes 0 = .ok (.aload_n 0, 1) := by decide +kernel
theorem dX7_takes_1 : decode cX7_takes 1 = .ok (.iload_n 1, 1) := by decide +kernel
theorem dX7_takes_2 : decode cX7_takes 2 = .ok (.invokevirtual 105, 3) := by decide +kernel
theorem dX7_takes_5 : decode cX7_takes 5 = .ok (.ifCond .ne 9, 3) := by decide +kernel
theorem dX7_takes_8 : decode cX7_takes 8 = .ok (.aload_n 0, 1) := by decide +kernel
theorem dX7_takes_9 : decode cX7_takes 9 = .ok (.iconst 1, 1) := by decide +kernel
theorem dX7_takes_10 : decode cX7_takes 10 = .ok (.invokevirtual 108, 3) := by decide +kernel
theorem dX7_takes_13 : decode cX7_takes 13 = .ok (.ireturn, 1) := by decide +kernel
theorem dX7_takes_14 : decode cX7_takes 14 = .ok (.aload_n 0, 1) := by decide +kernel
theorem dX7_takes_15 : decode cX7_takes 15 = .ok (.invokevirtual 111, 3) := by decide +kernel
theorem dX7_takes_18 : decode cX7_takes 18 = .ok (.iconst 1, 1) := by decide +kernel
theorem dX7_takes_19 : decode cX7_takes 19 = .ok (.ireturn, 1) := by decide +kernel
theorem dX7_takesNumber_0 : decode cX7_takesNumber 0 = .ok (.aload_n 0, 1) := by decide +kernel
theorem dX7_takesNumber_1 : decode cX7_takesNumber 1 = .ok (.getfield 88, 3) := by decide +kernel
theorem dX7_takesNumber_4 : decode cX7_takesNumber 4 = .ok (.iconst 2, 1) := by decide +kernel
theorem dX7_takesNumber_5 : decode cX7_takesNumber 5 = .ok (.if_icmp .ne 18, 3) := by decide +kernel
theorem dX7_takesNumber_8 : decode cX7_takesNumber 8 = .ok (.aload_n 0, 1) := by decide +kernel
theorem dX7_takesNumber_9 : decode cX7_takesNumber 9 = .ok (.getfield 91, 3) := by decide +kernel
theorem dX7_takesNumber_12 : decode cX7_takesNumber 12 = .ok (.i2l, 1) := by decide +kernel
theorem dX7_takesNumber_13 : decode cX7_takesNumber 13 = .ok (.iload_n 1, 1) := by decide +kernel
theorem dX7_takesNumber_14 : decode cX7_takesNumber 14 = .ok (.i2l, 1) := by decide +kernel
theorem dX7_takesNumber_15 : decode cX7_takesNumber 15 = .ok (.iload_n 2, 1) := by decide +kernel
theorem dX7_takesNumber_16 : decode cX7_takesNumber 16 = .ok (.i2l, 1) := by decide +kernel
theorem dX7_takesNumber_17 : decode cX7_takesNumber 17 = .ok (.invokestatic 54, 3) := by decide +kernel
theorem dX7_takesNumber_20 : decode cX7_takesNumber 20 = .ok (.ifCond .ne 21, 3) := by decide +kernel
theorem dX7_takesNumber_23 : decode cX7_takesNumber 23 = .ok (.aload_n 0, 1) := by decide +kernel
theorem dX7_takesNumber_24 : decode cX7_takesNumber 24 = .ok (.aload_n 0, 1) := by decide +kernel
theorem dX7_takesNumber_25 : decode cX7_takesNumber 25 = .ok (.getfield 88, 3) := by decide +kernel
theorem dX7_takesNumber_28 : decode cX7_takesNumber 28 = .ok (.iconst 2, 1) := by decide +kernel
theorem dX7_takesNumber_29 : decode cX7_takesNumber 29 = .ok (.if_icmp .ne 7, 3) := by decide +kernel
theorem dX7_takesNumber_32 : decode cX7_takesNumber 32 = .ok (.iconst 2, 1) := by decide +kernel
theorem dX7_takesNumber_33 : decode cX7_takesNumber 33 = .ok (.goto 4, 3) := by decide +kernel
theorem dX7_takesNumber_36 : decode cX7_takesNumber 36 = .ok (.iconst 1, 1) := by decide +kernel
theorem dX7_takesNumber_37 : decode cX7_takesNumber 37 = .ok (.invokevirtual 108, 3) := by decide +kernel
theorem dX7_takesNumber_40 : decode cX7_takesNumber 40 = .ok (.ireturn, 1) := by decide +kernel
theorem dX7_takesNumber_41 : decode cX7_takesNumber 41 = .ok (.aload_n 0, 1) := by decide +kernel
theorem dX7_takesNumber_42 : decode cX7_takesNumber 42 = .ok (.getfield 28, 3) := by decide +kernel
theorem dX7_takesNumber_45 : decode cX7_takesNumber 45 = .ok (.iload_n 3, 1) := by decide +kernel
theorem dX7_takesNumber_46 : decode cX7_takesNumber 46 = .ok (.aload_n 0, 1) := by decide +kernel
theorem dX7_takesNumber_47 : decode cX7_takesNumber 47 = .ok (.getfield 91, 3) := by decide +kernel
theorem dX7_takesNumber_50 : decode cX7_takesNumber 50 = .ok (.iastore, 1) := by decide +kernel
theorem dX7_takesNumber_51 : decode cX7_takesNumber 51 = .ok (.aload_n 0, 1) := by decide +kernel
theorem dX7_takesNumber_52 : decode cX7_takesNumber 52 = .ok (.invokevirtual 111, 3) := by decide +kernel
theorem dX7_takesNumber_55 : decode cX7_takesNumber 55 = .ok (.aload_n 0, 1) := by decide +kernel
theorem dX7_takesNumber_56 : decode cX7_takesNumber 56 = .ok (.iload 4, 2) := by decide +kernel
theorem dX7_takesNumber_58 : decode cX7_takesNumber 58 = .ok (.invokevirtual 114, 3) := by decide +kernel
theorem dX7_takesNumber_61 : decode cX7_takesNumber 61 = .ok (.ireturn, 1) := by decide +kernel
theorem dX7_readCell_0 : decode cX7_readCell 0 = .ok (.aload_n 0, 1) := by decide +kernel
theorem dX7_readCell_1 : decode cX7_readCell 1 = .ok (.getfield 28, 3) := by decide +kernel
theorem dX7_readCell_4 : decode cX7_readCell 4 = .ok (.iconst 3, 1) := by decide +kernel
theorem dX7_readCell_5 : decode cX7_readCell 5 = .ok (.iaload, 1) := by decide +kernel
theorem dX7_readCell_6 : decode cX7_readCell 6 = .ok (.istore_n 1, 1) := by decide +kernel
theorem dX7_readCell_7 : decode cX7_readCell 7 = .ok (.iload_n 1, 1) := by decide +kernel
theorem dX7_readCell_8 : decode cX7_readCell 8 = .ok (.bipush 6, 2) := by decide +kernel
theorem dX7_readCell_10 : decode cX7_readCell 10 = .ok (.if_icmp .eq 12, 3) := by decide +kernel
theorem dX7_readCell_13 : decode cX7_readCell 13 = .ok (.aload_n 0, 1) := by decide +kernel
theorem dX7_readCell_14 : decode cX7_readCell 14 = .ok (.getfield 28, 3) := by decide +kernel
theorem dX7_readCell_17 : decode cX7_readCell 17 = .ok (.iconst 4, 1) := by decide +kernel
theorem dX7_readCell_18 : decode cX7_readCell 18 = .ok (.iaload, 1) := by decide +kernel
theorem dX7_readCell_19 : decode cX7_readCell 19 = .ok (.ifCond .le 22, 3) := by decide +kernel
theorem dX7_readCell_22 : decode cX7_readCell 22 = .ok (.aload_n 0, 1) := by decide +kernel
theorem dX7_readCell_23 : decode cX7_readCell 23 = .ok (.aload_n 0, 1) := by decide +kernel
theorem dX7_readCell_24 : decode cX7_readCell 24 = .ok (.getfield 28, 3) := by decide +kernel
theorem dX7_readCell_27 : decode cX7_readCell 27 = .ok (.iconst 4, 1) := by decide +kernel
theorem dX7_readCell_28 : decode cX7_readCell 28 = .ok (.iaload, 1) := by decide +kernel
theorem dX7_readCell_29 : decode cX7_readCell 29 = .ok (.ifCond .le 7, 3) := by decide +kernel
theorem dX7_readCell_32 : decode cX7_readCell 32 = .ok (.iconst 1, 1) := by decide +kernel
theorem dX7_readCell_33 : decode cX7_readCell 33 = .ok (.goto 4, 3) := by decide +kernel
theorem dX7_readCell_36 : decode cX7_readCell 36 = .ok (.iconst 3, 1) := by decide +kernel
theorem dX7_readCell_37 : decode cX7_readCell 37 = .ok (.invokevirtual 108, 3) := by decide +kernel
theorem dX7_readCell_40 : decode cX7_readCell 40 = .ok (.ireturn, 1) := by decide +kernel
theorem dX7_readCell_41 : decode cX7_readCell 41 = .ok (.aload_n 0, 1) := by decide +kernel
theorem dX7_readCell_42 : decode cX7_readCell 42 = .ok (.invokevirtual 111, 3) := by decide +kernel
theorem dX7_readCell_45 : decode cX7_readCell 45 = .ok (.aload_n 0, 1) := by decide +kernel
theorem dX7_readCell_46 : decode cX7_readCell 46 = .ok (.getfield 28, 3) := by decide +kernel
theorem dX7_readCell_49 : decode cX7_readCell 49 = .ok (.iconst 3, 1) := by decide +kernel
theorem dX7_readCell_50 : decode cX7_readCell 50 = .ok (.dup2, 1) := by decide +kernel
theorem dX7_readCell_51 : decode cX7_readCell 51 = .ok (.iaload, 1) := by decide +kernel
theorem dX7_readCell_52 : decode cX7_readCell 52 = .ok (.iconst 1, 1) := by decide +kernel
theorem dX7_readCell_53 : decode cX7_readCell 53 = .ok (.iadd, 1) := by decide +kernel
theorem dX7_readCell_54 : decode cX7_readCell 54 = .ok (.iastore, 1) := by decide +kernel
theorem dX7_readCell_55 : decode cX7_readCell 55 = .ok (.aload_n 0, 1) := by decide +kernel
theorem dX7_readCell_56 : decode cX7_readCell 56 = .ok (.iconst 0, 1) := by decide +kernel
theorem dX7_readCell_57 : decode cX7_readCell 57 = .ok (.bipush 30, 2) := by decide +kernel
theorem dX7_readCell_59 : decode cX7_readCell 59 = .ok (.bipush 8, 2) := by decide +kernel
theorem dX7_readCell_61 : decode cX7_readCell 61 = .ok (.iload_n 1, 1) := by decide +kernel
theorem dX7_readCell_62 : decode cX7_readCell 62 = .ok (.iadd, 1) := by decide +kernel
theorem dX7_readCell_63 : decode cX7_readCell 63 = .ok (.bipush 59, 2) := by decide +kernel
theorem dX7_readCell_65 : decode cX7_readCell 65 = .ok (.invokevirtual 117, 3) := by decide +kernel
theorem dX7_readCell_68 : decode cX7_readCell 68 = .ok (.ireturn, 1) := by decide +kernel
theorem dX7_readBoat_0 : decode cX7_readBoat 0 = .ok (.aload_n 0, 1) := by decide +kernel
theorem dX7_readBoat_1 : decode cX7_readBoat 1 = .ok (.getfield 28, 3) := by decide +kernel
theorem dX7_readBoat_4 : decode cX7_readBoat 4 = .ok (.iconst 4, 1) := by decide +kernel
theorem dX7_readBoat_5 : decode cX7_readBoat 5 = .ok (.iaload, 1) := by decide +kernel
theorem dX7_readBoat_6 : decode cX7_readBoat 6 = .ok (.istore_n 2, 1) := by decide +kernel
theorem dX7_readBoat_7 : decode cX7_readBoat 7 = .ok (.iload_n 2, 1) := by decide +kernel
theorem dX7_readBoat_8 : decode cX7_readBoat 8 = .ok (.bipush 6, 2) := by decide +kernel
theorem dX7_readBoat_10 : decode cX7_readBoat 10 = .ok (.if_icmp .eq 12, 3) := by decide +kernel
theorem dX7_readBoat_13 : decode cX7_readBoat 13 = .ok (.aload_n 0, 1) := by decide +kernel
theorem dX7_readBoat_14 : decode cX7_readBoat 14 = .ok (.getfield 28, 3) := by decide +kernel
theorem dX7_readBoat_17 : decode cX7_readBoat 17 = .ok (.iconst 3, 1) := by decide +kernel
theorem dX7_readBoat_18 : decode cX7_readBoat 18 = .ok (.iaload, 1) := by decide +kernel
theorem dX7_readBoat_19 : decode cX7_readBoat 19 = .ok (.ifCond .ne 22, 3) := by decide +kernel
theorem dX7_readBoat_22 : decode cX7_readBoat 22 = .ok (.aload_n 0, 1) := by decide +kernel
theorem dX7_readBoat_23 : decode cX7_readBoat 23 = .ok (.aload_n 0, 1) := by decide +kernel
theorem dX7_readBoat_24 : decode cX7_readBoat 24 = .ok (.getfield 28, 3) := by decide +kernel
theorem dX7_readBoat_27 : decode cX7_readBoat 27 = .ok (.iconst 3, 1) := by decide +kernel
theorem dX7_readBoat_28 : decode cX7_readBoat 28 = .ok (.iaload, 1) := by decide +kernel
theorem dX7_readBoat_29 : decode cX7_readBoat 29 = .ok (.ifCond .ne 7, 3) := by decide +kernel
theorem dX7_readBoat_32 : decode cX7_readBoat 32 = .ok (.iconst 1, 1) := by decide +kernel
theorem dX7_readBoat_33 : decode cX7_readBoat 33 = .ok (.goto 4, 3) := by decide +kernel
theorem dX7_readBoat_36 : decode cX7_readBoat 36 = .ok (.iconst 3, 1) := by decide +kernel
theorem dX7_readBoat_37 : decode cX7_readBoat 37 = .ok (.invokevirtual 108, 3) := by decide +kernel
theorem dX7_readBoat_40 : decode cX7_readBoat 40 = .ok (.ireturn, 1) := by decide +kernel
theorem dX7_readBoat_41 : decode cX7_readBoat 41 = .ok (.aload_n 0, 1) := by decide +kernel
theorem dX7_readBoat_42 : decode cX7_readBoat 42 = .ok (.invokevirtual 111, 3) := by decide +kernel
theorem dX7_readBoat_45 : decode cX7_readBoat 45 = .ok (.aload_n 0, 1) := by decide +kernel
theorem dX7_readBoat_46 : decode cX7_readBoat 46 = .ok (.getfield 28, 3) := by decide +kernel
theorem dX7_readBoat_49 : decode cX7_readBoat 49 = .ok (.bipush 14, 2) := by decide +kernel
theorem dX7_readBoat_51 : decode cX7_readBoat 51 = .ok (.iload_n 2, 1) := by decide +kernel
theorem dX7_readBoat_52 : decode cX7_readBoat 52 = .ok (.iadd, 1) := by decide +kernel
theorem dX7_readBoat_53 : decode cX7_readBoat 53 = .ok (.iload_n 1, 1) := by decide +kernel
theorem dX7_readBoat_54 : decode cX7_readBoat 54 = .ok (.iastore, 1) := by decide +kernel
theorem dX7_readBoat_55 : decode cX7_readBoat 55 = .ok (.aload_n 0, 1) := by decide +kernel
theorem dX7_readBoat_56 : decode cX7_readBoat 56 = .ok (.getfield 28, 3) := by decide +kernel
theorem dX7_readBoat_59 : decode cX7_readBoat 59 = .ok (.iconst 4, 1) := by decide +kernel
theorem dX7_readBoat_60 : decode cX7_readBoat 60 = .ok (.dup2, 1) := by decide +kernel
theorem dX7_readBoat_61 : decode cX7_readBoat 61 = .ok (.iaload, 1) := by decide +kernel
theorem dX7_readBoat_62 : decode cX7_readBoat 62 = .ok (.iconst 1, 1) := by decide +kernel
theorem dX7_readBoat_63 : decode cX7_readBoat 63 = .ok (.iadd, 1) := by decide +kernel
theorem dX7_readBoat_64 : decode cX7_readBoat 64 = .ok (.iastore, 1) := by decide +kernel
theorem dX7_readBoat_65 : decode cX7_readBoat 65 = .ok (.aload_n 0, 1) := by decide +kernel
theorem dX7_readBoat_66 : decode cX7_readBoat 66 = .ok (.iconst 0, 1) := by decide +kernel
theorem dX7_readBoat_67 : decode cX7_readBoat 67 = .ok (.bipush 60, 2) := by decide +kernel
theorem dX7_readBoat_69 : decode cX7_readBoat 69 = .ok (.bipush 20, 2) := by decide +kernel
theorem dX7_readBoat_71 : decode cX7_readBoat 71 = .ok (.iload_n 2, 1) := by decide +kernel
theorem dX7_readBoat_72 : decode cX7_readBoat 72 = .ok (.iadd, 1) := by decide +kernel
theorem dX7_readBoat_73 : decode cX7_readBoat 73 = .ok (.bipush 44, 2) := by decide +kernel
theorem dX7_readBoat_75 : decode cX7_readBoat 75 = .ok (.invokevirtual 117, 3) := by decide +kernel
theorem dX7_readBoat_78 : decode cX7_readBoat 78 = .ok (.istore_n 3, 1) := by decide +kernel
theorem dX7_readBoat_79 : decode cX7_readBoat 79 = .ok (.aload_n 0, 1) := by decide +kernel
theorem dX7_readBoat_80 : decode cX7_readBoat 80 = .ok (.getfield 28, 3) := by decide +kernel
theorem dX7_readBoat_83 : decode cX7_readBoat 83 = .ok (.bipush 32, 2) := by decide +kernel
theorem dX7_readBoat_85 : decode cX7_readBoat 85 = .ok (.iload_n 2, 1) := by decide +kernel
theorem dX7_readBoat_86 : decode cX7_readBoat 86 = .ok (.iadd, 1) := by decide +kernel
theorem dX7_readBoat_87 : decode cX7_readBoat 87 = .ok (.aload_n 0, 1) := by decide +kernel
theorem dX7_readBoat_88 : decode cX7_readBoat 88 = .ok (.getfield 28, 3) := by decide +kernel
theorem dX7_readBoat_91 : decode cX7_readBoat 91 = .ok (.bipush 20, 2) := by decide +kernel
theorem dX7_readBoat_93 : decode cX7_readBoat 93 = .ok (.iload_n 2, 1) := by decide +kernel
theorem dX7_readBoat_94 : decode cX7_readBoat 94 = .ok (.iadd, 1) := by decide +kernel
theorem dX7_readBoat_95 : decode cX7_readBoat 95 = .ok (.iaload, 1) := by decide +kernel
theorem dX7_readBoat_96 : decode cX7_readBoat 96 = .ok (.iastore, 1) := by decide +kernel
theorem dX7_readBoat_97 : decode cX7_readBoat 97 = .ok (.iload_n 3, 1) := by decide +kernel
theorem dX7_readBoat_98 : decode cX7_readBoat 98 = .ok (.ifCond .eq 23, 3) := by decide +kernel
theorem dX7_readBoat_101 : decode cX7_readBoat 101 = .ok (.aload_n 0, 1) := by decide +kernel
theorem dX7_readBoat_102 : decode cX7_readBoat 102 = .ok (.iconst 1, 1) := by decide +kernel
theorem dX7_readBoat_103 : decode cX7_readBoat 103 = .ok (.bipush 9, 2) := by decide +kernel
theorem dX7_readBoat_105 : decode cX7_readBoat 105 = .ok (.bipush 26, 2) := by decide +kernel
theorem dX7_readBoat_107 : decode cX7_readBoat 107 = .ok (.iload_n 2, 1) := by decide +kernel
theorem dX7_readBoat_108 : decode cX7_readBoat 108 = .ok (.iadd, 1) := by decide +kernel
theorem dX7_readBoat_109 : decode cX7_readBoat 109 = .ok (.bipush 59, 2) := by decide +kernel
theorem dX7_readBoat_111 : decode cX7_readBoat 111 = .ok (.invokevirtual 117, 3) := by decide +kernel
theorem dX7_readBoat_114 : decode cX7_readBoat 114 = .ok (.ifCond .eq 7, 3) := by decide +kernel
theorem dX7_readBoat_117 : decode cX7_readBoat 117 = .ok (.iconst 1, 1) := by decide +kernel
theorem dX7_readBoat_118 : decode cX7_readBoat 118 = .ok (.goto 4, 3) := by decide +kernel
theorem dX7_readBoat_121 : decode cX7_readBoat 121 = .ok (.iconst 0, 1) := by decide +kernel
theorem dX7_readBoat_122 : decode cX7_readBoat 122 = .ok (.ireturn, 1) := by decide +kernel
theorem dX7_readIsle_0 : decode cX7_readIsle 0 = .ok (.aload_n 0, 1) := by decide +kernel
theorem dX7_readIsle_1 : decode cX7_readIsle 1 = .ok (.iconst 0, 1) := by decide +kernel
theorem dX7_readIsle_2 : decode cX7_readIsle 2 = .ok (.putfield 82, 3) := by decide +kernel
theorem dX7_readIsle_5 : decode cX7_readIsle 5 = .ok (.iconst 0, 1) := by decide +kernel
theorem dX7_readIsle_6 : decode cX7_readIsle 6 = .ok (.istore_n 1, 1) := by decide +kernel
theorem dX7_readIsle_7 : decode cX7_readIsle 7 = .ok (.iload_n 1, 1) := by decide +kernel
theorem dX7_readIsle_8 : decode cX7_readIsle 8 = .ok (.bipush 44, 2) := by decide +kernel
theorem dX7_readIsle_10 : decode cX7_readIsle 10 = .ok (.if_icmp .ge 16, 3) := by decide +kernel
theorem dX7_readIsle_13 : decode cX7_readIsle 13 = .ok (.aload_n 0, 1) := by decide +kernel
theorem dX7_readIsle_14 : decode cX7_readIsle 14 = .ok (.getfield 28, 3) := by decide +kernel
theorem dX7_readIsle_17 : decode cX7_readIsle 17 = .ok (.iload_n 1, 1) := by decide +kernel
theorem dX7_readIsle_18 : decode cX7_readIsle 18 = .ok (.iconst 0, 1) := by decide +kernel
theorem dX7_readIsle_19 : decode cX7_readIsle 19 = .ok (.iastore, 1) := by decide +kernel
theorem dX7_readIsle_20 : decode cX7_readIsle 20 = .ok (.iinc 1 1, 3) := by decide +kernel
theorem dX7_readIsle_23 : decode cX7_readIsle 23 = .ok (.goto (-16), 3) := by decide +kernel
theorem dX7_readIsle_26 : decode cX7_readIsle 26 = .ok (.aload_n 0, 1) := by decide +kernel
theorem dX7_readIsle_27 : decode cX7_readIsle 27 = .ok (.getfield 28, 3) := by decide +kernel
theorem dX7_readIsle_30 : decode cX7_readIsle 30 = .ok (.bipush 7, 2) := by decide +kernel
theorem dX7_readIsle_32 : decode cX7_readIsle 32 = .ok (.iconst (-1), 1) := by decide +kernel
theorem dX7_readIsle_33 : decode cX7_readIsle 33 = .ok (.iastore, 1) := by decide +kernel
theorem dX7_readIsle_34 : decode cX7_readIsle 34 = .ok (.aload_n 0, 1) := by decide +kernel
theorem dX7_readIsle_35 : decode cX7_readIsle 35 = .ok (.invokevirtual 111, 3) := by decide +kernel
theorem dX7_readIsle_38 : decode cX7_readIsle 38 = .ok (.aload_n 0, 1) := by decide +kernel
theorem dX7_readIsle_39 : decode cX7_readIsle 39 = .ok (.bipush 105, 2) := by decide +kernel
theorem dX7_readIsle_41 : decode cX7_readIsle 41 = .ok (.invokevirtual 114, 3) := by decide +kernel
theorem dX7_readIsle_44 : decode cX7_readIsle 44 = .ok (.ifCond .eq 41, 3) := by decide +kernel
theorem dX7_readIsle_47 : decode cX7_readIsle 47 = .ok (.aload_n 0, 1) := by decide +kernel
theorem dX7_readIsle_48 : decode cX7_readIsle 48 = .ok (.iconst 2, 1) := by decide +kernel
theorem dX7_readIsle_49 : decode cX7_readIsle 49 = .ok (.bipush 24, 2) := by decide +kernel
theorem dX7_readIsle_51 : decode cX7_readIsle 51 = .ok (.iconst 0, 1) := by decide +kernel
theorem dX7_readIsle_52 : decode cX7_readIsle 52 = .ok (.bipush 44, 2) := by decide +kernel
theorem dX7_readIsle_54 : decode cX7_readIsle 54 = .ok (.invokevirtual 117, 3) := by decide +kernel
theorem dX7_readIsle_57 : decode cX7_readIsle 57 = .ok (.ifCond .eq 28, 3) := by decide +kernel
theorem dX7_readIsle_60 : decode cX7_readIsle 60 = .ok (.aload_n 0, 1) := by decide +kernel
theorem dX7_readIsle_61 : decode cX7_readIsle 61 = .ok (.iconst 1, 1) := by decide +kernel
theorem dX7_readIsle_62 : decode cX7_readIsle 62 = .ok (.bipush 30, 2) := by decide +kernel
theorem dX7_readIsle_64 : decode cX7_readIsle 64 = .ok (.iconst 1, 1) := by decide +kernel
theorem dX7_readIsle_65 : decode cX7_readIsle 65 = .ok (.bipush 44, 2) := by decide +kernel
theorem dX7_readIsle_67 : decode cX7_readIsle 67 = .ok (.invokevirtual 117, 3) := by decide +kernel
theorem dX7_readIsle_70 : decode cX7_readIsle 70 = .ok (.ifCond .eq 15, 3) := by decide +kernel
theorem dX7_readIsle_73 : decode cX7_readIsle 73 = .ok (.aload_n 0, 1) := by decide +kernel
theorem dX7_readIsle_74 : decode cX7_readIsle 74 = .ok (.iconst 0, 1) := by decide +kernel
theorem dX7_readIsle_75 : decode cX7_readIsle 75 = .ok (.iconst 3, 1) := by decide +kernel
theorem dX7_readIsle_76 : decode cX7_readIsle 76 = .ok (.iconst 2, 1) := by decide +kernel
theorem dX7_readIsle_77 : decode cX7_readIsle 77 = .ok (.bipush 59, 2) := by decide +kernel
theorem dX7_readIsle_79 : decode cX7_readIsle 79 = .ok (.invokevirtual 117, 3) := by decide +kernel
theorem dX7_readIsle_82 : decode cX7_readIsle 82 = .ok (.ifCond .ne 5, 3) := by decide +kernel
theorem dX7_readIsle_85 : decode cX7_readIsle 85 = .ok (.iconst 0, 1) := by decide +kernel
theorem dX7_readIsle_86 : decode cX7_readIsle 86 = .ok (.ireturn, 1) := by decide +kernel
theorem dX7_readIsle_87 : decode cX7_readIsle 87 = .ok (.iconst 1, 1) := by decide +kernel
theorem dX7_readIsle_88 : decode cX7_readIsle 88 = .ok (.istore_n 1, 1) := by decide +kernel
theorem dX7_readIsle_89 : decode cX7_readIsle 89 = .ok (.iload_n 1, 1) := by decide +kernel
theorem dX7_readIsle_90 : decode cX7_readIsle 90 = .ok (.ifCond .eq 124, 3) := by decide +kernel
theorem dX7_readIsle_93 : decode cX7_readIsle 93 = .ok (.aload_n 0, 1) := by decide +kernel
theorem dX7_readIsle_94 : decode cX7_readIsle 94 = .ok (.getfield 88, 3) := by decide +kernel
theorem dX7_readIsle_97 : decode cX7_readIsle 97 = .ok (.iconst 3, 1) := by decide +kernel
theorem dX7_readIsle_98 : decode cX7_readIsle 98 = .ok (.if_icmp .ne 12, 3) := by decide +kernel
theorem dX7_readIsle_101 : decode cX7_readIsle 101 = .ok (.aload_n 0, 1) := by decide +kernel
theorem dX7_readIsle_102 : decode cX7_readIsle 102 = .ok (.getfield 28, 3) := by decide +kernel
theorem dX7_readIsle_105 : decode cX7_readIsle 105 = .ok (.iconst 4, 1) := by decide +kernel
theorem dX7_readIsle_106 : decode cX7_readIsle 106 = .ok (.iaload, 1) := by decide +kernel
theorem dX7_readIsle_107 : decode cX7_readIsle 107 = .ok (.ifCond .ne 107, 3) := by decide +kernel
theorem dX7_readIsle_110 : decode cX7_readIsle 110 = .ok (.aload_n 0, 1) := by decide +kernel
theorem dX7_readIsle_111 : decode cX7_readIsle 111 = .ok (.bipush 115, 2) := by decide +kernel
theorem dX7_readIsle_113 : decode cX7_readIsle 113 = .ok (.invokevirtual 105, 3) := by decide +kernel
theorem dX7_readIsle_116 : decode cX7_readIsle 116 = .ok (.ifCond .eq 7, 3) := by decide +kernel
theorem dX7_readIsle_119 : decode cX7_readIsle 119 = .ok (.iconst 1, 1) := by decide +kernel
theorem dX7_readIsle_120 : decode cX7_readIsle 120 = .ok (.goto 56, 3) := by decide +kernel
theorem dX7_readIsle_123 : decode cX7_readIsle 123 = .ok (.aload_n 0, 1) := by decide +kernel
theorem dX7_readIsle_124 : decode cX7_readIsle 124 = .ok (.bipush 99, 2) := by decide +kernel
theorem dX7_readIsle_126 : decode cX7_readIsle 126 = .ok (.invokevirtual 105, 3) := by decide +kernel
theorem dX7_readIsle_129 : decode cX7_readIsle 129 = .ok (.ifCond .eq 7, 3) := by decide +kernel
theorem dX7_readIsle_132 : decode cX7_readIsle 132 = .ok (.iconst 2, 1) := by decide +kernel
theorem dX7_readIsle_133 : decode cX7_readIsle 133 = .ok (.goto 43, 3) := by decide +kernel
theorem dX7_readIsle_136 : decode cX7_readIsle 136 = .ok (.aload_n 0, 1) := by decide +kernel
theorem dX7_readIsle_137 : decode cX7_readIsle 137 = .ok (.bipush 111, 2) := by decide +kernel
theorem dX7_readIsle_139 : decode cX7_readIsle 139 = .ok (.invokevirtual 105, 3) := by decide +kernel
theorem dX7_readIsle_142 : decode cX7_readIsle 142 = .ok (.ifCond .eq 7, 3) := by decide +kernel
theorem dX7_readIsle_145 : decode cX7_readIsle 145 = .ok (.iconst 3, 1) := by decide +kernel
theorem dX7_readIsle_146 : decode cX7_readIsle 146 = .ok (.goto 30, 3) := by decide +kernel
theorem dX7_readIsle_149 : decode cX7_readIsle 149 = .ok (.aload_n 0, 1) := by decide +kernel
theorem dX7_readIsle_150 : decode cX7_readIsle 150 = .ok (.bipush 102, 2) := by decide +kernel
theorem dX7_readIsle_152 : decode cX7_readIsle 152 = .ok (.invokevirtual 105, 3) := by decide +kernel
theorem dX7_readIsle_155 : decode cX7_readIsle 155 = .ok (.ifCond .eq 7, 3) := by decide +kernel
theorem dX7_readIsle_158 : decode cX7_readIsle 158 = .ok (.iconst 4, 1) := by decide +kernel
theorem dX7_readIsle_159 : decode cX7_readIsle 159 = .ok (.goto 17, 3) := by decide +kernel
theorem dX7_readIsle_162 : decode cX7_readIsle 162 = .ok (.aload_n 0, 1) := by decide +kernel
theorem dX7_readIsle_163 : decode cX7_readIsle 163 = .ok (.bipush 114, 2) := by decide +kernel
theorem dX7_readIsle_165 : decode cX7_readIsle 165 = .ok (.invokevirtual 105, 3) := by decide +kernel
theorem dX7_readIsle_168 : decode cX7_readIsle 168 = .ok (.ifCond .eq 7, 3) := by decide +kernel
theorem dX7_readIsle_171 : decode cX7_readIsle 171 = .ok (.iconst 5, 1) := by decide +kernel
theorem dX7_readIsle_172 : decode cX7_readIsle 172 = .ok (.goto 4, 3) := by decide +kernel
theorem dX7_readIsle_175 : decode cX7_readIsle 175 = .ok (.iconst 0, 1) := by decide +kernel
theorem dX7_readIsle_176 : decode cX7_readIsle 176 = .ok (.istore_n 2, 1) := by decide +kernel
theorem dX7_readIsle_177 : decode cX7_readIsle 177 = .ok (.iload_n 2, 1) := by decide +kernel
theorem dX7_readIsle_178 : decode cX7_readIsle 178 = .ok (.ifCond .le 11, 3) := by decide +kernel
theorem dX7_readIsle_181 : decode cX7_readIsle 181 = .ok (.aload_n 0, 1) := by decide +kernel
theorem dX7_readIsle_182 : decode cX7_readIsle 182 = .ok (.iload_n 2, 1) := by decide +kernel
theorem dX7_readIsle_183 : decode cX7_readIsle 183 = .ok (.invokevirtual 121, 3) := by decide +kernel
theorem dX7_readIsle_186 : decode cX7_readIsle 186 = .ok (.goto 24, 3) := by decide +kernel
theorem dX7_readIsle_189 : decode cX7_readIsle 189 = .ok (.aload_n 0, 1) := by decide +kernel
theorem dX7_readIsle_190 : decode cX7_readIsle 190 = .ok (.bipush 104, 2) := by decide +kernel
theorem dX7_readIsle_192 : decode cX7_readIsle 192 = .ok (.invokevirtual 105, 3) := by decide +kernel
theorem dX7_readIsle_195 : decode cX7_readIsle 195 = .ok (.ifCond .eq 10, 3) := by decide +kernel
theorem dX7_readIsle_198 : decode cX7_readIsle 198 = .ok (.aload_n 0, 1) := by decide +kernel
theorem dX7_readIsle_199 : decode cX7_readIsle 199 = .ok (.invokevirtual 124, 3) := by decide +kernel
theorem dX7_readIsle_202 : decode cX7_readIsle 202 = .ok (.goto 8, 3) := by decide +kernel
theorem dX7_readIsle_205 : decode cX7_readIsle 205 = .ok (.aload_n 0, 1) := by decide +kernel
theorem dX7_readIsle_206 : decode cX7_readIsle 206 = .ok (.iconst 1, 1) := by decide +kernel
theorem dX7_readIsle_207 : decode cX7_readIsle 207 = .ok (.invokevirtual 108, 3) := by decide +kernel
theorem dX7_readIsle_210 : decode cX7_readIsle 210 = .ok (.istore_n 1, 1) := by decide +kernel
theorem dX7_readIsle_211 : decode cX7_readIsle 211 = .ok (.goto (-122), 3) := by decide +kernel
theorem dX7_readIsle_214 : decode cX7_readIsle 214 = .ok (.iload_n 1, 1) := by decide +kernel
theorem dX7_readIsle_215 : decode cX7_readIsle 215 = .ok (.ireturn, 1) := by decide +kernel
theorem dX7_isle_0 : decode cX7_isle 0 = .ok (.aload_n 0, 1) := by decide +kernel
theorem dX7_isle_1 : decode cX7_isle 1 = .ok (.invokevirtual 128, 3) := by decide +kernel
theorem dX7_isle_4 : decode cX7_isle 4 = .ok (.istore_n 1, 1) := by decide +kernel
theorem dX7_isle_5 : decode cX7_isle 5 = .ok (.aload_n 0, 1) := by decide +kernel
theorem dX7_isle_6 : decode cX7_isle 6 = .ok (.iconst 0, 1) := by decide +kernel
theorem dX7_isle_7 : decode cX7_isle 7 = .ok (.putfield 78, 3) := by decide +kernel
theorem dX7_isle_10 : decode cX7_isle 10 = .ok (.iload_n 1, 1) := by decide +kernel
theorem dX7_isle_11 : decode cX7_isle 11 = .ok (.ifCond .ne 19, 3) := by decide +kernel
theorem dX7_isle_14 : decode cX7_isle 14 = .ok (.aload_n 0, 1) := by decide +kernel
theorem dX7_isle_15 : decode cX7_isle 15 = .ok (.aload_n 0, 1) := by decide +kernel
theorem dX7_isle_16 : decode cX7_isle 16 = .ok (.getfield 102, 3) := by decide +kernel
theorem dX7_isle_19 : decode cX7_isle 19 = .ok (.putfield 131, 3) := by decide +kernel
theorem dX7_isle_22 : decode cX7_isle 22 = .ok (.ldc 134, 2) := by decide +kernel
theorem dX7_isle_24 : decode cX7_isle 24 = .ok (.aload_n 0, 1) := by decide +kernel
theorem dX7_isle_25 : decode cX7_isle 25 = .ok (.getfield 85, 3) := by decide +kernel
theorem dX7_isle_28 : decode cX7_isle 28 = .ok (.isub, 1) := by decide +kernel
theorem dX7_isle_29 : decode cX7_isle 29 = .ok (.ireturn, 1) := by decide +kernel
theorem dX7_isle_30 : decode cX7_isle 30 = .ok (.iconst 0, 1) := by decide +kernel
theorem dX7_isle_31 : decode cX7_isle 31 = .ok (.istore_n 2, 1) := by decide +kernel
theorem dX7_isle_32 : decode cX7_isle 32 = .ok (.iload_n 2, 1) := by decide +kernel
theorem dX7_isle_33 : decode cX7_isle 33 = .ok (.bipush 44, 2) := by decide +kernel
theorem dX7_isle_35 : decode cX7_isle 35 = .ok (.if_icmp .ge 21, 3) := by decide +kernel
theorem dX7_isle_38 : decode cX7_isle 38 = .ok (.aload_n 0, 1) := by decide +kernel
theorem dX7_isle_39 : decode cX7_isle 39 = .ok (.getfield 19, 3) := by decide +kernel
theorem dX7_isle_42 : decode cX7_isle 42 = .ok (.iload_n 2, 1) := by decide +kernel
theorem dX7_isle_43 : decode cX7_isle 43 = .ok (.aload_n 0, 1) := by decide +kernel
theorem dX7_isle_44 : decode cX7_isle 44 = .ok (.getfield 28, 3) := by decide +kernel
theorem dX7_isle_47 : decode cX7_isle 47 = .ok (.iload_n 2, 1) := by decide +kernel
theorem dX7_isle_48 : decode cX7_isle 48 = .ok (.iaload, 1) := by decide +kernel
theorem dX7_isle_49 : decode cX7_isle 49 = .ok (.iastore, 1) := by decide +kernel
theorem dX7_isle_50 : decode cX7_isle 50 = .ok (.iinc 2 1, 3) := by decide +kernel
theorem dX7_isle_53 : decode cX7_isle 53 = .ok (.goto (-21), 3) := by decide +kernel
theorem dX7_isle_56 : decode cX7_isle 56 = .ok (.aload_n 0, 1) := by decide +kernel
theorem dX7_isle_57 : decode cX7_isle 57 = .ok (.iconst 1, 1) := by decide +kernel
theorem dX7_isle_58 : decode cX7_isle 58 = .ok (.putfield 135, 3) := by decide +kernel
theorem dX7_isle_61 : decode cX7_isle 61 = .ok (.aload_n 0, 1) := by decide +kernel
theorem dX7_isle_62 : decode cX7_isle 62 = .ok (.iconst 0, 1) := by decide +kernel
theorem dX7_isle_63 : decode cX7_isle 63 = .ok (.putfield 139, 3) := by decide +kernel
theorem dX7_isle_66 : decode cX7_isle 66 = .ok (.aload_n 0, 1) := by decide +kernel
theorem dX7_isle_67 : decode cX7_isle 67 = .ok (.getfield 19, 3) := by decide +kernel
theorem dX7_isle_70 : decode cX7_isle 70 = .ok (.iconst 4, 1) := by decide +kernel
theorem dX7_isle_71 : decode cX7_isle 71 = .ok (.iaload, 1) := by decide +kernel
theorem dX7_isle_72 : decode cX7_isle 72 = .ok (.ireturn, 1) := by decide +kernel
theorem dX7_fault_0 : decode cX7_fault 0 = .ok (.aload_n 0, 1) := by decide +kernel
theorem dX7_fault_1 : decode cX7_fault 1 = .ok (.getfield 131, 3) := by decide +kernel
theorem dX7_fault_4 : decode cX7_fault 4 = .ok (.ireturn, 1) := by decide +kernel
theorem dX7_isBoat_0 : decode cX7_isBoat 0 = .ok (.iload_n 1, 1) := by decide +kernel
theorem dX7_isBoat_1 : decode cX7_isBoat 1 = .ok (.i2l, 1) := by decide +kernel
theorem dX7_isBoat_2 : decode cX7_isBoat 2 = .ok (.lconst 0, 1) := by decide +kernel
theorem dX7_isBoat_3 : decode cX7_isBoat 3 = .ok (.aload_n 0, 1) := by decide +kernel
theorem dX7_isBoat_4 : decode cX7_isBoat 4 = .ok (.getfield 19, 3) := by decide +kernel
theorem dX7_isBoat_7 : decode cX7_isBoat 7 = .ok (.iconst 4, 1) := by decide +kernel
theorem dX7_isBoat_8 : decode cX7_isBoat 8 = .ok (.iaload, 1) := by decide +kernel
theorem dX7_isBoat_9 : decode cX7_isBoat 9 = .ok (.iconst 1, 1) := by decide +kernel
theorem dX7_isBoat_10 : decode cX7_isBoat 10 = .ok (.isub, 1) := by decide +kernel
theorem dX7_isBoat_11 : decode cX7_isBoat 11 = .ok (.i2l, 1) := by decide +kernel
theorem dX7_isBoat_12 : decode cX7_isBoat 12 = .ok (.invokestatic 54, 3) := by decide +kernel
theorem dX7_isBoat_15 : decode cX7_isBoat 15 = .ok (.ireturn, 1) := by decide +kernel
theorem dX7_isCell_0 : decode cX7_isCell 0 = .ok (.iload_n 1, 1) := by decide +kernel
theorem dX7_isCell_1 : decode cX7_isCell 1 = .ok (.i2l, 1) := by decide +kernel
theorem dX7_isCell_2 : decode cX7_isCell 2 = .ok (.lconst 0, 1) := by decide +kernel
theorem dX7_isCell_3 : decode cX7_isCell 3 = .ok (.aload_n 0, 1) := by decide +kernel
theorem dX7_isCell_4 : decode cX7_isCell 4 = .ok (.getfield 19, 3) := by decide +kernel
theorem dX7_isCell_7 : decode cX7_isCell 7 = .ok (.iconst 3, 1) := by decide +kernel
theorem dX7_isCell_8 : decode cX7_isCell 8 = .ok (.iaload, 1) := by decide +kernel
theorem dX7_isCell_9 : decode cX7_isCell 9 = .ok (.iconst 1, 1) := by decide +kernel
theorem dX7_isCell_10 : decode cX7_isCell 10 = .ok (.isub, 1) := by decide +kernel
theorem dX7_isCell_11 : decode cX7_isCell 11 = .ok (.i2l, 1) := by decide +kernel
theorem dX7_isCell_12 : decode cX7_isCell 12 = .ok (.invokestatic 54, 3) := by decide +kernel
theorem dX7_isCell_15 : decode cX7_isCell 15 = .ok (.ireturn, 1) := by decide +kernel
theorem dX7_waterIn_0 : decode cX7_waterIn 0 = .ok (.iconst 2, 1) := by decide +kernel
theorem dX7_waterIn_1 : decode cX7_waterIn 1 = .ok (.iload_n 1, 1) := by decide +kernel
theorem dX7_waterIn_2 : decode cX7_waterIn 2 = .ok (.aload_n 0, 1) := by decide +kernel
theorem dX7_waterIn_3 : decode cX7_waterIn 3 = .ok (.getfield 19, 3) := by decide +kernel
theorem dX7_waterIn_6 : decode cX7_waterIn 6 = .ok (.iconst 0, 1) := by decide +kernel
theorem dX7_waterIn_7 : decode cX7_waterIn 7 = .ok (.iaload, 1) := by decide +kernel
theorem dX7_waterIn_8 : decode cX7_waterIn 8 = .ok (.irem, 1) := by decide +kernel
theorem dX7_waterIn_9 : decode cX7_waterIn 9 = .ok (.imul, 1) := by decide +kernel
theorem dX7_waterIn_10 : decode cX7_waterIn 10 = .ok (.aload_n 0, 1) := by decide +kernel
theorem dX7_waterIn_11 : decode cX7_waterIn 11 = .ok (.getfield 19, 3) := by decide +kernel
theorem dX7_waterIn_14 : decode cX7_waterIn 14 = .ok (.iconst 0, 1) := by decide +kernel
theorem dX7_waterIn_15 : decode cX7_waterIn 15 = .ok (.iaload, 1) := by decide +kernel
theorem dX7_waterIn_16 : decode cX7_waterIn 16 = .ok (.isub, 1) := by decide +kernel
theorem dX7_waterIn_17 : decode cX7_waterIn 17 = .ok (.istore_n 2, 1) := by decide +kernel
theorem dX7_waterIn_18 : decode cX7_waterIn 18 = .ok (.aload_n 0, 1) := by decide +kernel
theorem dX7_waterIn_19 : decode cX7_waterIn 19 = .ok (.getfield 19, 3) := by decide +kernel
theorem dX7_waterIn_22 : decode cX7_waterIn 22 = .ok (.iconst 1, 1) := by decide +kernel
theorem dX7_waterIn_23 : decode cX7_waterIn 23 = .ok (.iaload, 1) := by decide +kernel
theorem dX7_waterIn_24 : decode cX7_waterIn 24 = .ok (.iload_n 2, 1) := by decide +kernel
theorem dX7_waterIn_25 : decode cX7_waterIn 25 = .ok (.ifCond .ge 8, 3) := by decide +kernel
theorem dX7_waterIn_28 : decode cX7_waterIn 28 = .ok (.iload_n 2, 1) := by decide +kernel
theorem dX7_waterIn_29 : decode cX7_waterIn 29 = .ok (.ineg, 1) := by decide +kernel
theorem dX7_waterIn_30 : decode cX7_waterIn 30 = .ok (.goto 4, 3) := by decide +kernel
theorem dX7_waterIn_33 : decode cX7_waterIn 33 = .ok (.iload_n 2, 1) := by decide +kernel
theorem dX7_waterIn_34 : decode cX7_waterIn 34 = .ok (.imul, 1) := by decide +kernel
theorem dX7_waterIn_35 : decode cX7_waterIn 35 = .ok (.aload_n 0, 1) := by decide +kernel
theorem dX7_waterIn_36 : decode cX7_waterIn 36 = .ok (.getfield 19, 3) := by decide +kernel
theorem dX7_waterIn_39 : decode cX7_waterIn 39 = .ok (.iconst 0, 1) := by decide +kernel
theorem dX7_waterIn_40 : decode cX7_waterIn 40 = .ok (.iaload, 1) := by decide +kernel
theorem dX7_waterIn_41 : decode cX7_waterIn 41 = .ok (.idiv, 1) := by decide +kernel
theorem dX7_waterIn_42 : decode cX7_waterIn 42 = .ok (.ireturn, 1) := by decide +kernel
theorem dX7_dryIn_0 : decode cX7_dryIn 0 = .ok (.iconst 0, 1) := by decide +kernel
theorem dX7_dryIn_1 : decode cX7_dryIn 1 = .ok (.istore_n 2, 1) := by decide +kernel
theorem dX7_dryIn_2 : decode cX7_dryIn 2 = .ok (.iconst 0, 1) := by decide +kernel
theorem dX7_dryIn_3 : decode cX7_dryIn 3 = .ok (.istore_n 3, 1) := by decide +kernel
theorem dX7_dryIn_4 : decode cX7_dryIn 4 = .ok (.iload_n 3, 1) := by decide +kernel
theorem dX7_dryIn_5 : decode cX7_dryIn 5 = .ok (.aload_n 0, 1) := by decide +kernel
theorem dX7_dryIn_6 : decode cX7_dryIn 6 = .ok (.getfield 19, 3) := by decide +kernel
theorem dX7_dryIn_9 : decode cX7_dryIn 9 = .ok (.iconst 3, 1) := by decide +kernel
theorem dX7_dryIn_10 : decode cX7_dryIn 10 = .ok (.iaload, 1) := by decide +kernel
theorem dX7_dryIn_11 : decode cX7_dryIn 11 = .ok (.if_icmp .ge 36, 3) := by decide +kernel
theorem dX7_dryIn_14 : decode cX7_dryIn 14 = .ok (.iload_n 2, 1) := by decide +kernel
theorem dX7_dryIn_15 : decode cX7_dryIn 15 = .ok (.aload_n 0, 1) := by decide +kernel
theorem dX7_dryIn_16 : decode cX7_dryIn 16 = .ok (.getfield 19, 3) := by decide +kernel
theorem dX7_dryIn_19 : decode cX7_dryIn 19 = .ok (.bipush 8, 2) := by decide +kernel
theorem dX7_dryIn_21 : decode cX7_dryIn 21 = .ok (.iload_n 3, 1) := by decide +kernel
theorem dX7_dryIn_22 : decode cX7_dryIn 22 = .ok (.iadd, 1) := by decide +kernel
theorem dX7_dryIn_23 : decode cX7_dryIn 23 = .ok (.iaload, 1) := by decide +kernel
theorem dX7_dryIn_24 : decode cX7_dryIn 24 = .ok (.aload_n 0, 1) := by decide +kernel
theorem dX7_dryIn_25 : decode cX7_dryIn 25 = .ok (.iload_n 1, 1) := by decide +kernel
theorem dX7_dryIn_26 : decode cX7_dryIn 26 = .ok (.invokevirtual 142, 3) := by decide +kernel
theorem dX7_dryIn_29 : decode cX7_dryIn 29 = .ok (.if_icmp .le 9, 3) := by decide +kernel
theorem dX7_dryIn_32 : decode cX7_dryIn 32 = .ok (.iconst 1, 1) := by decide +kernel
theorem dX7_dryIn_33 : decode cX7_dryIn 33 = .ok (.iload_n 3, 1) := by decide +kernel
theorem dX7_dryIn_34 : decode cX7_dryIn 34 = .ok (.ishl, 1) := by decide +kernel
theorem dX7_dryIn_35 : decode cX7_dryIn 35 = .ok (.goto 4, 3) := by decide +kernel
theorem dX7_dryIn_38 : decode cX7_dryIn 38 = .ok (.iconst 0, 1) := by decide +kernel
theorem dX7_dryIn_39 : decode cX7_dryIn 39 = .ok (.ior, 1) := by decide +kernel
theorem dX7_dryIn_40 : decode cX7_dryIn 40 = .ok (.istore_n 2, 1) := by decide +kernel
theorem dX7_dryIn_41 : decode cX7_dryIn 41 = .ok (.iinc 3 1, 3) := by decide +kernel
theorem dX7_dryIn_44 : decode cX7_dryIn 44 = .ok (.goto (-40), 3) := by decide +kernel
theorem dX7_dryIn_47 : decode cX7_dryIn 47 = .ok (.iload_n 2, 1) := by decide +kernel
theorem dX7_dryIn_48 : decode cX7_dryIn 48 = .ok (.ireturn, 1) := by decide +kernel
theorem dX7_wayOf_0 : decode cX7_wayOf 0 = .ok (.aload_n 0, 1) := by decide +kernel
theorem dX7_wayOf_1 : decode cX7_wayOf 1 = .ok (.getfield 19, 3) := by decide +kernel
theorem dX7_wayOf_4 : decode cX7_wayOf 4 = .ok (.bipush 26, 2) := by decide +kernel
theorem dX7_wayOf_6 : decode cX7_wayOf 6 = .ok (.iload_n 1, 1) := by decide +kernel
theorem dX7_wayOf_7 : decode cX7_wayOf 7 = .ok (.iadd, 1) := by decide +kernel
theorem dX7_wayOf_8 : decode cX7_wayOf 8 = .ok (.iaload, 1) := by decide +kernel
theorem dX7_wayOf_9 : decode cX7_wayOf 9 = .ok (.istore_n 2, 1) := by decide +kernel
theorem dX7_wayOf_10 : decode cX7_wayOf 10 = .ok (.aload_n 0, 1) := by decide +kernel
theorem dX7_wayOf_11 : decode cX7_wayOf 11 = .ok (.getfield 19, 3) := by decide +kernel
theorem dX7_wayOf_14 : decode cX7_wayOf 14 = .ok (.iconst 2, 1) := by decide +kernel
theorem dX7_wayOf_15 : decode cX7_wayOf 15 = .ok (.iaload, 1) := by decide +kernel
theorem dX7_wayOf_16 : decode cX7_wayOf 16 = .ok (.istore_n 3, 1) := by decide +kernel
theorem dX7_wayOf_17 : decode cX7_wayOf 17 = .ok (.aload_n 0, 1) := by decide +kernel
theorem dX7_wayOf_18 : decode cX7_wayOf 18 = .ok (.aload_n 0, 1) := by decide +kernel
theorem dX7_wayOf_19 : decode cX7_wayOf 19 = .ok (.getfield 19, 3) := by decide +kernel
theorem dX7_wayOf_22 : decode cX7_wayOf 22 = .ok (.iconst 5, 1) := by decide +kernel
theorem dX7_wayOf_23 : decode cX7_wayOf 23 = .ok (.iaload, 1) := by decide +kernel
theorem dX7_wayOf_24 : decode cX7_wayOf 24 = .ok (.invokevirtual 145, 3) := by decide +kernel
theorem dX7_wayOf_27 : decode cX7_wayOf 27 = .ok (.ifCond .eq 7, 3) := by decide +kernel
theorem dX7_wayOf_30 : decode cX7_wayOf 30 = .ok (.iload_n 2, 1) := by decide +kernel
theorem dX7_wayOf_31 : decode cX7_wayOf 31 = .ok (.goto 4, 3) := by decide +kernel
theorem dX7_wayOf_34 : decode cX7_wayOf 34 = .ok (.iconst 0, 1) := by decide +kernel
theorem dX7_wayOf_35 : decode cX7_wayOf 35 = .ok (.istore 4, 2) := by decide +kernel
theorem dX7_wayOf_37 : decode cX7_wayOf 37 = .ok (.aload_n 0, 1) := by decide +kernel
theorem dX7_wayOf_38 : decode cX7_wayOf 38 = .ok (.getfield 19, 3) := by decide +kernel
theorem dX7_wayOf_41 : decode cX7_wayOf 41 = .ok (.bipush 14, 2) := by decide +kernel
theorem dX7_wayOf_43 : decode cX7_wayOf 43 = .ok (.iload_n 1, 1) := by decide +kernel
theorem dX7_wayOf_44 : decode cX7_wayOf 44 = .ok (.iadd, 1) := by decide +kernel
theorem dX7_wayOf_45 : decode cX7_wayOf 45 = .ok (.iaload, 1) := by decide +kernel
theorem dX7_wayOf_46 : decode cX7_wayOf 46 = .ok (.tableswitch 78 2 5 #[30, 46, 60, 63], 30) := by decide +kernel
theorem dX7_wayOf_76 : decode cX7_wayOf 76 = .ok (.iload_n 2, 1) := by decide +kernel
theorem dX7_wayOf_77 : decode cX7_wayOf 77 = .ok (.iload_n 3, 1) := by decide +kernel
theorem dX7_wayOf_78 : decode cX7_wayOf 78 = .ok (.imul, 1) := by decide +kernel
theorem dX7_wayOf_79 : decode cX7_wayOf 79 = .ok (.iconst 2, 1) := by decide +kernel
theorem dX7_wayOf_80 : decode cX7_wayOf 80 = .ok (.idiv, 1) := by decide +kernel
theorem dX7_wayOf_81 : decode cX7_wayOf 81 = .ok (.iload_n 3, 1) := by decide +kernel
theorem dX7_wayOf_82 : decode cX7_wayOf 82 = .ok (.ifCond .eq 7, 3) := by decide +kernel
theorem dX7_wayOf_85 : decode cX7_wayOf 85 = .ok (.iconst 1, 1) := by decide +kernel
theorem dX7_wayOf_86 : decode cX7_wayOf 86 = .ok (.goto 4, 3) := by decide +kernel
theorem dX7_wayOf_89 : decode cX7_wayOf 89 = .ok (.iconst 0, 1) := by decide +kernel
theorem dX7_wayOf_90 : decode cX7_wayOf 90 = .ok (.iadd, 1) := by decide +kernel
theorem dX7_wayOf_91 : decode cX7_wayOf 91 = .ok (.ireturn, 1) := by decide +kernel
theorem dX7_wayOf_92 : decode cX7_wayOf 92 = .ok (.iconst 2, 1) := by decide +kernel
theorem dX7_wayOf_93 : decode cX7_wayOf 93 = .ok (.iload_n 3, 1) := by decide +kernel
theorem dX7_wayOf_94 : decode cX7_wayOf 94 = .ok (.ifCond .ne 9, 3) := by decide +kernel
theorem dX7_wayOf_97 : decode cX7_wayOf 97 = .ok (.iload_n 2, 1) := by decide +kernel
theorem dX7_wayOf_98 : decode cX7_wayOf 98 = .ok (.iconst 2, 1) := by decide +kernel
theorem dX7_wayOf_99 : decode cX7_wayOf 99 = .ok (.idiv, 1) := by decide +kernel
theorem dX7_wayOf_100 : decode cX7_wayOf 100 = .ok (.goto 4, 3) := by decide +kernel
theorem dX7_wayOf_103 : decode cX7_wayOf 103 = .ok (.iconst 0, 1) := by decide +kernel
theorem dX7_wayOf_104 : decode cX7_wayOf 104 = .ok (.iadd, 1) := by decide +kernel
theorem dX7_wayOf_105 : decode cX7_wayOf 105 = .ok (.ireturn, 1) := by decide +kernel
theorem dX7_wayOf_106 : decode cX7_wayOf 106 = .ok (.iload 4, 2) := by decide +kernel
theorem dX7_wayOf_108 : decode cX7_wayOf 108 = .ok (.ireturn, 1) := by decide +kernel
theorem dX7_wayOf_109 : decode cX7_wayOf 109 = .ok (.iload 4, 2) := by decide +kernel
theorem dX7_wayOf_111 : decode cX7_wayOf 111 = .ok (.iload_n 3, 1) := by decide +kernel
theorem dX7_wayOf_112 : decode cX7_wayOf 112 = .ok (.if_icmp .le 10, 3) := by decide +kernel
theorem dX7_wayOf_115 : decode cX7_wayOf 115 = .ok (.iload 4, 2) := by decide +kernel
theorem dX7_wayOf_117 : decode cX7_wayOf 117 = .ok (.iload_n 3, 1) := by decide +kernel
theorem dX7_wayOf_118 : decode cX7_wayOf 118 = .ok (.isub, 1) := by decide +kernel
theorem dX7_wayOf_119 : decode cX7_wayOf 119 = .ok (.goto 4, 3) := by decide +kernel
theorem dX7_wayOf_122 : decode cX7_wayOf 122 = .ok (.iconst 0, 1) := by decide +kernel
theorem dX7_wayOf_123 : decode cX7_wayOf 123 = .ok (.ireturn, 1) := by decide +kernel
theorem dX7_wayOf_124 : decode cX7_wayOf 124 = .ok (.iload_n 2, 1) := by decide +kernel
theorem dX7_wayOf_125 : decode cX7_wayOf 125 = .ok (.iload_n 3, 1) := by decide +kernel
theorem dX7_wayOf_126 : decode cX7_wayOf 126 = .ok (.imul, 1) := by decide +kernel
theorem dX7_wayOf_127 : decode cX7_wayOf 127 = .ok (.iconst 2, 1) := by decide +kernel
theorem dX7_wayOf_128 : decode cX7_wayOf 128 = .ok (.idiv, 1) := by decide +kernel
theorem dX7_wayOf_129 : decode cX7_wayOf 129 = .ok (.ireturn, 1) := by decide +kernel
theorem dX7_thereSet_0 : decode cX7_thereSet 0 = .ok (.iconst 0, 1) := by decide +kernel
theorem dX7_thereSet_1 : decode cX7_thereSet 1 = .ok (.istore_n 1, 1) := by decide +kernel
theorem dX7_thereSet_2 : decode cX7_thereSet 2 = .ok (.iconst 0, 1) := by decide +kernel
theorem dX7_thereSet_3 : decode cX7_thereSet 3 = .ok (.istore_n 2, 1) := by decide +kernel
theorem dX7_thereSet_4 : decode cX7_thereSet 4 = .ok (.iload_n 2, 1) := by decide +kernel
theorem dX7_thereSet_5 : decode cX7_thereSet 5 = .ok (.aload_n 0, 1) := by decide +kernel
theorem dX7_thereSet_6 : decode cX7_thereSet 6 = .ok (.getfield 19, 3) := by decide +kernel
theorem dX7_thereSet_9 : decode cX7_thereSet 9 = .ok (.iconst 4, 1) := by decide +kernel
theorem dX7_thereSet_10 : decode cX7_thereSet 10 = .ok (.iaload, 1) := by decide +kernel
theorem dX7_thereSet_11 : decode cX7_thereSet 11 = .ok (.if_icmp .ge 31, 3) := by decide +kernel
theorem dX7_thereSet_14 : decode cX7_thereSet 14 = .ok (.iload_n 1, 1) := by decide +kernel
theorem dX7_thereSet_15 : decode cX7_thereSet 15 = .ok (.aload_n 0, 1) := by decide +kernel
theorem dX7_thereSet_16 : decode cX7_thereSet 16 = .ok (.getfield 19, 3) := by decide +kernel
theorem dX7_thereSet_19 : decode cX7_thereSet 19 = .ok (.bipush 32, 2) := by decide +kernel
theorem dX7_thereSet_21 : decode cX7_thereSet 21 = .ok (.iload_n 2, 1) := by decide +kernel
theorem dX7_thereSet_22 : decode cX7_thereSet 22 = .ok (.iadd, 1) := by decide +kernel
theorem dX7_thereSet_23 : decode cX7_thereSet 23 = .ok (.iaload, 1) := by decide +kernel
theorem dX7_thereSet_24 : decode cX7_thereSet 24 = .ok (.ifCond .ne 9, 3) := by decide +kernel
theorem dX7_thereSet_27 : decode cX7_thereSet 27 = .ok (.iconst 1, 1) := by decide +kernel
theorem dX7_thereSet_28 : decode cX7_thereSet 28 = .ok (.iload_n 2, 1) := by decide +kernel
theorem dX7_thereSet_29 : decode cX7_thereSet 29 = .ok (.ishl, 1) := by decide +kernel
theorem dX7_thereSet_30 : decode cX7_thereSet 30 = .ok (.goto 4, 3) := by decide +kernel
theorem dX7_thereSet_33 : decode cX7_thereSet 33 = .ok (.iconst 0, 1) := by decide +kernel
theorem dX7_thereSet_34 : decode cX7_thereSet 34 = .ok (.ior, 1) := by decide +kernel
theorem dX7_thereSet_35 : decode cX7_thereSet 35 = .ok (.istore_n 1, 1) := by decide +kernel
theorem dX7_thereSet_36 : decode cX7_thereSet 36 = .ok (.iinc 2 1, 3) := by decide +kernel
theorem dX7_thereSet_39 : decode cX7_thereSet 39 = .ok (.goto (-35), 3) := by decide +kernel
theorem dX7_thereSet_42 : decode cX7_thereSet 42 = .ok (.iload_n 1, 1) := by decide +kernel
theorem dX7_thereSet_43 : decode cX7_thereSet 43 = .ok (.ireturn, 1) := by decide +kernel
theorem dX7_leastOf_0 : decode cX7_leastOf 0 = .ok (.iconst 0, 1) := by decide +kernel
theorem dX7_leastOf_1 : decode cX7_leastOf 1 = .ok (.istore_n 1, 1) := by decide +kernel
theorem dX7_leastOf_2 : decode cX7_leastOf 2 = .ok (.iload_n 0, 1) := by decide +kernel
theorem dX7_leastOf_3 : decode cX7_leastOf 3 = .ok (.iload_n 1, 1) := by decide +kernel
theorem dX7_leastOf_4 : decode cX7_leastOf 4 = .ok (.invokestatic 148, 3) := by decide +kernel
theorem dX7_leastOf_7 : decode cX7_leastOf 7 = .ok (.ifCond .ne 9, 3) := by decide +kernel
theorem dX7_leastOf_10 : decode cX7_leastOf 10 = .ok (.iinc 1 1, 3) := by decide +kernel
theorem dX7_leastOf_13 : decode cX7_leastOf 13 = .ok (.goto (-11), 3) := by decide +kernel
theorem dX7_leastOf_16 : decode cX7_leastOf 16 = .ok (.iload_n 1, 1) := by decide +kernel
theorem dX7_leastOf_17 : decode cX7_leastOf 17 = .ok (.ireturn, 1) := by decide +kernel
theorem dX7_oneHour_0 : decode cX7_oneHour 0 = .ok (.iconst 0, 1) := by decide +kernel
theorem dX7_oneHour_1 : decode cX7_oneHour 1 = .ok (.istore_n 1, 1) := by decide +kernel
theorem dX7_oneHour_2 : decode cX7_oneHour 2 = .ok (.iload_n 1, 1) := by decide +kernel
theorem dX7_oneHour_3 : decode cX7_oneHour 3 = .ok (.aload_n 0, 1) := by decide +kernel
theorem dX7_oneHour_4 : decode cX7_oneHour 4 = .ok (.getfield 19, 3) := by decide +kernel
theorem dX7_oneHour_7 : decode cX7_oneHour 7 = .ok (.iconst 4, 1) := by decide +kernel
theorem dX7_oneHour_8 : decode cX7_oneHour 8 = .ok (.iaload, 1) := by decide +kernel
theorem dX7_oneHour_9 : decode cX7_oneHour 9 = .ok (.if_icmp .ge 96, 3) := by decide +kernel
theorem dX7_oneHour_12 : decode cX7_oneHour 12 = .ok (.aload_n 0, 1) := by decide +kernel
theorem dX7_oneHour_13 : decode cX7_oneHour 13 = .ok (.getfield 19, 3) := by decide +kernel
theorem dX7_oneHour_16 : decode cX7_oneHour 16 = .ok (.bipush 6, 2) := by decide +kernel
theorem dX7_oneHour_18 : decode cX7_oneHour 18 = .ok (.iaload, 1) := by decide +kernel
theorem dX7_oneHour_19 : decode cX7_oneHour 19 = .ok (.iload_n 1, 1) := by decide +kernel
theorem dX7_oneHour_20 : decode cX7_oneHour 20 = .ok (.invokestatic 148, 3) := by decide +kernel
theorem dX7_oneHour_23 : decode cX7_oneHour 23 = .ok (.ifCond .eq 21, 3) := by decide +kernel
theorem dX7_oneHour_26 : decode cX7_oneHour 26 = .ok (.aload_n 0, 1) := by decide +kernel
theorem dX7_oneHour_27 : decode cX7_oneHour 27 = .ok (.getfield 19, 3) := by decide +kernel
theorem dX7_oneHour_30 : decode cX7_oneHour 30 = .ok (.bipush 32, 2) := by decide +kernel
theorem dX7_oneHour_32 : decode cX7_oneHour 32 = .ok (.iload_n 1, 1) := by decide +kernel
theorem dX7_oneHour_33 : decode cX7_oneHour 33 = .ok (.iadd, 1) := by decide +kernel
theorem dX7_oneHour_34 : decode cX7_oneHour 34 = .ok (.iaload, 1) := by decide +kernel
theorem dX7_oneHour_35 : decode cX7_oneHour 35 = .ok (.aload_n 0, 1) := by decide +kernel
theorem dX7_oneHour_36 : decode cX7_oneHour 36 = .ok (.iload_n 1, 1) := by decide +kernel
theorem dX7_oneHour_37 : decode cX7_oneHour 37 = .ok (.invokevirtual 152, 3) := by decide +kernel
theorem dX7_oneHour_40 : decode cX7_oneHour 40 = .ok (.isub, 1) := by decide +kernel
theorem dX7_oneHour_41 : decode cX7_oneHour 41 = .ok (.goto 14, 3) := by decide +kernel
theorem dX7_oneHour_44 : decode cX7_oneHour 44 = .ok (.aload_n 0, 1) := by decide +kernel
theorem dX7_oneHour_45 : decode cX7_oneHour 45 = .ok (.getfield 19, 3) := by decide +kernel
theorem dX7_oneHour_48 : decode cX7_oneHour 48 = .ok (.bipush 32, 2) := by decide +kernel
theorem dX7_oneHour_50 : decode cX7_oneHour 50 = .ok (.iload_n 1, 1) := by decide +kernel
theorem dX7_oneHour_51 : decode cX7_oneHour 51 = .ok (.iadd, 1) := by decide +kernel
theorem dX7_oneHour_52 : decode cX7_oneHour 52 = .ok (.iaload, 1) := by decide +kernel
theorem dX7_oneHour_53 : decode cX7_oneHour 53 = .ok (.iconst 1, 1) := by decide +kernel
theorem dX7_oneHour_54 : decode cX7_oneHour 54 = .ok (.iadd, 1) := by decide +kernel
theorem dX7_oneHour_55 : decode cX7_oneHour 55 = .ok (.istore_n 2, 1) := by decide +kernel
theorem dX7_oneHour_56 : decode cX7_oneHour 56 = .ok (.aload_n 0, 1) := by decide +kernel
theorem dX7_oneHour_57 : decode cX7_oneHour 57 = .ok (.getfield 19, 3) := by decide +kernel
theorem dX7_oneHour_60 : decode cX7_oneHour 60 = .ok (.bipush 32, 2) := by decide +kernel
theorem dX7_oneHour_62 : decode cX7_oneHour 62 = .ok (.iload_n 1, 1) := by decide +kernel
theorem dX7_oneHour_63 : decode cX7_oneHour 63 = .ok (.iadd, 1) := by decide +kernel
theorem dX7_oneHour_64 : decode cX7_oneHour 64 = .ok (.iload_n 2, 1) := by decide +kernel
theorem dX7_oneHour_65 : decode cX7_oneHour 65 = .ok (.ifCond .ge 7, 3) := by decide +kernel
theorem dX7_oneHour_68 : decode cX7_oneHour 68 = .ok (.iconst 0, 1) := by decide +kernel
theorem dX7_oneHour_69 : decode cX7_oneHour 69 = .ok (.goto 29, 3) := by decide +kernel
theorem dX7_oneHour_72 : decode cX7_oneHour 72 = .ok (.iload_n 2, 1) := by decide +kernel
theorem dX7_oneHour_73 : decode cX7_oneHour 73 = .ok (.aload_n 0, 1) := by decide +kernel
theorem dX7_oneHour_74 : decode cX7_oneHour 74 = .ok (.getfield 19, 3) := by decide +kernel
theorem dX7_oneHour_77 : decode cX7_oneHour 77 = .ok (.bipush 20, 2) := by decide +kernel
theorem dX7_oneHour_79 : decode cX7_oneHour 79 = .ok (.iload_n 1, 1) := by decide +kernel
theorem dX7_oneHour_80 : decode cX7_oneHour 80 = .ok (.iadd, 1) := by decide +kernel
theorem dX7_oneHour_81 : decode cX7_oneHour 81 = .ok (.iaload, 1) := by decide +kernel
theorem dX7_oneHour_82 : decode cX7_oneHour 82 = .ok (.if_icmp .le 15, 3) := by decide +kernel
theorem dX7_oneHour_85 : decode cX7_oneHour 85 = .ok (.aload_n 0, 1) := by decide +kernel
theorem dX7_oneHour_86 : decode cX7_oneHour 86 = .ok (.getfield 19, 3) := by decide +kernel
theorem dX7_oneHour_89 : decode cX7_oneHour 89 = .ok (.bipush 20, 2) := by decide +kernel
theorem dX7_oneHour_91 : decode cX7_oneHour 91 = .ok (.iload_n 1, 1) := by decide +kernel
theorem dX7_oneHour_92 : decode cX7_oneHour 92 = .ok (.iadd, 1) := by decide +kernel
theorem dX7_oneHour_93 : decode cX7_oneHour 93 = .ok (.iaload, 1) := by decide +kernel
theorem dX7_oneHour_94 : decode cX7_oneHour 94 = .ok (.goto 4, 3) := by decide +kernel
theorem dX7_oneHour_97 : decode cX7_oneHour 97 = .ok (.iload_n 2, 1) := by decide +kernel
theorem dX7_oneHour_98 : decode cX7_oneHour 98 = .ok (.iastore, 1) := by decide +kernel
theorem dX7_oneHour_99 : decode cX7_oneHour 99 = .ok (.iinc 1 1, 3) := by decide +kernel
theorem dX7_oneHour_102 : decode cX7_oneHour 102 = .ok (.goto (-100), 3) := by decide +kernel
theorem dX7_oneHour_105 : decode cX7_oneHour 105 = .ok (.aload_n 0, 1) := by decide +kernel
theorem dX7_oneHour_106 : decode cX7_oneHour 106 = .ok (.invokevirtual 155, 3) := by decide +kernel
theorem dX7_oneHour_109 : decode cX7_oneHour 109 = .ok (.istore_n 1, 1) := by decide +kernel
theorem dX7_oneHour_110 : decode cX7_oneHour 110 = .ok (.aload_n 0, 1) := by decide +kernel
theorem dX7_oneHour_111 : decode cX7_oneHour 111 = .ok (.aload_n 0, 1) := by decide +kernel
theorem dX7_oneHour_112 : decode cX7_oneHour 112 = .ok (.getfield 19, 3) := by decide +kernel
theorem dX7_oneHour_115 : decode cX7_oneHour 115 = .ok (.iconst 5, 1) := by decide +kernel
theorem dX7_oneHour_116 : decode cX7_oneHour 116 = .ok (.iaload, 1) := by decide +kernel
theorem dX7_oneHour_117 : decode cX7_oneHour 117 = .ok (.invokevirtual 145, 3) := by decide +kernel
theorem dX7_oneHour_120 : decode cX7_oneHour 120 = .ok (.ifCond .eq 7, 3) := by decide +kernel
theorem dX7_oneHour_123 : decode cX7_oneHour 123 = .ok (.iload_n 1, 1) := by decide +kernel
theorem dX7_oneHour_124 : decode cX7_oneHour 124 = .ok (.ifCond .ne 14, 3) := by decide +kernel
theorem dX7_oneHour_127 : decode cX7_oneHour 127 = .ok (.aload_n 0, 1) := by decide +kernel
theorem dX7_oneHour_128 : decode cX7_oneHour 128 = .ok (.getfield 19, 3) := by decide +kernel
theorem dX7_oneHour_131 : decode cX7_oneHour 131 = .ok (.bipush 7, 2) := by decide +kernel
theorem dX7_oneHour_133 : decode cX7_oneHour 133 = .ok (.iconst (-1), 1) := by decide +kernel
theorem dX7_oneHour_134 : decode cX7_oneHour 134 = .ok (.iastore, 1) := by decide +kernel
theorem dX7_oneHour_135 : decode cX7_oneHour 135 = .ok (.goto 38, 3) := by decide +kernel
theorem dX7_oneHour_138 : decode cX7_oneHour 138 = .ok (.aload_n 0, 1) := by decide +kernel
theorem dX7_oneHour_139 : decode cX7_oneHour 139 = .ok (.getfield 19, 3) := by decide +kernel
theorem dX7_oneHour_142 : decode cX7_oneHour 142 = .ok (.bipush 7, 2) := by decide +kernel
theorem dX7_oneHour_144 : decode cX7_oneHour 144 = .ok (.iaload, 1) := by decide +kernel
theorem dX7_oneHour_145 : decode cX7_oneHour 145 = .ok (.ifCond .lt 17, 3) := by decide +kernel
theorem dX7_oneHour_148 : decode cX7_oneHour 148 = .ok (.iload_n 1, 1) := by decide +kernel
theorem dX7_oneHour_149 : decode cX7_oneHour 149 = .ok (.aload_n 0, 1) := by decide +kernel
theorem dX7_oneHour_150 : decode cX7_oneHour 150 = .ok (.getfield 19, 3) := by decide +kernel
theorem dX7_oneHour_153 : decode cX7_oneHour 153 = .ok (.bipush 7, 2) := by decide +kernel
theorem dX7_oneHour_155 : decode cX7_oneHour 155 = .ok (.iaload, 1) := by decide +kernel
theorem dX7_oneHour_156 : decode cX7_oneHour 156 = .ok (.invokestatic 148, 3) := by decide +kernel
theorem dX7_oneHour_159 : decode cX7_oneHour 159 = .ok (.ifCond .ne 14, 3) := by decide +kernel
theorem dX7_oneHour_162 : decode cX7_oneHour 162 = .ok (.aload_n 0, 1) := by decide +kernel
theorem dX7_oneHour_163 : decode cX7_oneHour 163 = .ok (.getfield 19, 3) := by decide +kernel
theorem dX7_oneHour_166 : decode cX7_oneHour 166 = .ok (.bipush 7, 2) := by decide +kernel
theorem dX7_oneHour_168 : decode cX7_oneHour 168 = .ok (.iload_n 1, 1) := by decide +kernel
theorem dX7_oneHour_169 : decode cX7_oneHour 169 = .ok (.invokestatic 159, 3) := by decide +kernel
theorem dX7_oneHour_172 : decode cX7_oneHour 172 = .ok (.iastore, 1) := by decide +kernel
theorem dX7_oneHour_173 : decode cX7_oneHour 173 = .ok (.aload_n 0, 1) := by decide +kernel
theorem dX7_oneHour_174 : decode cX7_oneHour 174 = .ok (.getfield 19, 3) := by decide +kernel
theorem dX7_oneHour_177 : decode cX7_oneHour 177 = .ok (.bipush 7, 2) := by decide +kernel
theorem dX7_oneHour_179 : decode cX7_oneHour 179 = .ok (.iaload, 1) := by decide +kernel
theorem dX7_oneHour_180 : decode cX7_oneHour 180 = .ok (.ifCond .lt 22, 3) := by decide +kernel
theorem dX7_oneHour_183 : decode cX7_oneHour 183 = .ok (.aload_n 0, 1) := by decide +kernel
theorem dX7_oneHour_184 : decode cX7_oneHour 184 = .ok (.getfield 19, 3) := by decide +kernel
theorem dX7_oneHour_187 : decode cX7_oneHour 187 = .ok (.bipush 38, 2) := by decide +kernel
theorem dX7_oneHour_189 : decode cX7_oneHour 189 = .ok (.aload_n 0, 1) := by decide +kernel
theorem dX7_oneHour_190 : decode cX7_oneHour 190 = .ok (.getfield 19, 3) := by decide +kernel
theorem dX7_oneHour_193 : decode cX7_oneHour 193 = .ok (.bipush 7, 2) := by decide +kernel
theorem dX7_oneHour_195 : decode cX7_oneHour 195 = .ok (.iaload, 1) := by decide +kernel
theorem dX7_oneHour_196 : decode cX7_oneHour 196 = .ok (.iadd, 1) := by decide +kernel
theorem dX7_oneHour_197 : decode cX7_oneHour 197 = .ok (.dup2, 1) := by decide +kernel
theorem dX7_oneHour_198 : decode cX7_oneHour 198 = .ok (.iaload, 1) := by decide +kernel
theorem dX7_oneHour_199 : decode cX7_oneHour 199 = .ok (.iconst 1, 1) := by decide +kernel
theorem dX7_oneHour_200 : decode cX7_oneHour 200 = .ok (.iadd, 1) := by decide +kernel
theorem dX7_oneHour_201 : decode cX7_oneHour 201 = .ok (.iastore, 1) := by decide +kernel
theorem dX7_oneHour_202 : decode cX7_oneHour 202 = .ok (.aload_n 0, 1) := by decide +kernel
theorem dX7_oneHour_203 : decode cX7_oneHour 203 = .ok (.getfield 19, 3) := by decide +kernel
theorem dX7_oneHour_206 : decode cX7_oneHour 206 = .ok (.iconst 5, 1) := by decide +kernel
theorem dX7_oneHour_207 : decode cX7_oneHour 207 = .ok (.dup2, 1) := by decide +kernel
theorem dX7_oneHour_208 : decode cX7_oneHour 208 = .ok (.iaload, 1) := by decide +kernel
theorem dX7_oneHour_209 : decode cX7_oneHour 209 = .ok (.iconst 1, 1) := by decide +kernel
theorem dX7_oneHour_210 : decode cX7_oneHour 210 = .ok (.iadd, 1) := by decide +kernel
theorem dX7_oneHour_211 : decode cX7_oneHour 211 = .ok (.iastore, 1) := by decide +kernel
theorem dX7_oneHour_212 : decode cX7_oneHour 212 = .ok (.return_, 1) := by decide +kernel
theorem dX7_ownerNow_0 : decode cX7_ownerNow 0 = .ok (.aload_n 0, 1) := by decide +kernel
theorem dX7_ownerNow_1 : decode cX7_ownerNow 1 = .ok (.getfield 19, 3) := by decide +kernel
theorem dX7_ownerNow_4 : decode cX7_ownerNow 4 = .ok (.bipush 7, 2) := by decide +kernel
theorem dX7_ownerNow_6 : decode cX7_ownerNow 6 = .ok (.iaload, 1) := by decide +kernel
theorem dX7_ownerNow_7 : decode cX7_ownerNow 7 = .ok (.ifCond .ge 8, 3) := by decide +kernel
theorem dX7_ownerNow_10 : decode cX7_ownerNow 10 = .ok (.ldc 162, 2) := by decide +kernel
theorem dX7_ownerNow_12 : decode cX7_ownerNow 12 = .ok (.goto 10, 3) := by decide +kernel
theorem dX7_ownerNow_15 : decode cX7_ownerNow 15 = .ok (.aload_n 0, 1) := by decide +kernel
theorem dX7_ownerNow_16 : decode cX7_ownerNow 16 = .ok (.getfield 19, 3) := by decide +kernel
theorem dX7_ownerNow_19 : decode cX7_ownerNow 19 = .ok (.bipush 7, 2) := by decide +kernel
theorem dX7_ownerNow_21 : decode cX7_ownerNow 21 = .ok (.iaload, 1) := by decide +kernel
theorem dX7_ownerNow_22 : decode cX7_ownerNow 22 = .ok (.ireturn, 1) := by decide +kernel
theorem dX7_allHeld_0 : decode cX7_allHeld 0 = .ok (.iconst 0, 1) := by decide +kernel
theorem dX7_allHeld_1 : decode cX7_allHeld 1 = .ok (.istore_n 1, 1) := by decide +kernel
theorem dX7_allHeld_2 : decode cX7_allHeld 2 = .ok (.iconst 0, 1) := by decide +kernel
theorem dX7_allHeld_3 : decode cX7_allHeld 3 = .ok (.istore_n 2, 1) := by decide +kernel
theorem dX7_allHeld_4 : decode cX7_allHeld 4 = .ok (.iload_n 2, 1) := by decide +kernel
theorem dX7_allHeld_5 : decode cX7_allHeld 5 = .ok (.aload_n 0, 1) := by decide +kernel
theorem dX7_allHeld_6 : decode cX7_allHeld 6 = .ok (.getfield 19, 3) := by decide +kernel
theorem dX7_allHeld_9 : decode cX7_allHeld 9 = .ok (.iconst 4, 1) := by decide +kernel
theorem dX7_allHeld_10 : decode cX7_allHeld 10 = .ok (.iaload, 1) := by decide +kernel
theorem dX7_allHeld_11 : decode cX7_allHeld 11 = .ok (.if_icmp .ge 21, 3) := by decide +kernel
theorem dX7_allHeld_14 : decode cX7_allHeld 14 = .ok (.iload_n 1, 1) := by decide +kernel
theorem dX7_allHeld_15 : decode cX7_allHeld 15 = .ok (.aload_n 0, 1) := by decide +kernel
theorem dX7_allHeld_16 : decode cX7_allHeld 16 = .ok (.getfield 19, 3) := by decide +kernel
theorem dX7_allHeld_19 : decode cX7_allHeld 19 = .ok (.bipush 38, 2) := by decide +kernel
theorem dX7_allHeld_21 : decode cX7_allHeld 21 = .ok (.iload_n 2, 1) := by decide +kernel
theorem dX7_allHeld_22 : decode cX7_allHeld 22 = .ok (.iadd, 1) := by decide +kernel
theorem dX7_allHeld_23 : decode cX7_allHeld 23 = .ok (.iaload, 1) := by decide +kernel
theorem dX7_allHeld_24 : decode cX7_allHeld 24 = .ok (.iadd, 1) := by decide +kernel
theorem dX7_allHeld_25 : decode cX7_allHeld 25 = .ok (.istore_n 1, 1) := by decide +kernel
theorem dX7_allHeld_26 : decode cX7_allHeld 26 = .ok (.iinc 2 1, 3) := by decide +kernel
theorem dX7_allHeld_29 : decode cX7_allHeld 29 = .ok (.goto (-25), 3) := by decide +kernel
theorem dX7_allHeld_32 : decode cX7_allHeld 32 = .ok (.iload_n 1, 1) := by decide +kernel
theorem dX7_allHeld_33 : decode cX7_allHeld 33 = .ok (.ireturn, 1) := by decide +kernel
theorem dX7_note_0 : decode cX7_note 0 = .ok (.aload_n 0, 1) := by decide +kernel
theorem dX7_note_1 : decode cX7_note 1 = .ok (.getfield 139, 3) := by decide +kernel
theorem dX7_note_4 : decode cX7_note 4 = .ok (.bipush 24, 2) := by decide +kernel
theorem dX7_note_6 : decode cX7_note 6 = .ok (.if_icmp .ne 43, 3) := by decide +kernel
theorem dX7_note_9 : decode cX7_note 9 = .ok (.iconst 0, 1) := by decide +kernel
theorem dX7_note_10 : decode cX7_note 10 = .ok (.istore_n 1, 1) := by decide +kernel
theorem dX7_note_11 : decode cX7_note 11 = .ok (.iload_n 1, 1) := by decide +kernel
theorem dX7_note_12 : decode cX7_note 12 = .ok (.sipush 1012, 3) := by decide +kernel
theorem dX7_note_15 : decode cX7_note 15 = .ok (.if_icmp .ge 24, 3) := by decide +kernel
theorem dX7_note_18 : decode cX7_note 18 = .ok (.aload_n 0, 1) := by decide +kernel
theorem dX7_note_19 : decode cX7_note 19 = .ok (.getfield 31, 3) := by decide +kernel
theorem dX7_note_22 : decode cX7_note 22 = .ok (.iload_n 1, 1) := by decide +kernel
theorem dX7_note_23 : decode cX7_note 23 = .ok (.aload_n 0, 1) := by decide +kernel
theorem dX7_note_24 : decode cX7_note 24 = .ok (.getfield 31, 3) := by decide +kernel
theorem dX7_note_27 : decode cX7_note 27 = .ok (.iload_n 1, 1) := by decide +kernel
theorem dX7_note_28 : decode cX7_note 28 = .ok (.bipush 44, 2) := by decide +kernel
theorem dX7_note_30 : decode cX7_note 30 = .ok (.iadd, 1) := by decide +kernel
theorem dX7_note_31 : decode cX7_note 31 = .ok (.iaload, 1) := by decide +kernel
theorem dX7_note_32 : decode cX7_note 32 = .ok (.iastore, 1) := by decide +kernel
theorem dX7_note_33 : decode cX7_note 33 = .ok (.iinc 1 1, 3) := by decide +kernel
theorem dX7_note_36 : decode cX7_note 36 = .ok (.goto (-25), 3) := by decide +kernel
theorem dX7_note_39 : decode cX7_note 39 = .ok (.aload_n 0, 1) := by decide +kernel
theorem dX7_note_40 : decode cX7_note 40 = .ok (.dup, 1) := by decide +kernel
theorem dX7_note_41 : decode cX7_note 41 = .ok (.getfield 139, 3) := by decide +kernel
theorem dX7_note_44 : decode cX7_note 44 = .ok (.iconst 1, 1) := by decide +kernel
theorem dX7_note_45 : decode cX7_note 45 = .ok (.isub, 1) := by decide +kernel
theorem dX7_note_46 : decode cX7_note 46 = .ok (.putfield 139, 3) := by decide +kernel
theorem dX7_note_49 : decode cX7_note 49 = .ok (.iconst 0, 1) := by decide +kernel
theorem dX7_note_50 : decode cX7_note 50 = .ok (.istore_n 1, 1) := by decide +kernel
theorem dX7_note_51 : decode cX7_note 51 = .ok (.iload_n 1, 1) := by decide +kernel
theorem dX7_note_52 : decode cX7_note 52 = .ok (.bipush 44, 2) := by decide +kernel
theorem dX7_note_54 : decode cX7_note 54 = .ok (.if_icmp .ge 29, 3) := by decide +kernel
theorem dX7_note_57 : decode cX7_note 57 = .ok (.aload_n 0, 1) := by decide +kernel
theorem dX7_note_58 : decode cX7_note 58 = .ok (.getfield 31, 3) := by decide +kernel
theorem dX7_note_61 : decode cX7_note 61 = .ok (.bipush 44, 2) := by decide +kernel
theorem dX7_note_63 : decode cX7_note 63 = .ok (.aload_n 0, 1) := by decide +kernel
theorem dX7_note_64 : decode cX7_note 64 = .ok (.getfield 139, 3) := by decide +kernel
theorem dX7_note_67 : decode cX7_note 67 = .ok (.imul, 1) := by decide +kernel
theorem dX7_note_68 : decode cX7_note 68 = .ok (.iload_n 1, 1) := by decide +kernel
theorem dX7_note_69 : decode cX7_note 69 = .ok (.iadd, 1) := by decide +kernel
theorem dX7_note_70 : decode cX7_note 70 = .ok (.aload_n 0, 1) := by decide +kernel
theorem dX7_note_71 : decode cX7_note 71 = .ok (.getfield 19, 3) := by decide +kernel
theorem dX7_note_74 : decode cX7_note 74 = .ok (.iload_n 1, 1) := by decide +kernel
theorem dX7_note_75 : decode cX7_note 75 = .ok (.iaload, 1) := by decide +kernel
theorem dX7_note_76 : decode cX7_note 76 = .ok (.iastore, 1) := by decide +kernel
theorem dX7_note_77 : decode cX7_note 77 = .ok (.iinc 1 1, 3) := by decide +kernel
theorem dX7_note_80 : decode cX7_note 80 = .ok (.goto (-29), 3) := by decide +kernel
theorem dX7_note_83 : decode cX7_note 83 = .ok (.aload_n 0, 1) := by decide +kernel
theorem dX7_note_84 : decode cX7_note 84 = .ok (.dup, 1) := by decide +kernel
theorem dX7_note_85 : decode cX7_note 85 = .ok (.getfield 139, 3) := by decide +kernel
theorem dX7_note_88 : decode cX7_note 88 = .ok (.iconst 1, 1) := by decide +kernel
theorem dX7_note_89 : decode cX7_note 89 = .ok (.iadd, 1) := by decide +kernel
theorem dX7_note_90 : decode cX7_note 90 = .ok (.putfield 139, 3) := by decide +kernel
theorem dX7_note_93 : decode cX7_note 93 = .ok (.return_, 1) := by decide +kernel
theorem dX7_undo_0 : decode cX7_undo 0 = .ok (.aload_n 0, 1) := by decide +kernel
theorem dX7_undo_1 : decode cX7_undo 1 = .ok (.getfield 139, 3) := by decide +kernel
theorem dX7_undo_4 : decode cX7_undo 4 = .ok (.ifCond .ne 6, 3) := by decide +kernel
theorem dX7_undo_7 : decode cX7_undo 7 = .ok (.ldc 163, 2) := by decide +kernel
theorem dX7_undo_9 : decode cX7_undo 9 = .ok (.ireturn, 1) := by decide +kernel
theorem dX7_undo_10 : decode cX7_undo 10 = .ok (.aload_n 0, 1) := by decide +kernel
theorem dX7_undo_11 : decode cX7_undo 11 = .ok (.dup, 1) := by decide +kernel
theorem dX7_undo_12 : decode cX7_undo 12 = .ok (.getfield 139, 3) := by decide +kernel
theorem dX7_undo_15 : decode cX7_undo 15 = .ok (.iconst 1, 1) := by decide +kernel
theorem dX7_undo_16 : decode cX7_undo 16 = .ok (.isub, 1) := by decide +kernel
theorem dX7_undo_17 : decode cX7_undo 17 = .ok (.putfield 139, 3) := by decide +kernel
theorem dX7_undo_20 : decode cX7_undo 20 = .ok (.iconst 0, 1) := by decide +kernel
theorem dX7_undo_21 : decode cX7_undo 21 = .ok (.istore_n 1, 1) := by decide +kernel
theorem dX7_undo_22 : decode cX7_undo 22 = .ok (.iload_n 1, 1) := by decide +kernel
theorem dX7_undo_23 : decode cX7_undo 23 = .ok (.bipush 44, 2) := by decide +kernel
theorem dX7_undo_25 : decode cX7_undo 25 = .ok (.if_icmp .ge 29, 3) := by decide +kernel
theorem dX7_undo_28 : decode cX7_undo 28 = .ok (.aload_n 0, 1) := by decide +kernel
theorem dX7_undo_29 : decode cX7_undo 29 = .ok (.getfield 19, 3) := by decide +kernel
theorem dX7_undo_32 : decode cX7_undo 32 = .ok (.iload_n 1, 1) := by decide +kernel
theorem dX7_undo_33 : decode cX7_undo 33 = .ok (.aload_n 0, 1) := by decide +kernel
theorem dX7_undo_34 : decode cX7_undo 34 = .ok (.getfield 31, 3) := by decide +kernel
theorem dX7_undo_37 : decode cX7_undo 37 = .ok (.bipush 44, 2) := by decide +kernel
theorem dX7_undo_39 : decode cX7_undo 39 = .ok (.aload_n 0, 1) := by decide +kernel
theorem dX7_undo_40 : decode cX7_undo 40 = .ok (.getfield 139, 3) := by decide +kernel
theorem dX7_undo_43 : decode cX7_undo 43 = .ok (.imul, 1) := by decide +kernel
theorem dX7_undo_44 : decode cX7_undo 44 = .ok (.iload_n 1, 1) := by decide +kernel
theorem dX7_undo_45 : decode cX7_undo 45 = .ok (.iadd, 1) := by decide +kernel
theorem dX7_undo_46 : decode cX7_undo 46 = .ok (.iaload, 1) := by decide +kernel
theorem dX7_undo_47 : decode cX7_undo 47 = .ok (.iastore, 1) := by decide +kernel
theorem dX7_undo_48 : decode cX7_undo 48 = .ok (.iinc 1 1, 3) := by decide +kernel
theorem dX7_undo_51 : decode cX7_undo 51 = .ok (.goto (-29), 3) := by decide +kernel
theorem dX7_undo_54 : decode cX7_undo 54 = .ok (.aload_n 0, 1) := by decide +kernel
theorem dX7_undo_55 : decode cX7_undo 55 = .ok (.getfield 139, 3) := by decide +kernel
theorem dX7_undo_58 : decode cX7_undo 58 = .ok (.ireturn, 1) := by decide +kernel
theorem dX7_hours_0 : decode cX7_hours 0 = .ok (.aload_n 0, 1) := by decide +kernel
theorem dX7_hours_1 : decode cX7_hours 1 = .ok (.getfield 135, 3) := by decide +kernel
theorem dX7_hours_4 : decode cX7_hours 4 = .ok (.ifCond .ne 6, 3) := by decide +kernel
theorem dX7_hours_7 : decode cX7_hours 7 = .ok (.ldc 163, 2) := by decide +kernel
theorem dX7_hours_9 : decode cX7_hours 9 = .ok (.ireturn, 1) := by decide +kernel
theorem dX7_hours_10 : decode cX7_hours 10 = .ok (.iload_n 1, 1) := by decide +kernel
theorem dX7_hours_11 : decode cX7_hours 11 = .ok (.i2l, 1) := by decide +kernel
theorem dX7_hours_12 : decode cX7_hours 12 = .ok (.lconst 1, 1) := by decide +kernel
theorem dX7_hours_13 : decode cX7_hours 13 = .ok (.ldc2_w 164, 3) := by decide +kernel
theorem dX7_hours_16 : decode cX7_hours 16 = .ok (.invokestatic 54, 3) := by decide +kernel
theorem dX7_hours_19 : decode cX7_hours 19 = .ok (.ifCond .ne 6, 3) := by decide +kernel
theorem dX7_hours_22 : decode cX7_hours 22 = .ok (.ldc 64, 2) := by decide +kernel
theorem dX7_hours_24 : decode cX7_hours 24 = .ok (.ireturn, 1) := by decide +kernel
theorem dX7_hours_25 : decode cX7_hours 25 = .ok (.aload_n 0, 1) := by decide +kernel
theorem dX7_hours_26 : decode cX7_hours 26 = .ok (.getfield 19, 3) := by decide +kernel
theorem dX7_hours_29 : decode cX7_hours 29 = .ok (.iconst 5, 1) := by decide +kernel
theorem dX7_hours_30 : decode cX7_hours 30 = .ok (.iaload, 1) := by decide +kernel
theorem dX7_hours_31 : decode cX7_hours 31 = .ok (.iload_n 1, 1) := by decide +kernel
theorem dX7_hours_32 : decode cX7_hours 32 = .ok (.iadd, 1) := by decide +kernel
theorem dX7_hours_33 : decode cX7_hours 33 = .ok (.sipush 999, 3) := by decide +kernel
theorem dX7_hours_36 : decode cX7_hours 36 = .ok (.if_icmp .le 6, 3) := by decide +kernel
theorem dX7_hours_39 : decode cX7_hours 39 = .ok (.ldc 81, 2) := by decide +kernel
theorem dX7_hours_41 : decode cX7_hours 41 = .ok (.ireturn, 1) := by decide +kernel
theorem dX7_hours_42 : decode cX7_hours 42 = .ok (.iconst 0, 1) := by decide +kernel
theorem dX7_hours_43 : decode cX7_hours 43 = .ok (.istore_n 2, 1) := by decide +kernel
theorem dX7_hours_44 : decode cX7_hours 44 = .ok (.iload_n 2, 1) := by decide +kernel
theorem dX7_hours_45 : decode cX7_hours 45 = .ok (.iload_n 1, 1) := by decide +kernel
theorem dX7_hours_46 : decode cX7_hours 46 = .ok (.if_icmp .ge 17, 3) := by decide +kernel
theorem dX7_hours_49 : decode cX7_hours 49 = .ok (.aload_n 0, 1) := by decide +kernel
theorem dX7_hours_50 : decode cX7_hours 50 = .ok (.invokevirtual 166, 3) := by decide +kernel
theorem dX7_hours_53 : decode cX7_hours 53 = .ok (.aload_n 0, 1) := by decide +kernel
theorem dX7_hours_54 : decode cX7_hours 54 = .ok (.invokevirtual 169, 3) := by decide +kernel
theorem dX7_hours_57 : decode cX7_hours 57 = .ok (.iinc 2 1, 3) := by decide +kernel
theorem dX7_hours_60 : decode cX7_hours 60 = .ok (.goto (-16), 3) := by decide +kernel
theorem dX7_hours_63 : decode cX7_hours 63 = .ok (.aload_n 0, 1) := by decide +kernel
theorem dX7_hours_64 : decode cX7_hours 64 = .ok (.invokevirtual 172, 3) := by decide +kernel
theorem dX7_hours_67 : decode cX7_hours 67 = .ok (.ireturn, 1) := by decide +kernel
theorem dX7_send_0 : decode cX7_send 0 = .ok (.aload_n 0, 1) := by decide +kernel
theorem dX7_send_1 : decode cX7_send 1 = .ok (.iload_n 1, 1) := by decide +kernel
theorem dX7_send_2 : decode cX7_send 2 = .ok (.invokevirtual 175, 3) := by decide +kernel
theorem dX7_send_5 : decode cX7_send 5 = .ok (.ifCond .eq 13, 3) := by decide +kernel
theorem dX7_send_8 : decode cX7_send 8 = .ok (.iload_n 2, 1) := by decide +kernel
theorem dX7_send_9 : decode cX7_send 9 = .ok (.i2l, 1) := by decide +kernel
theorem dX7_send_10 : decode cX7_send 10 = .ok (.lconst 0, 1) := by decide +kernel
theorem dX7_send_11 : decode cX7_send 11 = .ok (.lconst 1, 1) := by decide +kernel
theorem dX7_send_12 : decode cX7_send 12 = .ok (.invokestatic 54, 3) := by decide +kernel
theorem dX7_send_15 : decode cX7_send 15 = .ok (.ifCond .ne 6, 3) := by decide +kernel
theorem dX7_send_18 : decode cX7_send 18 = .ok (.ldc 64, 2) := by decide +kernel
theorem dX7_send_20 : decode cX7_send 20 = .ok (.ireturn, 1) := by decide +kernel
theorem dX7_send_21 : decode cX7_send 21 = .ok (.aload_n 0, 1) := by decide +kernel
theorem dX7_send_22 : decode cX7_send 22 = .ok (.getfield 19, 3) := by decide +kernel
theorem dX7_send_25 : decode cX7_send 25 = .ok (.bipush 6, 2) := by decide +kernel
theorem dX7_send_27 : decode cX7_send 27 = .ok (.iaload, 1) := by decide +kernel
theorem dX7_send_28 : decode cX7_send 28 = .ok (.iload_n 1, 1) := by decide +kernel
theorem dX7_send_29 : decode cX7_send 29 = .ok (.invokestatic 148, 3) := by decide +kernel
theorem dX7_send_32 : decode cX7_send 32 = .ok (.iload_n 2, 1) := by decide +kernel
theorem dX7_send_33 : decode cX7_send 33 = .ok (.iconst 1, 1) := by decide +kernel
theorem dX7_send_34 : decode cX7_send 34 = .ok (.if_icmp .ne 7, 3) := by decide +kernel
theorem dX7_send_37 : decode cX7_send 37 = .ok (.iconst 1, 1) := by decide +kernel
theorem dX7_send_38 : decode cX7_send 38 = .ok (.goto 4, 3) := by decide +kernel
theorem dX7_send_41 : decode cX7_send 41 = .ok (.iconst 0, 1) := by decide +kernel
theorem dX7_send_42 : decode cX7_send 42 = .ok (.if_icmp .ne 6, 3) := by decide +kernel
theorem dX7_send_45 : decode cX7_send 45 = .ok (.ldc 163, 2) := by decide +kernel
theorem dX7_send_47 : decode cX7_send 47 = .ok (.ireturn, 1) := by decide +kernel
theorem dX7_send_48 : decode cX7_send 48 = .ok (.aload_n 0, 1) := by decide +kernel
theorem dX7_send_49 : decode cX7_send 49 = .ok (.invokevirtual 166, 3) := by decide +kernel
theorem dX7_send_52 : decode cX7_send 52 = .ok (.aload_n 0, 1) := by decide +kernel
theorem dX7_send_53 : decode cX7_send 53 = .ok (.getfield 19, 3) := by decide +kernel
theorem dX7_send_56 : decode cX7_send 56 = .ok (.bipush 6, 2) := by decide +kernel
theorem dX7_send_58 : decode cX7_send 58 = .ok (.dup2, 1) := by decide +kernel
theorem dX7_send_59 : decode cX7_send 59 = .ok (.iaload, 1) := by decide +kernel
theorem dX7_send_60 : decode cX7_send 60 = .ok (.iconst 1, 1) := by decide +kernel
theorem dX7_send_61 : decode cX7_send 61 = .ok (.iload_n 1, 1) := by decide +kernel
theorem dX7_send_62 : decode cX7_send 62 = .ok (.ishl, 1) := by decide +kernel
theorem dX7_send_63 : decode cX7_send 63 = .ok (.ixor, 1) := by decide +kernel
theorem dX7_send_64 : decode cX7_send 64 = .ok (.iastore, 1) := by decide +kernel
theorem dX7_send_65 : decode cX7_send 65 = .ok (.aload_n 0, 1) := by decide +kernel
theorem dX7_send_66 : decode cX7_send 66 = .ok (.getfield 19, 3) := by decide +kernel
theorem dX7_send_69 : decode cX7_send 69 = .ok (.bipush 6, 2) := by decide +kernel
theorem dX7_send_71 : decode cX7_send 71 = .ok (.iaload, 1) := by decide +kernel
theorem dX7_send_72 : decode cX7_send 72 = .ok (.ireturn, 1) := by decide +kernel
theorem dX7_wind_0 : decode cX7_wind 0 = .ok (.aload_n 0, 1) := by decide +kernel
theorem dX7_wind_1 : decode cX7_wind 1 = .ok (.getfield 135, 3) := by decide +kernel
theorem dX7_wind_4 : decode cX7_wind 4 = .ok (.ifCond .ne 6, 3) := by decide +kernel
theorem dX7_wind_7 : decode cX7_wind 7 = .ok (.ldc 163, 2) := by decide +kernel
theorem dX7_wind_9 : decode cX7_wind 9 = .ok (.ireturn, 1) := by decide +kernel
theorem dX7_wind_10 : decode cX7_wind 10 = .ok (.iload_n 1, 1) := by decide +kernel
theorem dX7_wind_11 : decode cX7_wind 11 = .ok (.i2l, 1) := by decide +kernel
theorem dX7_wind_12 : decode cX7_wind 12 = .ok (.lconst 0, 1) := by decide +kernel
theorem dX7_wind_13 : decode cX7_wind 13 = .ok (.ldc2_w 178, 3) := by decide +kernel
theorem dX7_wind_16 : decode cX7_wind 16 = .ok (.invokestatic 54, 3) := by decide +kernel
theorem dX7_wind_19 : decode cX7_wind 19 = .ok (.ifCond .ne 6, 3) := by decide +kernel
theorem dX7_wind_22 : decode cX7_wind 22 = .ok (.ldc 64, 2) := by decide +kernel
theorem dX7_wind_24 : decode cX7_wind 24 = .ok (.ireturn, 1) := by decide +kernel
theorem dX7_wind_25 : decode cX7_wind 25 = .ok (.aload_n 0, 1) := by decide +kernel
theorem dX7_wind_26 : decode cX7_wind 26 = .ok (.invokevirtual 166, 3) := by decide +kernel
theorem dX7_wind_29 : decode cX7_wind 29 = .ok (.aload_n 0, 1) := by decide +kernel
theorem dX7_wind_30 : decode cX7_wind 30 = .ok (.getfield 19, 3) := by decide +kernel
theorem dX7_wind_33 : decode cX7_wind 33 = .ok (.iconst 2, 1) := by decide +kernel
theorem dX7_wind_34 : decode cX7_wind 34 = .ok (.iaload, 1) := by decide +kernel
theorem dX7_wind_35 : decode cX7_wind 35 = .ok (.istore_n 2, 1) := by decide +kernel
theorem dX7_wind_36 : decode cX7_wind 36 = .ok (.aload_n 0, 1) := by decide +kernel
theorem dX7_wind_37 : decode cX7_wind 37 = .ok (.getfield 19, 3) := by decide +kernel
theorem dX7_wind_40 : decode cX7_wind 40 = .ok (.iconst 2, 1) := by decide +kernel
theorem dX7_wind_41 : decode cX7_wind 41 = .ok (.iload_n 1, 1) := by decide +kernel
theorem dX7_wind_42 : decode cX7_wind 42 = .ok (.iastore, 1) := by decide +kernel
theorem dX7_wind_43 : decode cX7_wind 43 = .ok (.iload_n 2, 1) := by decide +kernel
theorem dX7_wind_44 : decode cX7_wind 44 = .ok (.ireturn, 1) := by decide +kernel
theorem dX7_sand_0 : decode cX7_sand 0 = .ok (.aload_n 0, 1) := by decide +kernel
theorem dX7_sand_1 : decode cX7_sand 1 = .ok (.iload_n 1, 1) := by decide +kernel
theorem dX7_sand_2 : decode cX7_sand 2 = .ok (.invokevirtual 180, 3) := by decide +kernel
theorem dX7_sand_5 : decode cX7_sand 5 = .ok (.ifCond .eq 21, 3) := by decide +kernel
theorem dX7_sand_8 : decode cX7_sand 8 = .ok (.iload_n 2, 1) := by decide +kernel
theorem dX7_sand_9 : decode cX7_sand 9 = .ok (.ifCond .eq 17, 3) := by decide +kernel
theorem dX7_sand_12 : decode cX7_sand 12 = .ok (.iload_n 2, 1) := by decide +kernel
theorem dX7_sand_13 : decode cX7_sand 13 = .ok (.i2l, 1) := by decide +kernel
theorem dX7_sand_14 : decode cX7_sand 14 = .ok (.ldc2_w 183, 3) := by decide +kernel
theorem dX7_sand_17 : decode cX7_sand 17 = .ok (.ldc2_w 185, 3) := by decide +kernel
theorem dX7_sand_20 : decode cX7_sand 20 = .ok (.invokestatic 54, 3) := by decide +kernel
theorem dX7_sand_23 : decode cX7_sand 23 = .ok (.ifCond .ne 6, 3) := by decide +kernel
theorem dX7_sand_26 : decode cX7_sand 26 = .ok (.ldc 64, 2) := by decide +kernel
theorem dX7_sand_28 : decode cX7_sand 28 = .ok (.ireturn, 1) := by decide +kernel
theorem dX7_sand_29 : decode cX7_sand 29 = .ok (.aload_n 0, 1) := by decide +kernel
theorem dX7_sand_30 : decode cX7_sand 30 = .ok (.getfield 19, 3) := by decide +kernel
theorem dX7_sand_33 : decode cX7_sand 33 = .ok (.bipush 8, 2) := by decide +kernel
theorem dX7_sand_35 : decode cX7_sand 35 = .ok (.iload_n 1, 1) := by decide +kernel
theorem dX7_sand_36 : decode cX7_sand 36 = .ok (.iadd, 1) := by decide +kernel
theorem dX7_sand_37 : decode cX7_sand 37 = .ok (.iaload, 1) := by decide +kernel
theorem dX7_sand_38 : decode cX7_sand 38 = .ok (.iload_n 2, 1) := by decide +kernel
theorem dX7_sand_39 : decode cX7_sand 39 = .ok (.iadd, 1) := by decide +kernel
theorem dX7_sand_40 : decode cX7_sand 40 = .ok (.istore_n 3, 1) := by decide +kernel
theorem dX7_sand_41 : decode cX7_sand 41 = .ok (.iload_n 3, 1) := by decide +kernel
theorem dX7_sand_42 : decode cX7_sand 42 = .ok (.i2l, 1) := by decide +kernel
theorem dX7_sand_43 : decode cX7_sand 43 = .ok (.lconst 0, 1) := by decide +kernel
theorem dX7_sand_44 : decode cX7_sand 44 = .ok (.ldc2_w 187, 3) := by decide +kernel
theorem dX7_sand_47 : decode cX7_sand 47 = .ok (.invokestatic 54, 3) := by decide +kernel
theorem dX7_sand_50 : decode cX7_sand 50 = .ok (.ifCond .ne 6, 3) := by decide +kernel
theorem dX7_sand_53 : decode cX7_sand 53 = .ok (.ldc 81, 2) := by decide +kernel
theorem dX7_sand_55 : decode cX7_sand 55 = .ok (.ireturn, 1) := by decide +kernel
theorem dX7_sand_56 : decode cX7_sand 56 = .ok (.aload_n 0, 1) := by decide +kernel
theorem dX7_sand_57 : decode cX7_sand 57 = .ok (.invokevirtual 166, 3) := by decide +kernel
theorem dX7_sand_60 : decode cX7_sand 60 = .ok (.aload_n 0, 1) := by decide +kernel
theorem dX7_sand_61 : decode cX7_sand 61 = .ok (.getfield 19, 3) := by decide +kernel
theorem dX7_sand_64 : decode cX7_sand 64 = .ok (.bipush 8, 2) := by decide +kernel
theorem dX7_sand_66 : decode cX7_sand 66 = .ok (.iload_n 1, 1) := by decide +kernel
theorem dX7_sand_67 : decode cX7_sand 67 = .ok (.iadd, 1) := by decide +kernel
theorem dX7_sand_68 : decode cX7_sand 68 = .ok (.iload_n 3, 1) := by decide +kernel
theorem dX7_sand_69 : decode cX7_sand 69 = .ok (.iastore, 1) := by decide +kernel
theorem dX7_sand_70 : decode cX7_sand 70 = .ok (.iload_n 3, 1) := by decide +kernel
theorem dX7_sand_71 : decode cX7_sand 71 = .ok (.ireturn, 1) := by decide +kernel
theorem dX7_speed_0 : decode cX7_speed 0 = .ok (.aload_n 0, 1) := by decide +kernel
theorem dX7_speed_1 : decode cX7_speed 1 = .ok (.iload_n 1, 1) := by decide +kernel
theorem dX7_speed_2 : decode cX7_speed 2 = .ok (.invokevirtual 175, 3) := by decide +kernel
theorem dX7_speed_5 : decode cX7_speed 5 = .ok (.ifCond .eq 15, 3) := by decide +kernel
theorem dX7_speed_8 : decode cX7_speed 8 = .ok (.iload_n 2, 1) := by decide +kernel
theorem dX7_speed_9 : decode cX7_speed 9 = .ok (.i2l, 1) := by decide +kernel
theorem dX7_speed_10 : decode cX7_speed 10 = .ok (.lconst 1, 1) := by decide +kernel
theorem dX7_speed_11 : decode cX7_speed 11 = .ok (.ldc2_w 189, 3) := by decide +kernel
theorem dX7_speed_14 : decode cX7_speed 14 = .ok (.invokestatic 54, 3) := by decide +kernel
theorem dX7_speed_17 : decode cX7_speed 17 = .ok (.ifCond .ne 6, 3) := by decide +kernel
theorem dX7_speed_20 : decode cX7_speed 20 = .ok (.ldc 64, 2) := by decide +kernel
theorem dX7_speed_22 : decode cX7_speed 22 = .ok (.ireturn, 1) := by decide +kernel
theorem dX7_speed_23 : decode cX7_speed 23 = .ok (.aload_n 0, 1) := by decide +kernel
theorem dX7_speed_24 : decode cX7_speed 24 = .ok (.invokevirtual 166, 3) := by decide +kernel
theorem dX7_speed_27 : decode cX7_speed 27 = .ok (.aload_n 0, 1) := by decide +kernel
theorem dX7_speed_28 : decode cX7_speed 28 = .ok (.getfield 19, 3) := by decide +kernel
theorem dX7_speed_31 : decode cX7_speed 31 = .ok (.bipush 26, 2) := by decide +kernel
theorem dX7_speed_33 : decode cX7_speed 33 = .ok (.iload_n 1, 1) := by decide +kernel
theorem dX7_speed_34 : decode cX7_speed 34 = .ok (.iadd, 1) := by decide +kernel
theorem dX7_speed_35 : decode cX7_speed 35 = .ok (.iaload, 1) := by decide +kernel
theorem dX7_speed_36 : decode cX7_speed 36 = .ok (.istore_n 3, 1) := by decide +kernel
theorem dX7_speed_37 : decode cX7_speed 37 = .ok (.aload_n 0, 1) := by decide +kernel
theorem dX7_speed_38 : decode cX7_speed 38 = .ok (.getfield 19, 3) := by decide +kernel
theorem dX7_speed_41 : decode cX7_speed 41 = .ok (.bipush 26, 2) := by decide +kernel
theorem dX7_speed_43 : decode cX7_speed 43 = .ok (.iload_n 1, 1) := by decide +kernel
theorem dX7_speed_44 : decode cX7_speed 44 = .ok (.iadd, 1) := by decide +kernel
theorem dX7_speed_45 : decode cX7_speed 45 = .ok (.iload_n 2, 1) := by decide +kernel
theorem dX7_speed_46 : decode cX7_speed 46 = .ok (.iastore, 1) := by decide +kernel
theorem dX7_speed_47 : decode cX7_speed 47 = .ok (.iload_n 3, 1) := by decide +kernel
theorem dX7_speed_48 : decode cX7_speed 48 = .ok (.ireturn, 1) := by decide +kernel
theorem dX7_boat_0 : decode cX7_boat 0 = .ok (.aload_n 0, 1) := by decide +kernel
theorem dX7_boat_1 : decode cX7_boat 1 = .ok (.iload_n 1, 1) := by decide +kernel
theorem dX7_boat_2 : decode cX7_boat 2 = .ok (.invokevirtual 175, 3) := by decide +kernel
theorem dX7_boat_5 : decode cX7_boat 5 = .ok (.ifCond .ne 6, 3) := by decide +kernel
theorem dX7_boat_8 : decode cX7_boat 8 = .ok (.ldc 64, 2) := by decide +kernel
theorem dX7_boat_10 : decode cX7_boat 10 = .ok (.ireturn, 1) := by decide +kernel
theorem dX7_boat_11 : decode cX7_boat 11 = .ok (.iload_n 2, 1) := by decide +kernel
theorem dX7_boat_12 : decode cX7_boat 12 = .ok (.tableswitch 106 0 5 #[40, 50, 60, 80, 86, 96], 40) := by decide +kernel
theorem dX7_boat_52 : decode cX7_boat 52 = .ok (.aload_n 0, 1) := by decide +kernel
theorem dX7_boat_53 : decode cX7_boat 53 = .ok (.getfield 19, 3) := by decide +kernel
theorem dX7_boat_56 : decode cX7_boat 56 = .ok (.bipush 32, 2) := by decide +kernel
theorem dX7_boat_58 : decode cX7_boat 58 = .ok (.iload_n 1, 1) := by decide +kernel
theorem dX7_boat_59 : decode cX7_boat 59 = .ok (.iadd, 1) := by decide +kernel
theorem dX7_boat_60 : decode cX7_boat 60 = .ok (.iaload, 1) := by decide +kernel
theorem dX7_boat_61 : decode cX7_boat 61 = .ok (.ireturn, 1) := by decide +kernel
theorem dX7_boat_62 : decode cX7_boat 62 = .ok (.aload_n 0, 1) := by decide +kernel
theorem dX7_boat_63 : decode cX7_boat 63 = .ok (.getfield 19, 3) := by decide +kernel
theorem dX7_boat_66 : decode cX7_boat 66 = .ok (.bipush 26, 2) := by decide +kernel
theorem dX7_boat_68 : decode cX7_boat 68 = .ok (.iload_n 1, 1) := by decide +kernel
theorem dX7_boat_69 : decode cX7_boat 69 = .ok (.iadd, 1) := by decide +kernel
theorem dX7_boat_70 : decode cX7_boat 70 = .ok (.iaload, 1) := by decide +kernel
theorem dX7_boat_71 : decode cX7_boat 71 = .ok (.ireturn, 1) := by decide +kernel
theorem dX7_boat_72 : decode cX7_boat 72 = .ok (.aload_n 0, 1) := by decide +kernel
theorem dX7_boat_73 : decode cX7_boat 73 = .ok (.getfield 19, 3) := by decide +kernel
theorem dX7_boat_76 : decode cX7_boat 76 = .ok (.bipush 6, 2) := by decide +kernel
theorem dX7_boat_78 : decode cX7_boat 78 = .ok (.iaload, 1) := by decide +kernel
theorem dX7_boat_79 : decode cX7_boat 79 = .ok (.iload_n 1, 1) := by decide +kernel
theorem dX7_boat_80 : decode cX7_boat 80 = .ok (.invokestatic 148, 3) := by decide +kernel
theorem dX7_boat_83 : decode cX7_boat 83 = .ok (.ifCond .eq 7, 3) := by decide +kernel
theorem dX7_boat_86 : decode cX7_boat 86 = .ok (.iconst 1, 1) := by decide +kernel
theorem dX7_boat_87 : decode cX7_boat 87 = .ok (.goto 4, 3) := by decide +kernel
theorem dX7_boat_90 : decode cX7_boat 90 = .ok (.iconst 0, 1) := by decide +kernel
theorem dX7_boat_91 : decode cX7_boat 91 = .ok (.ireturn, 1) := by decide +kernel
theorem dX7_boat_92 : decode cX7_boat 92 = .ok (.aload_n 0, 1) := by decide +kernel
theorem dX7_boat_93 : decode cX7_boat 93 = .ok (.iload_n 1, 1) := by decide +kernel
theorem dX7_boat_94 : decode cX7_boat 94 = .ok (.invokevirtual 152, 3) := by decide +kernel
theorem dX7_boat_97 : decode cX7_boat 97 = .ok (.ireturn, 1) := by decide +kernel
theorem dX7_boat_98 : decode cX7_boat 98 = .ok (.aload_n 0, 1) := by decide +kernel
theorem dX7_boat_99 : decode cX7_boat 99 = .ok (.getfield 19, 3) := by decide +kernel
theorem dX7_boat_102 : decode cX7_boat 102 = .ok (.bipush 38, 2) := by decide +kernel
theorem dX7_boat_104 : decode cX7_boat 104 = .ok (.iload_n 1, 1) := by decide +kernel
theorem dX7_boat_105 : decode cX7_boat 105 = .ok (.iadd, 1) := by decide +kernel
theorem dX7_boat_106 : decode cX7_boat 106 = .ok (.iaload, 1) := by decide +kernel
theorem dX7_boat_107 : decode cX7_boat 107 = .ok (.ireturn, 1) := by decide +kernel
theorem dX7_boat_108 : decode cX7_boat 108 = .ok (.aload_n 0, 1) := by decide +kernel
theorem dX7_boat_109 : decode cX7_boat 109 = .ok (.getfield 19, 3) := by decide +kernel
theorem dX7_boat_112 : decode cX7_boat 112 = .ok (.bipush 20, 2) := by decide +kernel
theorem dX7_boat_114 : decode cX7_boat 114 = .ok (.iload_n 1, 1) := by decide +kernel
theorem dX7_boat_115 : decode cX7_boat 115 = .ok (.iadd, 1) := by decide +kernel
theorem dX7_boat_116 : decode cX7_boat 116 = .ok (.iaload, 1) := by decide +kernel
theorem dX7_boat_117 : decode cX7_boat 117 = .ok (.ireturn, 1) := by decide +kernel
theorem dX7_boat_118 : decode cX7_boat 118 = .ok (.ldc 64, 2) := by decide +kernel
theorem dX7_boat_120 : decode cX7_boat 120 = .ok (.ireturn, 1) := by decide +kernel
theorem dX7_cell_0 : decode cX7_cell 0 = .ok (.aload_n 0, 1) := by decide +kernel
theorem dX7_cell_1 : decode cX7_cell 1 = .ok (.iload_n 1, 1) := by decide +kernel
theorem dX7_cell_2 : decode cX7_cell 2 = .ok (.invokevirtual 180, 3) := by decide +kernel
theorem dX7_cell_5 : decode cX7_cell 5 = .ok (.ifCond .ne 8, 3) := by decide +kernel
theorem dX7_cell_8 : decode cX7_cell 8 = .ok (.ldc 64, 2) := by decide +kernel
theorem dX7_cell_10 : decode cX7_cell 10 = .ok (.goto 43, 3) := by decide +kernel
theorem dX7_cell_13 : decode cX7_cell 13 = .ok (.iload_n 2, 1) := by decide +kernel
theorem dX7_cell_14 : decode cX7_cell 14 = .ok (.ifCond .ne 15, 3) := by decide +kernel
theorem dX7_cell_17 : decode cX7_cell 17 = .ok (.aload_n 0, 1) := by decide +kernel
theorem dX7_cell_18 : decode cX7_cell 18 = .ok (.getfield 19, 3) := by decide +kernel
theorem dX7_cell_21 : decode cX7_cell 21 = .ok (.bipush 8, 2) := by decide +kernel
theorem dX7_cell_23 : decode cX7_cell 23 = .ok (.iload_n 1, 1) := by decide +kernel
theorem dX7_cell_24 : decode cX7_cell 24 = .ok (.iadd, 1) := by decide +kernel
theorem dX7_cell_25 : decode cX7_cell 25 = .ok (.iaload, 1) := by decide +kernel
theorem dX7_cell_26 : decode cX7_cell 26 = .ok (.goto 27, 3) := by decide +kernel
theorem dX7_cell_29 : decode cX7_cell 29 = .ok (.iload_n 2, 1) := by decide +kernel
theorem dX7_cell_30 : decode cX7_cell 30 = .ok (.iconst 1, 1) := by decide +kernel
theorem dX7_cell_31 : decode cX7_cell 31 = .ok (.if_icmp .ne 20, 3) := by decide +kernel
theorem dX7_cell_34 : decode cX7_cell 34 = .ok (.aload_n 0, 1) := by decide +kernel
theorem dX7_cell_35 : decode cX7_cell 35 = .ok (.aload_n 0, 1) := by decide +kernel
theorem dX7_cell_36 : decode cX7_cell 36 = .ok (.getfield 19, 3) := by decide +kernel
theorem dX7_cell_39 : decode cX7_cell 39 = .ok (.iconst 5, 1) := by decide +kernel
theorem dX7_cell_40 : decode cX7_cell 40 = .ok (.iaload, 1) := by decide +kernel
theorem dX7_cell_41 : decode cX7_cell 41 = .ok (.invokevirtual 145, 3) := by decide +kernel
theorem dX7_cell_44 : decode cX7_cell 44 = .ok (.iload_n 1, 1) := by decide +kernel
theorem dX7_cell_45 : decode cX7_cell 45 = .ok (.ishr, 1) := by decide +kernel
theorem dX7_cell_46 : decode cX7_cell 46 = .ok (.iconst 1, 1) := by decide +kernel
theorem dX7_cell_47 : decode cX7_cell 47 = .ok (.iand, 1) := by decide +kernel
theorem dX7_cell_48 : decode cX7_cell 48 = .ok (.goto 5, 3) := by decide +kernel
theorem dX7_cell_51 : decode cX7_cell 51 = .ok (.ldc 64, 2) := by decide +kernel
theorem dX7_cell_53 : decode cX7_cell 53 = .ok (.ireturn, 1) := by decide +kernel
theorem dX7_stand_0 : decode cX7_stand 0 = .ok (.aload_n 0, 1) := by decide +kernel
theorem dX7_stand_1 : decode cX7_stand 1 = .ok (.getfield 135, 3) := by decide +kernel
theorem dX7_stand_4 : decode cX7_stand 4 = .ok (.ifCond .ne 6, 3) := by decide +kernel
theorem dX7_stand_7 : decode cX7_stand 7 = .ok (.ldc 163, 2) := by decide +kernel
theorem dX7_stand_9 : decode cX7_stand 9 = .ok (.ireturn, 1) := by decide +kernel
theorem dX7_stand_10 : decode cX7_stand 10 = .ok (.iload_n 1, 1) := by decide +kernel
theorem dX7_stand_11 : decode cX7_stand 11 = .ok (.tableswitch 92 0 5 #[37, 48, 67, 72, 79, 87], 37) := by decide +kernel
theorem dX7_stand_48 : decode cX7_stand 48 = .ok (.aload_n 0, 1) := by decide +kernel
theorem dX7_stand_49 : decode cX7_stand 49 = .ok (.aload_n 0, 1) := by decide +kernel
theorem dX7_stand_50 : decode cX7_stand 50 = .ok (.getfield 19, 3) := by decide +kernel
theorem dX7_stand_53 : decode cX7_stand 53 = .ok (.iconst 5, 1) := by decide +kernel
theorem dX7_stand_54 : decode cX7_stand 54 = .ok (.iaload, 1) := by decide +kernel
theorem dX7_stand_55 : decode cX7_stand 55 = .ok (.invokevirtual 142, 3) := by decide +kernel
theorem dX7_stand_58 : decode cX7_stand 58 = .ok (.ireturn, 1) := by decide +kernel
theorem dX7_stand_59 : decode cX7_stand 59 = .ok (.aload_n 0, 1) := by decide +kernel
theorem dX7_stand_60 : decode cX7_stand 60 = .ok (.aload_n 0, 1) := by decide +kernel
theorem dX7_stand_61 : decode cX7_stand 61 = .ok (.getfield 19, 3) := by decide +kernel
theorem dX7_stand_64 : decode cX7_stand 64 = .ok (.iconst 5, 1) := by decide +kernel
theorem dX7_stand_65 : decode cX7_stand 65 = .ok (.iaload, 1) := by decide +kernel
theorem dX7_stand_66 : decode cX7_stand 66 = .ok (.invokevirtual 145, 3) := by decide +kernel
theorem dX7_stand_69 : decode cX7_stand 69 = .ok (.ifCond .eq 7, 3) := by decide +kernel
theorem dX7_stand_72 : decode cX7_stand 72 = .ok (.iconst 1, 1) := by decide +kernel
theorem dX7_stand_73 : decode cX7_stand 73 = .ok (.goto 4, 3) := by decide +kernel
theorem dX7_stand_76 : decode cX7_stand 76 = .ok (.iconst 0, 1) := by decide +kernel
theorem dX7_stand_77 : decode cX7_stand 77 = .ok (.ireturn, 1) := by decide +kernel
theorem dX7_stand_78 : decode cX7_stand 78 = .ok (.aload_n 0, 1) := by decide +kernel
theorem dX7_stand_79 : decode cX7_stand 79 = .ok (.invokevirtual 172, 3) := by decide +kernel
theorem dX7_stand_82 : decode cX7_stand 82 = .ok (.ireturn, 1) := by decide +kernel
theorem dX7_stand_83 : decode cX7_stand 83 = .ok (.aload_n 0, 1) := by decide +kernel
theorem dX7_stand_84 : decode cX7_stand 84 = .ok (.getfield 19, 3) := by decide +kernel
theorem dX7_stand_87 : decode cX7_stand 87 = .ok (.iconst 2, 1) := by decide +kernel
theorem dX7_stand_88 : decode cX7_stand 88 = .ok (.iaload, 1) := by decide +kernel
theorem dX7_stand_89 : decode cX7_stand 89 = .ok (.ireturn, 1) := by decide +kernel
theorem dX7_stand_90 : decode cX7_stand 90 = .ok (.aload_n 0, 1) := by decide +kernel
theorem dX7_stand_91 : decode cX7_stand 91 = .ok (.getfield 19, 3) := by decide +kernel
theorem dX7_stand_94 : decode cX7_stand 94 = .ok (.bipush 6, 2) := by decide +kernel
theorem dX7_stand_96 : decode cX7_stand 96 = .ok (.iaload, 1) := by decide +kernel
theorem dX7_stand_97 : decode cX7_stand 97 = .ok (.ireturn, 1) := by decide +kernel
theorem dX7_stand_98 : decode cX7_stand 98 = .ok (.aload_n 0, 1) := by decide +kernel
theorem dX7_stand_99 : decode cX7_stand 99 = .ok (.invokevirtual 155, 3) := by decide +kernel
theorem dX7_stand_102 : decode cX7_stand 102 = .ok (.ireturn, 1) := by decide +kernel
theorem dX7_stand_103 : decode cX7_stand 103 = .ok (.ldc 64, 2) := by decide +kernel
theorem dX7_stand_105 : decode cX7_stand 105 = .ok (.ireturn, 1) := by decide +kernel
theorem dX7_putAside_0 : decode cX7_putAside 0 = .ok (.iconst 0, 1) := by decide +kernel
theorem dX7_putAside_1 : decode cX7_putAside 1 = .ok (.istore_n 1, 1) := by decide +kernel
theorem dX7_putAside_2 : decode cX7_putAside 2 = .ok (.iload_n 1, 1) := by decide +kernel
theorem dX7_putAside_3 : decode cX7_putAside 3 = .ok (.bipush 44, 2) := by decide +kernel
theorem dX7_putAside_5 : decode cX7_putAside 5 = .ok (.if_icmp .ge 21, 3) := by decide +kernel
theorem dX7_putAside_8 : decode cX7_putAside 8 = .ok (.aload_n 0, 1) := by decide +kernel
theorem dX7_putAside_9 : decode cX7_putAside 9 = .ok (.getfield 34, 3) := by decide +kernel
theorem dX7_putAside_12 : decode cX7_putAside 12 = .ok (.iload_n 1, 1) := by decide +kernel
theorem dX7_putAside_13 : decode cX7_putAside 13 = .ok (.aload_n 0, 1) := by decide +kernel
theorem dX7_putAside_14 : decode cX7_putAside 14 = .ok (.getfield 19, 3) := by decide +kernel
theorem dX7_putAside_17 : decode cX7_putAside 17 = .ok (.iload_n 1, 1) := by decide +kernel
theorem dX7_putAside_18 : decode cX7_putAside 18 = .ok (.iaload, 1) := by decide +kernel
theorem dX7_putAside_19 : decode cX7_putAside 19 = .ok (.iastore, 1) := by decide +kernel
theorem dX7_putAside_20 : decode cX7_putAside 20 = .ok (.iinc 1 1, 3) := by decide +kernel
theorem dX7_putAside_23 : decode cX7_putAside 23 = .ok (.goto (-21), 3) := by decide +kernel
theorem dX7_putAside_26 : decode cX7_putAside 26 = .ok (.return_, 1) := by decide +kernel
theorem dX7_takeBack_0 : decode cX7_takeBack 0 = .ok (.iconst 0, 1) := by decide +kernel
theorem dX7_takeBack_1 : decode cX7_takeBack 1 = .ok (.istore_n 1, 1) := by decide +kernel
theorem dX7_takeBack_2 : decode cX7_takeBack 2 = .ok (.iload_n 1, 1) := by decide +kernel
theorem dX7_takeBack_3 : decode cX7_takeBack 3 = .ok (.bipush 44, 2) := by decide +kernel
theorem dX7_takeBack_5 : decode cX7_takeBack 5 = .ok (.if_icmp .ge 21, 3) := by decide +kernel
theorem dX7_takeBack_8 : decode cX7_takeBack 8 = .ok (.aload_n 0, 1) := by decide +kernel
theorem dX7_takeBack_9 : decode cX7_takeBack 9 = .ok (.getfield 19, 3) := by decide +kernel
theorem dX7_takeBack_12 : decode cX7_takeBack 12 = .ok (.iload_n 1, 1) := by decide +kernel
theorem dX7_takeBack_13 : decode cX7_takeBack 13 = .ok (.aload_n 0, 1) := by decide +kernel
theorem dX7_takeBack_14 : decode cX7_takeBack 14 = .ok (.getfield 34, 3) := by decide +kernel
theorem dX7_takeBack_17 : decode cX7_takeBack 17 = .ok (.iload_n 1, 1) := by decide +kernel
theorem dX7_takeBack_18 : decode cX7_takeBack 18 = .ok (.iaload, 1) := by decide +kernel
theorem dX7_takeBack_19 : decode cX7_takeBack 19 = .ok (.iastore, 1) := by decide +kernel
theorem dX7_takeBack_20 : decode cX7_takeBack 20 = .ok (.iinc 1 1, 3) := by decide +kernel
theorem dX7_takeBack_23 : decode cX7_takeBack 23 = .ok (.goto (-21), 3) := by decide +kernel
theorem dX7_takeBack_26 : decode cX7_takeBack 26 = .ok (.return_, 1) := by decide +kernel
theorem dX7_goOn_0 : decode cX7_goOn 0 = .ok (.iconst 0, 1) := by decide +kernel
theorem dX7_goOn_1 : decode cX7_goOn 1 = .ok (.istore_n 2, 1) := by decide +kernel
theorem dX7_goOn_2 : decode cX7_goOn 2 = .ok (.iload_n 2, 1) := by decide +kernel
theorem dX7_goOn_3 : decode cX7_goOn 3 = .ok (.iload_n 1, 1) := by decide +kernel
theorem dX7_goOn_4 : decode cX7_goOn 4 = .ok (.if_icmp .ge 13, 3) := by decide +kernel
theorem dX7_goOn_7 : decode cX7_goOn 7 = .ok (.aload_n 0, 1) := by decide +kernel
theorem dX7_goOn_8 : decode cX7_goOn 8 = .ok (.invokevirtual 169, 3) := by decide +kernel
theorem dX7_goOn_11 : decode cX7_goOn 11 = .ok (.iinc 2 1, 3) := by decide +kernel
theorem dX7_goOn_14 : decode cX7_goOn 14 = .ok (.goto (-12), 3) := by decide +kernel
theorem dX7_goOn_17 : decode cX7_goOn 17 = .ok (.return_, 1) := by decide +kernel
theorem dX7_isWhat_0 : decode cX7_isWhat 0 = .ok (.iload_n 0, 1) := by decide +kernel
theorem dX7_isWhat_1 : decode cX7_isWhat 1 = .ok (.i2l, 1) := by decide +kernel
theorem dX7_isWhat_2 : decode cX7_isWhat 2 = .ok (.lconst 0, 1) := by decide +kernel
theorem dX7_isWhat_3 : decode cX7_isWhat 3 = .ok (.lconst 1, 1) := by decide +kernel
theorem dX7_isWhat_4 : decode cX7_isWhat 4 = .ok (.invokestatic 54, 3) := by decide +kernel
theorem dX7_isWhat_7 : decode cX7_isWhat 7 = .ok (.ireturn, 1) := by decide +kernel
theorem dX7_ownerBy_0 : decode cX7_ownerBy 0 = .ok (.aload_n 0, 1) := by decide +kernel
theorem dX7_ownerBy_1 : decode cX7_ownerBy 1 = .ok (.iload_n 1, 1) := by decide +kernel
theorem dX7_ownerBy_2 : decode cX7_ownerBy 2 = .ok (.invokevirtual 191, 3) := by decide +kernel
theorem dX7_ownerBy_5 : decode cX7_ownerBy 5 = .ok (.aload_n 0, 1) := by decide +kernel
theorem dX7_ownerBy_6 : decode cX7_ownerBy 6 = .ok (.getfield 19, 3) := by decide +kernel
theorem dX7_ownerBy_9 : decode cX7_ownerBy 9 = .ok (.bipush 7, 2) := by decide +kernel
theorem dX7_ownerBy_11 : decode cX7_ownerBy 11 = .ok (.iaload, 1) := by decide +kernel
theorem dX7_ownerBy_12 : decode cX7_ownerBy 12 = .ok (.istore_n 2, 1) := by decide +kernel
theorem dX7_ownerBy_13 : decode cX7_ownerBy 13 = .ok (.aload_n 0, 1) := by decide +kernel
theorem dX7_ownerBy_14 : decode cX7_ownerBy 14 = .ok (.invokevirtual 195, 3) := by decide +kernel
theorem dX7_ownerBy_17 : decode cX7_ownerBy 17 = .ok (.iload_n 2, 1) := by decide +kernel
theorem dX7_ownerBy_18 : decode cX7_ownerBy 18 = .ok (.ireturn, 1) := by decide +kernel
theorem dX7_ahead_0 : decode cX7_ahead 0 = .ok (.aload_n 0, 1) := by decide +kernel
theorem dX7_ahead_1 : decode cX7_ahead 1 = .ok (.iload_n 1, 1) := by decide +kernel
theorem dX7_ahead_2 : decode cX7_ahead 2 = .ok (.invokevirtual 175, 3) := by decide +kernel
theorem dX7_ahead_5 : decode cX7_ahead 5 = .ok (.ifCond .eq 15, 3) := by decide +kernel
theorem dX7_ahead_8 : decode cX7_ahead 8 = .ok (.iload_n 2, 1) := by decide +kernel
theorem dX7_ahead_9 : decode cX7_ahead 9 = .ok (.i2l, 1) := by decide +kernel
theorem dX7_ahead_10 : decode cX7_ahead 10 = .ok (.lconst 0, 1) := by decide +kernel
theorem dX7_ahead_11 : decode cX7_ahead 11 = .ok (.ldc2_w 198, 3) := by decide +kernel
theorem dX7_ahead_14 : decode cX7_ahead 14 = .ok (.invokestatic 54, 3) := by decide +kernel
theorem dX7_ahead_17 : decode cX7_ahead 17 = .ok (.ifCond .ne 6, 3) := by decide +kernel
theorem dX7_ahead_20 : decode cX7_ahead 20 = .ok (.ldc 64, 2) := by decide +kernel
theorem dX7_ahead_22 : decode cX7_ahead 22 = .ok (.ireturn, 1) := by decide +kernel
theorem dX7_ahead_23 : decode cX7_ahead 23 = .ok (.aload_n 0, 1) := by decide +kernel
theorem dX7_ahead_24 : decode cX7_ahead 24 = .ok (.invokevirtual 200, 3) := by decide +kernel
theorem dX7_ahead_27 : decode cX7_ahead 27 = .ok (.aload_n 0, 1) := by decide +kernel
theorem dX7_ahead_28 : decode cX7_ahead 28 = .ok (.iload_n 2, 1) := by decide +kernel
theorem dX7_ahead_29 : decode cX7_ahead 29 = .ok (.invokevirtual 191, 3) := by decide +kernel
theorem dX7_ahead_32 : decode cX7_ahead 32 = .ok (.aload_n 0, 1) := by decide +kernel
theorem dX7_ahead_33 : decode cX7_ahead 33 = .ok (.getfield 19, 3) := by decide +kernel
theorem dX7_ahead_36 : decode cX7_ahead 36 = .ok (.bipush 32, 2) := by decide +kernel
theorem dX7_ahead_38 : decode cX7_ahead 38 = .ok (.iload_n 1, 1) := by decide +kernel
theorem dX7_ahead_39 : decode cX7_ahead 39 = .ok (.iadd, 1) := by decide +kernel
theorem dX7_ahead_40 : decode cX7_ahead 40 = .ok (.iaload, 1) := by decide +kernel
theorem dX7_ahead_41 : decode cX7_ahead 41 = .ok (.istore_n 3, 1) := by decide +kernel
theorem dX7_ahead_42 : decode cX7_ahead 42 = .ok (.aload_n 0, 1) := by decide +kernel
theorem dX7_ahead_43 : decode cX7_ahead 43 = .ok (.invokevirtual 195, 3) := by decide +kernel
theorem dX7_ahead_46 : decode cX7_ahead 46 = .ok (.iload_n 3, 1) := by decide +kernel
theorem dX7_ahead_47 : decode cX7_ahead 47 = .ok (.ireturn, 1) := by decide +kernel
theorem dX7_owner_0 : decode cX7_owner 0 = .ok (.aload_n 0, 1) := by decide +kernel
theorem dX7_owner_1 : decode cX7_owner 1 = .ok (.getfield 135, 3) := by decide +kernel
theorem dX7_owner_4 : decode cX7_owner 4 = .ok (.ifCond .ne 6, 3) := by decide +kernel
theorem dX7_owner_7 : decode cX7_owner 7 = .ok (.ldc 163, 2) := by decide +kernel
theorem dX7_owner_9 : decode cX7_owner 9 = .ok (.ireturn, 1) := by decide +kernel
theorem dX7_owner_10 : decode cX7_owner 10 = .ok (.iload_n 1, 1) := by decide +kernel
theorem dX7_owner_11 : decode cX7_owner 11 = .ok (.i2l, 1) := by decide +kernel
theorem dX7_owner_12 : decode cX7_owner 12 = .ok (.lconst 0, 1) := by decide +kernel
theorem dX7_owner_13 : decode cX7_owner 13 = .ok (.ldc2_w 198, 3) := by decide +kernel
theorem dX7_owner_16 : decode cX7_owner 16 = .ok (.invokestatic 54, 3) := by decide +kernel
theorem dX7_owner_19 : decode cX7_owner 19 = .ok (.ifCond .ne 6, 3) := by decide +kernel
theorem dX7_owner_22 : decode cX7_owner 22 = .ok (.ldc 64, 2) := by decide +kernel
theorem dX7_owner_24 : decode cX7_owner 24 = .ok (.ireturn, 1) := by decide +kernel
theorem dX7_owner_25 : decode cX7_owner 25 = .ok (.aload_n 0, 1) := by decide +kernel
theorem dX7_owner_26 : decode cX7_owner 26 = .ok (.invokevirtual 200, 3) := by decide +kernel
theorem dX7_owner_29 : decode cX7_owner 29 = .ok (.aload_n 0, 1) := by decide +kernel
theorem dX7_owner_30 : decode cX7_owner 30 = .ok (.iload_n 1, 1) := by decide +kernel
theorem dX7_owner_31 : decode cX7_owner 31 = .ok (.invokevirtual 203, 3) := by decide +kernel
theorem dX7_owner_34 : decode cX7_owner 34 = .ok (.istore_n 2, 1) := by decide +kernel
theorem dX7_owner_35 : decode cX7_owner 35 = .ok (.iload_n 2, 1) := by decide +kernel
theorem dX7_owner_36 : decode cX7_owner 36 = .ok (.ifCond .ge 8, 3) := by decide +kernel
theorem dX7_owner_39 : decode cX7_owner 39 = .ok (.ldc 162, 2) := by decide +kernel
theorem dX7_owner_41 : decode cX7_owner 41 = .ok (.goto 4, 3) := by decide +kernel
theorem dX7_owner_44 : decode cX7_owner 44 = .ok (.iload_n 2, 1) := by decide +kernel
theorem dX7_owner_45 : decode cX7_owner 45 = .ok (.ireturn, 1) := by decide +kernel
theorem dX7_held_0 : decode cX7_held 0 = .ok (.aload_n 0, 1) := by decide +kernel
theorem dX7_held_1 : decode cX7_held 1 = .ok (.iload_n 1, 1) := by decide +kernel
theorem dX7_held_2 : decode cX7_held 2 = .ok (.invokevirtual 175, 3) := by decide +kernel
theorem dX7_held_5 : decode cX7_held 5 = .ok (.ifCond .eq 15, 3) := by decide +kernel
theorem dX7_held_8 : decode cX7_held 8 = .ok (.iload_n 2, 1) := by decide +kernel
theorem dX7_held_9 : decode cX7_held 9 = .ok (.i2l, 1) := by decide +kernel
theorem dX7_held_10 : decode cX7_held 10 = .ok (.lconst 0, 1) := by decide +kernel
theorem dX7_held_11 : decode cX7_held 11 = .ok (.ldc2_w 198, 3) := by decide +kernel
theorem dX7_held_14 : decode cX7_held 14 = .ok (.invokestatic 54, 3) := by decide +kernel
theorem dX7_held_17 : decode cX7_held 17 = .ok (.ifCond .ne 6, 3) := by decide +kernel
theorem dX7_held_20 : decode cX7_held 20 = .ok (.ldc 64, 2) := by decide +kernel
theorem dX7_held_22 : decode cX7_held 22 = .ok (.ireturn, 1) := by decide +kernel
theorem dX7_held_23 : decode cX7_held 23 = .ok (.aload_n 0, 1) := by decide +kernel
theorem dX7_held_24 : decode cX7_held 24 = .ok (.invokevirtual 200, 3) := by decide +kernel
theorem dX7_held_27 : decode cX7_held 27 = .ok (.aload_n 0, 1) := by decide +kernel
theorem dX7_held_28 : decode cX7_held 28 = .ok (.iload_n 2, 1) := by decide +kernel
theorem dX7_held_29 : decode cX7_held 29 = .ok (.invokevirtual 191, 3) := by decide +kernel
theorem dX7_held_32 : decode cX7_held 32 = .ok (.aload_n 0, 1) := by decide +kernel
theorem dX7_held_33 : decode cX7_held 33 = .ok (.getfield 19, 3) := by decide +kernel
theorem dX7_held_36 : decode cX7_held 36 = .ok (.bipush 38, 2) := by decide +kernel
theorem dX7_held_38 : decode cX7_held 38 = .ok (.iload_n 1, 1) := by decide +kernel
theorem dX7_held_39 : decode cX7_held 39 = .ok (.iadd, 1) := by decide +kernel
theorem dX7_held_40 : decode cX7_held 40 = .ok (.iaload, 1) := by decide +kernel
theorem dX7_held_41 : decode cX7_held 41 = .ok (.istore_n 3, 1) := by decide +kernel
theorem dX7_held_42 : decode cX7_held 42 = .ok (.aload_n 0, 1) := by decide +kernel
theorem dX7_held_43 : decode cX7_held 43 = .ok (.invokevirtual 195, 3) := by decide +kernel
theorem dX7_held_46 : decode cX7_held 46 = .ok (.iload_n 3, 1) := by decide +kernel
theorem dX7_held_47 : decode cX7_held 47 = .ok (.ireturn, 1) := by decide +kernel
theorem dX7_shows_0 : decode cX7_shows 0 = .ok (.aload_n 0, 1) := by decide +kernel
theorem dX7_shows_1 : decode cX7_shows 1 = .ok (.getfield 135, 3) := by decide +kernel
theorem dX7_shows_4 : decode cX7_shows 4 = .ok (.ifCond .ne 6, 3) := by decide +kernel
theorem dX7_shows_7 : decode cX7_shows 7 = .ok (.ldc 163, 2) := by decide +kernel
theorem dX7_shows_9 : decode cX7_shows 9 = .ok (.ireturn, 1) := by decide +kernel
theorem dX7_shows_10 : decode cX7_shows 10 = .ok (.iconst 0, 1) := by decide +kernel
theorem dX7_shows_11 : decode cX7_shows 11 = .ok (.istore_n 1, 1) := by decide +kernel
theorem dX7_shows_12 : decode cX7_shows 12 = .ok (.iload_n 1, 1) := by decide +kernel
theorem dX7_shows_13 : decode cX7_shows 13 = .ok (.bipush 60, 2) := by decide +kernel
theorem dX7_shows_15 : decode cX7_shows 15 = .ok (.if_icmp .gt 26, 3) := by decide +kernel
theorem dX7_shows_18 : decode cX7_shows 18 = .ok (.aload_n 0, 1) := by decide +kernel
theorem dX7_shows_19 : decode cX7_shows 19 = .ok (.aload_n 0, 1) := by decide +kernel
theorem dX7_shows_20 : decode cX7_shows 20 = .ok (.getfield 19, 3) := by decide +kernel
theorem dX7_shows_23 : decode cX7_shows 23 = .ok (.iconst 5, 1) := by decide +kernel
theorem dX7_shows_24 : decode cX7_shows 24 = .ok (.iaload, 1) := by decide +kernel
theorem dX7_shows_25 : decode cX7_shows 25 = .ok (.iload_n 1, 1) := by decide +kernel
theorem dX7_shows_26 : decode cX7_shows 26 = .ok (.iadd, 1) := by decide +kernel
theorem dX7_shows_27 : decode cX7_shows 27 = .ok (.invokevirtual 145, 3) := by decide +kernel
theorem dX7_shows_30 : decode cX7_shows 30 = .ok (.ifCond .eq 5, 3) := by decide +kernel
theorem dX7_shows_33 : decode cX7_shows 33 = .ok (.iload_n 1, 1) := by decide +kernel
theorem dX7_shows_34 : decode cX7_shows 34 = .ok (.ireturn, 1) := by decide +kernel
theorem dX7_shows_35 : decode cX7_shows 35 = .ok (.iinc 1 1, 3) := by decide +kernel
theorem dX7_shows_38 : decode cX7_shows 38 = .ok (.goto (-26), 3) := by decide +kernel
theorem dX7_shows_41 : decode cX7_shows 41 = .ok (.ldc 162, 2) := by decide +kernel
theorem dX7_shows_43 : decode cX7_shows 43 = .ok (.ireturn, 1) := by decide +kernel
theorem dX7_dry_0 : decode cX7_dry 0 = .ok (.aload_n 0, 1) := by decide +kernel
theorem dX7_dry_1 : decode cX7_dry 1 = .ok (.getfield 135, 3) := by decide +kernel
theorem dX7_dry_4 : decode cX7_dry 4 = .ok (.ifCond .ne 6, 3) := by decide +kernel
theorem dX7_dry_7 : decode cX7_dry 7 = .ok (.ldc 163, 2) := by decide +kernel
theorem dX7_dry_9 : decode cX7_dry 9 = .ok (.ireturn, 1) := by decide +kernel
theorem dX7_dry_10 : decode cX7_dry 10 = .ok (.iload_n 1, 1) := by decide +kernel
theorem dX7_dry_11 : decode cX7_dry 11 = .ok (.i2l, 1) := by decide +kernel
theorem dX7_dry_12 : decode cX7_dry 12 = .ok (.lconst 1, 1) := by decide +kernel
theorem dX7_dry_13 : decode cX7_dry 13 = .ok (.ldc2_w 198, 3) := by decide +kernel
theorem dX7_dry_16 : decode cX7_dry 16 = .ok (.invokestatic 54, 3) := by decide +kernel
theorem dX7_dry_19 : decode cX7_dry 19 = .ok (.ifCond .ne 6, 3) := by decide +kernel
theorem dX7_dry_22 : decode cX7_dry 22 = .ok (.ldc 64, 2) := by decide +kernel
theorem dX7_dry_24 : decode cX7_dry 24 = .ok (.ireturn, 1) := by decide +kernel
theorem dX7_dry_25 : decode cX7_dry 25 = .ok (.iconst 0, 1) := by decide +kernel
theorem dX7_dry_26 : decode cX7_dry 26 = .ok (.istore_n 2, 1) := by decide +kernel
theorem dX7_dry_27 : decode cX7_dry 27 = .ok (.iconst 0, 1) := by decide +kernel
theorem dX7_dry_28 : decode cX7_dry 28 = .ok (.istore_n 3, 1) := by decide +kernel
theorem dX7_dry_29 : decode cX7_dry 29 = .ok (.iload_n 3, 1) := by decide +kernel
theorem dX7_dry_30 : decode cX7_dry 30 = .ok (.iload_n 1, 1) := by decide +kernel
theorem dX7_dry_31 : decode cX7_dry 31 = .ok (.if_icmp .ge 24, 3) := by decide +kernel
theorem dX7_dry_34 : decode cX7_dry 34 = .ok (.iload_n 2, 1) := by decide +kernel
theorem dX7_dry_35 : decode cX7_dry 35 = .ok (.aload_n 0, 1) := by decide +kernel
theorem dX7_dry_36 : decode cX7_dry 36 = .ok (.aload_n 0, 1) := by decide +kernel
theorem dX7_dry_37 : decode cX7_dry 37 = .ok (.getfield 19, 3) := by decide +kernel
theorem dX7_dry_40 : decode cX7_dry 40 = .ok (.iconst 5, 1) := by decide +kernel
theorem dX7_dry_41 : decode cX7_dry 41 = .ok (.iaload, 1) := by decide +kernel
theorem dX7_dry_42 : decode cX7_dry 42 = .ok (.iload_n 3, 1) := by decide +kernel
theorem dX7_dry_43 : decode cX7_dry 43 = .ok (.iadd, 1) := by decide +kernel
theorem dX7_dry_44 : decode cX7_dry 44 = .ok (.invokevirtual 145, 3) := by decide +kernel
theorem dX7_dry_47 : decode cX7_dry 47 = .ok (.ior, 1) := by decide +kernel
theorem dX7_dry_48 : decode cX7_dry 48 = .ok (.istore_n 2, 1) := by decide +kernel
theorem dX7_dry_49 : decode cX7_dry 49 = .ok (.iinc 3 1, 3) := by decide +kernel
theorem dX7_dry_52 : decode cX7_dry 52 = .ok (.goto (-23), 3) := by decide +kernel
theorem dX7_dry_55 : decode cX7_dry 55 = .ok (.iload_n 2, 1) := by decide +kernel
theorem dX7_dry_56 : decode cX7_dry 56 = .ok (.ireturn, 1) := by decide +kernel
theorem dX7_openIn_0 : decode cX7_openIn 0 = .ok (.iconst 0, 1) := by decide +kernel
theorem dX7_openIn_1 : decode cX7_openIn 1 = .ok (.istore_n 2, 1) := by decide +kernel
theorem dX7_openIn_2 : decode cX7_openIn 2 = .ok (.iconst 0, 1) := by decide +kernel
theorem dX7_openIn_3 : decode cX7_openIn 3 = .ok (.istore_n 3, 1) := by decide +kernel
theorem dX7_openIn_4 : decode cX7_openIn 4 = .ok (.iload_n 3, 1) := by decide +kernel
theorem dX7_openIn_5 : decode cX7_openIn 5 = .ok (.iload_n 1, 1) := by decide +kernel
theorem dX7_openIn_6 : decode cX7_openIn 6 = .ok (.if_icmp .ge 32, 3) := by decide +kernel
theorem dX7_openIn_9 : decode cX7_openIn 9 = .ok (.iload_n 2, 1) := by decide +kernel
theorem dX7_openIn_10 : decode cX7_openIn 10 = .ok (.aload_n 0, 1) := by decide +kernel
theorem dX7_openIn_11 : decode cX7_openIn 11 = .ok (.aload_n 0, 1) := by decide +kernel
theorem dX7_openIn_12 : decode cX7_openIn 12 = .ok (.getfield 19, 3) := by decide +kernel
theorem dX7_openIn_15 : decode cX7_openIn 15 = .ok (.iconst 5, 1) := by decide +kernel
theorem dX7_openIn_16 : decode cX7_openIn 16 = .ok (.iaload, 1) := by decide +kernel
theorem dX7_openIn_17 : decode cX7_openIn 17 = .ok (.iload_n 3, 1) := by decide +kernel
theorem dX7_openIn_18 : decode cX7_openIn 18 = .ok (.iadd, 1) := by decide +kernel
theorem dX7_openIn_19 : decode cX7_openIn 19 = .ok (.invokevirtual 145, 3) := by decide +kernel
theorem dX7_openIn_22 : decode cX7_openIn 22 = .ok (.ifCond .eq 7, 3) := by decide +kernel
theorem dX7_openIn_25 : decode cX7_openIn 25 = .ok (.iconst 1, 1) := by decide +kernel
theorem dX7_openIn_26 : decode cX7_openIn 26 = .ok (.goto 4, 3) := by decide +kernel
theorem dX7_openIn_29 : decode cX7_openIn 29 = .ok (.iconst 0, 1) := by decide +kernel
theorem dX7_openIn_30 : decode cX7_openIn 30 = .ok (.iadd, 1) := by decide +kernel
theorem dX7_openIn_31 : decode cX7_openIn 31 = .ok (.istore_n 2, 1) := by decide +kernel
theorem dX7_openIn_32 : decode cX7_openIn 32 = .ok (.iinc 3 1, 3) := by decide +kernel
theorem dX7_openIn_35 : decode cX7_openIn 35 = .ok (.goto (-31), 3) := by decide +kernel
theorem dX7_openIn_38 : decode cX7_openIn 38 = .ok (.iload_n 2, 1) := by decide +kernel
theorem dX7_openIn_39 : decode cX7_openIn 39 = .ok (.ireturn, 1) := by decide +kernel
theorem dX7_open_0 : decode cX7_open 0 = .ok (.aload_n 0, 1) := by decide +kernel
theorem dX7_open_1 : decode cX7_open 1 = .ok (.getfield 135, 3) := by decide +kernel
theorem dX7_open_4 : decode cX7_open 4 = .ok (.ifCond .ne 8, 3) := by decide +kernel
theorem dX7_open_7 : decode cX7_open 7 = .ok (.ldc 163, 2) := by decide +kernel
theorem dX7_open_9 : decode cX7_open 9 = .ok (.goto 25, 3) := by decide +kernel
theorem dX7_open_12 : decode cX7_open 12 = .ok (.iload_n 1, 1) := by decide +kernel
theorem dX7_open_13 : decode cX7_open 13 = .ok (.i2l, 1) := by decide +kernel
theorem dX7_open_14 : decode cX7_open 14 = .ok (.lconst 1, 1) := by decide +kernel
theorem dX7_open_15 : decode cX7_open 15 = .ok (.ldc2_w 198, 3) := by decide +kernel
theorem dX7_open_18 : decode cX7_open 18 = .ok (.invokestatic 54, 3) := by decide +kernel
theorem dX7_open_21 : decode cX7_open 21 = .ok (.ifCond .ne 8, 3) := by decide +kernel
theorem dX7_open_24 : decode cX7_open 24 = .ok (.ldc 64, 2) := by decide +kernel
theorem dX7_open_26 : decode cX7_open 26 = .ok (.goto 8, 3) := by decide +kernel
theorem dX7_open_29 : decode cX7_open 29 = .ok (.aload_n 0, 1) := by decide +kernel
theorem dX7_open_30 : decode cX7_open 30 = .ok (.iload_n 1, 1) := by decide +kernel
theorem dX7_open_31 : decode cX7_open 31 = .ok (.invokevirtual 206, 3) := by decide +kernel
theorem dX7_open_34 : decode cX7_open 34 = .ok (.ireturn, 1) := by decide +kernel
theorem dX7_first_0 : decode cX7_first 0 = .ok (.aload_n 0, 1) := by decide +kernel
theorem dX7_first_1 : decode cX7_first 1 = .ok (.getfield 135, 3) := by decide +kernel
theorem dX7_first_4 : decode cX7_first 4 = .ok (.ifCond .ne 6, 3) := by decide +kernel
theorem dX7_first_7 : decode cX7_first 7 = .ok (.ldc 163, 2) := by decide +kernel
theorem dX7_first_9 : decode cX7_first 9 = .ok (.ireturn, 1) := by decide +kernel
theorem dX7_first_10 : decode cX7_first 10 = .ok (.iload_n 1, 1) := by decide +kernel
theorem dX7_first_11 : decode cX7_first 11 = .ok (.i2l, 1) := by decide +kernel
theorem dX7_first_12 : decode cX7_first 12 = .ok (.lconst 1, 1) := by decide +kernel
theorem dX7_first_13 : decode cX7_first 13 = .ok (.ldc2_w 198, 3) := by decide +kernel
theorem dX7_first_16 : decode cX7_first 16 = .ok (.invokestatic 54, 3) := by decide +kernel
theorem dX7_first_19 : decode cX7_first 19 = .ok (.ifCond .ne 6, 3) := by decide +kernel
theorem dX7_first_22 : decode cX7_first 22 = .ok (.ldc 64, 2) := by decide +kernel
theorem dX7_first_24 : decode cX7_first 24 = .ok (.ireturn, 1) := by decide +kernel
theorem dX7_first_25 : decode cX7_first 25 = .ok (.aload_n 0, 1) := by decide +kernel
theorem dX7_first_26 : decode cX7_first 26 = .ok (.invokevirtual 200, 3) := by decide +kernel
theorem dX7_first_29 : decode cX7_first 29 = .ok (.iconst 0, 1) := by decide +kernel
theorem dX7_first_30 : decode cX7_first 30 = .ok (.istore_n 2, 1) := by decide +kernel
theorem dX7_first_31 : decode cX7_first 31 = .ok (.iload_n 2, 1) := by decide +kernel
theorem dX7_first_32 : decode cX7_first 32 = .ok (.iload_n 1, 1) := by decide +kernel
theorem dX7_first_33 : decode cX7_first 33 = .ok (.if_icmp .ge 23, 3) := by decide +kernel
theorem dX7_first_36 : decode cX7_first 36 = .ok (.aload_n 0, 1) := by decide +kernel
theorem dX7_first_37 : decode cX7_first 37 = .ok (.getfield 19, 3) := by decide +kernel
theorem dX7_first_40 : decode cX7_first 40 = .ok (.bipush 7, 2) := by decide +kernel
theorem dX7_first_42 : decode cX7_first 42 = .ok (.iaload, 1) := by decide +kernel
theorem dX7_first_43 : decode cX7_first 43 = .ok (.ifCond .ge 13, 3) := by decide +kernel
theorem dX7_first_46 : decode cX7_first 46 = .ok (.aload_n 0, 1) := by decide +kernel
theorem dX7_first_47 : decode cX7_first 47 = .ok (.invokevirtual 169, 3) := by decide +kernel
theorem dX7_first_50 : decode cX7_first 50 = .ok (.iinc 2 1, 3) := by decide +kernel
theorem dX7_first_53 : decode cX7_first 53 = .ok (.goto (-22), 3) := by decide +kernel
theorem dX7_first_56 : decode cX7_first 56 = .ok (.aload_n 0, 1) := by decide +kernel
theorem dX7_first_57 : decode cX7_first 57 = .ok (.invokevirtual 172, 3) := by decide +kernel
theorem dX7_first_60 : decode cX7_first 60 = .ok (.istore_n 2, 1) := by decide +kernel
theorem dX7_first_61 : decode cX7_first 61 = .ok (.aload_n 0, 1) := by decide +kernel
theorem dX7_first_62 : decode cX7_first 62 = .ok (.invokevirtual 195, 3) := by decide +kernel
theorem dX7_first_65 : decode cX7_first 65 = .ok (.iload_n 2, 1) := by decide +kernel
theorem dX7_first_66 : decode cX7_first 66 = .ok (.ireturn, 1) := by decide +kernel
theorem dX7_latest_0 : decode cX7_latest 0 = .ok (.aload_n 0, 1) := by decide +kernel
theorem dX7_latest_1 : decode cX7_latest 1 = .ok (.iload_n 1, 1) := by decide +kernel
theorem dX7_latest_2 : decode cX7_latest 2 = .ok (.invokevirtual 175, 3) := by decide +kernel
theorem dX7_latest_5 : decode cX7_latest 5 = .ok (.ifCond .eq 15, 3) := by decide +kernel
theorem dX7_latest_8 : decode cX7_latest 8 = .ok (.iload_n 2, 1) := by decide +kernel
theorem dX7_latest_9 : decode cX7_latest 9 = .ok (.i2l, 1) := by decide +kernel
theorem dX7_latest_10 : decode cX7_latest 10 = .ok (.lconst 1, 1) := by decide +kernel
theorem dX7_latest_11 : decode cX7_latest 11 = .ok (.ldc2_w 187, 3) := by decide +kernel
theorem dX7_latest_14 : decode cX7_latest 14 = .ok (.invokestatic 54, 3) := by decide +kernel
theorem dX7_latest_17 : decode cX7_latest 17 = .ok (.ifCond .ne 6, 3) := by decide +kernel
theorem dX7_latest_20 : decode cX7_latest 20 = .ok (.ldc 64, 2) := by decide +kernel
theorem dX7_latest_22 : decode cX7_latest 22 = .ok (.ireturn, 1) := by decide +kernel
theorem dX7_latest_23 : decode cX7_latest 23 = .ok (.aload_n 0, 1) := by decide +kernel
theorem dX7_latest_24 : decode cX7_latest 24 = .ok (.getfield 19, 3) := by decide +kernel
theorem dX7_latest_27 : decode cX7_latest 27 = .ok (.bipush 6, 2) := by decide +kernel
theorem dX7_latest_29 : decode cX7_latest 29 = .ok (.iaload, 1) := by decide +kernel
theorem dX7_latest_30 : decode cX7_latest 30 = .ok (.iload_n 1, 1) := by decide +kernel
theorem dX7_latest_31 : decode cX7_latest 31 = .ok (.invokestatic 148, 3) := by decide +kernel
theorem dX7_latest_34 : decode cX7_latest 34 = .ok (.ifCond .eq 6, 3) := by decide +kernel
theorem dX7_latest_37 : decode cX7_latest 37 = .ok (.ldc 163, 2) := by decide +kernel
theorem dX7_latest_39 : decode cX7_latest 39 = .ok (.ireturn, 1) := by decide +kernel
theorem dX7_latest_40 : decode cX7_latest 40 = .ok (.aload_n 0, 1) := by decide +kernel
theorem dX7_latest_41 : decode cX7_latest 41 = .ok (.invokevirtual 200, 3) := by decide +kernel
theorem dX7_latest_44 : decode cX7_latest 44 = .ok (.ldc 162, 2) := by decide +kernel
theorem dX7_latest_46 : decode cX7_latest 46 = .ok (.istore_n 3, 1) := by decide +kernel
theorem dX7_latest_47 : decode cX7_latest 47 = .ok (.iload_n 2, 1) := by decide +kernel
theorem dX7_latest_48 : decode cX7_latest 48 = .ok (.iconst 1, 1) := by decide +kernel
theorem dX7_latest_49 : decode cX7_latest 49 = .ok (.isub, 1) := by decide +kernel
theorem dX7_latest_50 : decode cX7_latest 50 = .ok (.istore 4, 2) := by decide +kernel
theorem dX7_latest_52 : decode cX7_latest 52 = .ok (.iload 4, 2) := by decide +kernel
theorem dX7_latest_54 : decode cX7_latest 54 = .ok (.ifCond .lt 51, 3) := by decide +kernel
theorem dX7_latest_57 : decode cX7_latest 57 = .ok (.iload_n 3, 1) := by decide +kernel
theorem dX7_latest_58 : decode cX7_latest 58 = .ok (.ifCond .ge 47, 3) := by decide +kernel
theorem dX7_latest_61 : decode cX7_latest 61 = .ok (.aload_n 0, 1) := by decide +kernel
theorem dX7_latest_62 : decode cX7_latest 62 = .ok (.iload 4, 2) := by decide +kernel
theorem dX7_latest_64 : decode cX7_latest 64 = .ok (.invokevirtual 191, 3) := by decide +kernel
theorem dX7_latest_67 : decode cX7_latest 67 = .ok (.aload_n 0, 1) := by decide +kernel
theorem dX7_latest_68 : decode cX7_latest 68 = .ok (.getfield 19, 3) := by decide +kernel
theorem dX7_latest_71 : decode cX7_latest 71 = .ok (.bipush 6, 2) := by decide +kernel
theorem dX7_latest_73 : decode cX7_latest 73 = .ok (.dup2, 1) := by decide +kernel
theorem dX7_latest_74 : decode cX7_latest 74 = .ok (.iaload, 1) := by decide +kernel
theorem dX7_latest_75 : decode cX7_latest 75 = .ok (.iconst 1, 1) := by decide +kernel
theorem dX7_latest_76 : decode cX7_latest 76 = .ok (.iload_n 1, 1) := by decide +kernel
theorem dX7_latest_77 : decode cX7_latest 77 = .ok (.ishl, 1) := by decide +kernel
theorem dX7_latest_78 : decode cX7_latest 78 = .ok (.ior, 1) := by decide +kernel
theorem dX7_latest_79 : decode cX7_latest 79 = .ok (.iastore, 1) := by decide +kernel
theorem dX7_latest_80 : decode cX7_latest 80 = .ok (.aload_n 0, 1) := by decide +kernel
theorem dX7_latest_81 : decode cX7_latest 81 = .ok (.iload_n 2, 1) := by decide +kernel
theorem dX7_latest_82 : decode cX7_latest 82 = .ok (.iload 4, 2) := by decide +kernel
theorem dX7_latest_84 : decode cX7_latest 84 = .ok (.isub, 1) := by decide +kernel
theorem dX7_latest_85 : decode cX7_latest 85 = .ok (.invokevirtual 203, 3) := by decide +kernel
theorem dX7_latest_88 : decode cX7_latest 88 = .ok (.iload_n 1, 1) := by decide +kernel
theorem dX7_latest_89 : decode cX7_latest 89 = .ok (.if_icmp .ne 8, 3) := by decide +kernel
theorem dX7_latest_92 : decode cX7_latest 92 = .ok (.iload 4, 2) := by decide +kernel
theorem dX7_latest_94 : decode cX7_latest 94 = .ok (.goto 4, 3) := by decide +kernel
theorem dX7_latest_97 : decode cX7_latest 97 = .ok (.iload_n 3, 1) := by decide +kernel
theorem dX7_latest_98 : decode cX7_latest 98 = .ok (.istore_n 3, 1) := by decide +kernel
theorem dX7_latest_99 : decode cX7_latest 99 = .ok (.iinc 4 (-1), 3) := by decide +kernel
theorem dX7_latest_102 : decode cX7_latest 102 = .ok (.goto (-50), 3) := by decide +kernel
theorem dX7_latest_105 : decode cX7_latest 105 = .ok (.iload_n 3, 1) := by decide +kernel
theorem dX7_latest_106 : decode cX7_latest 106 = .ok (.ireturn, 1) := by decide +kernel
theorem dX7_winds_0 : decode cX7_winds 0 = .ok (.aload_n 0, 1) := by decide +kernel
theorem dX7_winds_1 : decode cX7_winds 1 = .ok (.iload_n 1, 1) := by decide +kernel
theorem dX7_winds_2 : decode cX7_winds 2 = .ok (.invokevirtual 175, 3) := by decide +kernel
theorem dX7_winds_5 : decode cX7_winds 5 = .ok (.ifCond .eq 15, 3) := by decide +kernel
theorem dX7_winds_8 : decode cX7_winds 8 = .ok (.iload_n 2, 1) := by decide +kernel
theorem dX7_winds_9 : decode cX7_winds 9 = .ok (.i2l, 1) := by decide +kernel
theorem dX7_winds_10 : decode cX7_winds 10 = .ok (.lconst 1, 1) := by decide +kernel
theorem dX7_winds_11 : decode cX7_winds 11 = .ok (.ldc2_w 198, 3) := by decide +kernel
theorem dX7_winds_14 : decode cX7_winds 14 = .ok (.invokestatic 54, 3) := by decide +kernel
theorem dX7_winds_17 : decode cX7_winds 17 = .ok (.ifCond .ne 6, 3) := by decide +kernel
theorem dX7_winds_20 : decode cX7_winds 20 = .ok (.ldc 64, 2) := by decide +kernel
theorem dX7_winds_22 : decode cX7_winds 22 = .ok (.ireturn, 1) := by decide +kernel
theorem dX7_winds_23 : decode cX7_winds 23 = .ok (.aload_n 0, 1) := by decide +kernel
theorem dX7_winds_24 : decode cX7_winds 24 = .ok (.invokevirtual 200, 3) := by decide +kernel
theorem dX7_winds_27 : decode cX7_winds 27 = .ok (.iconst 0, 1) := by decide +kernel
theorem dX7_winds_28 : decode cX7_winds 28 = .ok (.istore_n 3, 1) := by decide +kernel
theorem dX7_winds_29 : decode cX7_winds 29 = .ok (.iconst 0, 1) := by decide +kernel
theorem dX7_winds_30 : decode cX7_winds 30 = .ok (.istore 4, 2) := by decide +kernel
theorem dX7_winds_32 : decode cX7_winds 32 = .ok (.iload 4, 2) := by decide +kernel
theorem dX7_winds_34 : decode cX7_winds 34 = .ok (.iconst 4, 1) := by decide +kernel
theorem dX7_winds_35 : decode cX7_winds 35 = .ok (.if_icmp .ge 37, 3) := by decide +kernel
theorem dX7_winds_38 : decode cX7_winds 38 = .ok (.aload_n 0, 1) := by decide +kernel
theorem dX7_winds_39 : decode cX7_winds 39 = .ok (.getfield 19, 3) := by decide +kernel
theorem dX7_winds_42 : decode cX7_winds 42 = .ok (.iconst 2, 1) := by decide +kernel
theorem dX7_winds_43 : decode cX7_winds 43 = .ok (.iload 4, 2) := by decide +kernel
theorem dX7_winds_45 : decode cX7_winds 45 = .ok (.iastore, 1) := by decide +kernel
theorem dX7_winds_46 : decode cX7_winds 46 = .ok (.iload_n 3, 1) := by decide +kernel
theorem dX7_winds_47 : decode cX7_winds 47 = .ok (.aload_n 0, 1) := by decide +kernel
theorem dX7_winds_48 : decode cX7_winds 48 = .ok (.iload_n 2, 1) := by decide +kernel
theorem dX7_winds_49 : decode cX7_winds 49 = .ok (.invokevirtual 203, 3) := by decide +kernel
theorem dX7_winds_52 : decode cX7_winds 52 = .ok (.iload_n 1, 1) := by decide +kernel
theorem dX7_winds_53 : decode cX7_winds 53 = .ok (.if_icmp .ne 10, 3) := by decide +kernel
theorem dX7_winds_56 : decode cX7_winds 56 = .ok (.iconst 1, 1) := by decide +kernel
theorem dX7_winds_57 : decode cX7_winds 57 = .ok (.iload 4, 2) := by decide +kernel
theorem dX7_winds_59 : decode cX7_winds 59 = .ok (.ishl, 1) := by decide +kernel
theorem dX7_winds_60 : decode cX7_winds 60 = .ok (.goto 4, 3) := by decide +kernel
theorem dX7_winds_63 : decode cX7_winds 63 = .ok (.iconst 0, 1) := by decide +kernel
theorem dX7_winds_64 : decode cX7_winds 64 = .ok (.ior, 1) := by decide +kernel
theorem dX7_winds_65 : decode cX7_winds 65 = .ok (.istore_n 3, 1) := by decide +kernel
theorem dX7_winds_66 : decode cX7_winds 66 = .ok (.iinc 4 1, 3) := by decide +kernel
theorem dX7_winds_69 : decode cX7_winds 69 = .ok (.goto (-37), 3) := by decide +kernel
theorem dX7_winds_72 : decode cX7_winds 72 = .ok (.iload_n 3, 1) := by decide +kernel
theorem dX7_winds_73 : decode cX7_winds 73 = .ok (.ireturn, 1) := by decide +kernel
theorem dX7_recall_0 : decode cX7_recall 0 = .ok (.aload_n 0, 1) := by decide +kernel
theorem dX7_recall_1 : decode cX7_recall 1 = .ok (.iload_n 1, 1) := by decide +kernel
theorem dX7_recall_2 : decode cX7_recall 2 = .ok (.invokevirtual 175, 3) := by decide +kernel
theorem dX7_recall_5 : decode cX7_recall 5 = .ok (.ifCond .eq 22, 3) := by decide +kernel
theorem dX7_recall_8 : decode cX7_recall 8 = .ok (.iload_n 2, 1) := by decide +kernel
theorem dX7_recall_9 : decode cX7_recall 9 = .ok (.i2l, 1) := by decide +kernel
theorem dX7_recall_10 : decode cX7_recall 10 = .ok (.lconst 1, 1) := by decide +kernel
theorem dX7_recall_11 : decode cX7_recall 11 = .ok (.ldc2_w 187, 3) := by decide +kernel
theorem dX7_recall_14 : decode cX7_recall 14 = .ok (.invokestatic 54, 3) := by decide +kernel
theorem dX7_recall_17 : decode cX7_recall 17 = .ok (.ifCond .eq 10, 3) := by decide +kernel
theorem dX7_recall_20 : decode cX7_recall 20 = .ok (.iload_n 3, 1) := by decide +kernel
theorem dX7_recall_21 : decode cX7_recall 21 = .ok (.invokestatic 209, 3) := by decide +kernel
theorem dX7_recall_24 : decode cX7_recall 24 = .ok (.ifCond .ne 6, 3) := by decide +kernel
theorem dX7_recall_27 : decode cX7_recall 27 = .ok (.ldc 64, 2) := by decide +kernel
theorem dX7_recall_29 : decode cX7_recall 29 = .ok (.ireturn, 1) := by decide +kernel
theorem dX7_recall_30 : decode cX7_recall 30 = .ok (.aload_n 0, 1) := by decide +kernel
theorem dX7_recall_31 : decode cX7_recall 31 = .ok (.invokevirtual 200, 3) := by decide +kernel
theorem dX7_recall_34 : decode cX7_recall 34 = .ok (.aload_n 0, 1) := by decide +kernel
theorem dX7_recall_35 : decode cX7_recall 35 = .ok (.getfield 19, 3) := by decide +kernel
theorem dX7_recall_38 : decode cX7_recall 38 = .ok (.bipush 6, 2) := by decide +kernel
theorem dX7_recall_40 : decode cX7_recall 40 = .ok (.iaload, 1) := by decide +kernel
theorem dX7_recall_41 : decode cX7_recall 41 = .ok (.iconst 1, 1) := by decide +kernel
theorem dX7_recall_42 : decode cX7_recall 42 = .ok (.iload_n 1, 1) := by decide +kernel
theorem dX7_recall_43 : decode cX7_recall 43 = .ok (.ishl, 1) := by decide +kernel
theorem dX7_recall_44 : decode cX7_recall 44 = .ok (.iconst (-1), 1) := by decide +kernel
theorem dX7_recall_45 : decode cX7_recall 45 = .ok (.ixor, 1) := by decide +kernel
theorem dX7_recall_46 : decode cX7_recall 46 = .ok (.iand, 1) := by decide +kernel
theorem dX7_recall_47 : decode cX7_recall 47 = .ok (.istore 4, 2) := by decide +kernel
theorem dX7_recall_49 : decode cX7_recall 49 = .ok (.ldc 162, 2) := by decide +kernel
theorem dX7_recall_51 : decode cX7_recall 51 = .ok (.istore 5, 2) := by decide +kernel
theorem dX7_recall_53 : decode cX7_recall 53 = .ok (.iconst 0, 1) := by decide +kernel
theorem dX7_recall_54 : decode cX7_recall 54 = .ok (.istore 6, 2) := by decide +kernel
theorem dX7_recall_56 : decode cX7_recall 56 = .ok (.iload 6, 2) := by decide +kernel
theorem dX7_recall_58 : decode cX7_recall 58 = .ok (.iload 4, 2) := by decide +kernel
theorem dX7_recall_60 : decode cX7_recall 60 = .ok (.if_icmp .gt 69, 3) := by decide +kernel
theorem dX7_recall_63 : decode cX7_recall 63 = .ok (.iload 6, 2) := by decide +kernel
theorem dX7_recall_65 : decode cX7_recall 65 = .ok (.iload 4, 2) := by decide +kernel
theorem dX7_recall_67 : decode cX7_recall 67 = .ok (.iconst (-1), 1) := by decide +kernel
theorem dX7_recall_68 : decode cX7_recall 68 = .ok (.ixor, 1) := by decide +kernel
theorem dX7_recall_69 : decode cX7_recall 69 = .ok (.iand, 1) := by decide +kernel
theorem dX7_recall_70 : decode cX7_recall 70 = .ok (.ifCond .ne 53, 3) := by decide +kernel
theorem dX7_recall_73 : decode cX7_recall 73 = .ok (.iload 5, 2) := by decide +kernel
theorem dX7_recall_75 : decode cX7_recall 75 = .ok (.ifCond .lt 16, 3) := by decide +kernel
theorem dX7_recall_78 : decode cX7_recall 78 = .ok (.iload 6, 2) := by decide +kernel
theorem dX7_recall_80 : decode cX7_recall 80 = .ok (.invokestatic 212, 3) := by decide +kernel
theorem dX7_recall_83 : decode cX7_recall 83 = .ok (.iload 5, 2) := by decide +kernel
theorem dX7_recall_85 : decode cX7_recall 85 = .ok (.invokestatic 212, 3) := by decide +kernel
theorem dX7_recall_88 : decode cX7_recall 88 = .ok (.if_icmp .ge 35, 3) := by decide +kernel
theorem dX7_recall_91 : decode cX7_recall 91 = .ok (.aload_n 0, 1) := by decide +kernel
theorem dX7_recall_92 : decode cX7_recall 92 = .ok (.getfield 19, 3) := by decide +kernel
theorem dX7_recall_95 : decode cX7_recall 95 = .ok (.bipush 6, 2) := by decide +kernel
theorem dX7_recall_97 : decode cX7_recall 97 = .ok (.dup2, 1) := by decide +kernel
theorem dX7_recall_98 : decode cX7_recall 98 = .ok (.iaload, 1) := by decide +kernel
theorem dX7_recall_99 : decode cX7_recall 99 = .ok (.iload 6, 2) := by decide +kernel
theorem dX7_recall_101 : decode cX7_recall 101 = .ok (.iconst (-1), 1) := by decide +kernel
theorem dX7_recall_102 : decode cX7_recall 102 = .ok (.ixor, 1) := by decide +kernel
theorem dX7_recall_103 : decode cX7_recall 103 = .ok (.iand, 1) := by decide +kernel
theorem dX7_recall_104 : decode cX7_recall 104 = .ok (.iastore, 1) := by decide +kernel
theorem dX7_recall_105 : decode cX7_recall 105 = .ok (.aload_n 0, 1) := by decide +kernel
theorem dX7_recall_106 : decode cX7_recall 106 = .ok (.iload_n 2, 1) := by decide +kernel
theorem dX7_recall_107 : decode cX7_recall 107 = .ok (.invokevirtual 203, 3) := by decide +kernel
theorem dX7_recall_110 : decode cX7_recall 110 = .ok (.iload_n 1, 1) := by decide +kernel
theorem dX7_recall_111 : decode cX7_recall 111 = .ok (.if_icmp .ne 8, 3) := by decide +kernel
theorem dX7_recall_114 : decode cX7_recall 114 = .ok (.iload 6, 2) := by decide +kernel
theorem dX7_recall_116 : decode cX7_recall 116 = .ok (.goto 5, 3) := by decide +kernel
theorem dX7_recall_119 : decode cX7_recall 119 = .ok (.iload 5, 2) := by decide +kernel
theorem dX7_recall_121 : decode cX7_recall 121 = .ok (.istore 5, 2) := by decide +kernel
theorem dX7_recall_123 : decode cX7_recall 123 = .ok (.iinc 6 1, 3) := by decide +kernel
theorem dX7_recall_126 : decode cX7_recall 126 = .ok (.goto (-70), 3) := by decide +kernel
theorem dX7_recall_129 : decode cX7_recall 129 = .ok (.iload 5, 2) := by decide +kernel
theorem dX7_recall_131 : decode cX7_recall 131 = .ok (.ifCond .lt 8, 3) := by decide +kernel
theorem dX7_recall_134 : decode cX7_recall 134 = .ok (.iload_n 3, 1) := by decide +kernel
theorem dX7_recall_135 : decode cX7_recall 135 = .ok (.iconst 1, 1) := by decide +kernel
theorem dX7_recall_136 : decode cX7_recall 136 = .ok (.if_icmp .ne 8, 3) := by decide +kernel
theorem dX7_recall_139 : decode cX7_recall 139 = .ok (.iload 5, 2) := by decide +kernel
theorem dX7_recall_141 : decode cX7_recall 141 = .ok (.goto 8, 3) := by decide +kernel
theorem dX7_recall_144 : decode cX7_recall 144 = .ok (.iload 5, 2) := by decide +kernel
theorem dX7_recall_146 : decode cX7_recall 146 = .ok (.invokestatic 212, 3) := by decide +kernel
theorem dX7_recall_149 : decode cX7_recall 149 = .ok (.ireturn, 1) := by decide +kernel
theorem dX7_fleet_0 : decode cX7_fleet 0 = .ok (.aload_n 0, 1) := by decide +kernel
theorem dX7_fleet_1 : decode cX7_fleet 1 = .ok (.getfield 135, 3) := by decide +kernel
theorem dX7_fleet_4 : decode cX7_fleet 4 = .ok (.ifCond .ne 6, 3) := by decide +kernel
theorem dX7_fleet_7 : decode cX7_fleet 7 = .ok (.ldc 163, 2) := by decide +kernel
theorem dX7_fleet_9 : decode cX7_fleet 9 = .ok (.ireturn, 1) := by decide +kernel
theorem dX7_fleet_10 : decode cX7_fleet 10 = .ok (.iload_n 1, 1) := by decide +kernel
theorem dX7_fleet_11 : decode cX7_fleet 11 = .ok (.i2l, 1) := by decide +kernel
theorem dX7_fleet_12 : decode cX7_fleet 12 = .ok (.lconst 1, 1) := by decide +kernel
theorem dX7_fleet_13 : decode cX7_fleet 13 = .ok (.ldc2_w 187, 3) := by decide +kernel
theorem dX7_fleet_16 : decode cX7_fleet 16 = .ok (.invokestatic 54, 3) := by decide +kernel
theorem dX7_fleet_19 : decode cX7_fleet 19 = .ok (.ifCond .eq 10, 3) := by decide +kernel
theorem dX7_fleet_22 : decode cX7_fleet 22 = .ok (.iload_n 2, 1) := by decide +kernel
theorem dX7_fleet_23 : decode cX7_fleet 23 = .ok (.invokestatic 209, 3) := by decide +kernel
theorem dX7_fleet_26 : decode cX7_fleet 26 = .ok (.ifCond .ne 6, 3) := by decide +kernel
theorem dX7_fleet_29 : decode cX7_fleet 29 = .ok (.ldc 64, 2) := by decide +kernel
theorem dX7_fleet_31 : decode cX7_fleet 31 = .ok (.ireturn, 1) := by decide +kernel
theorem dX7_fleet_32 : decode cX7_fleet 32 = .ok (.aload_n 0, 1) := by decide +kernel
theorem dX7_fleet_33 : decode cX7_fleet 33 = .ok (.invokevirtual 200, 3) := by decide +kernel
theorem dX7_fleet_36 : decode cX7_fleet 36 = .ok (.ldc 162, 2) := by decide +kernel
theorem dX7_fleet_38 : decode cX7_fleet 38 = .ok (.istore_n 3, 1) := by decide +kernel
theorem dX7_fleet_39 : decode cX7_fleet 39 = .ok (.iconst 0, 1) := by decide +kernel
theorem dX7_fleet_40 : decode cX7_fleet 40 = .ok (.istore 4, 2) := by decide +kernel
theorem dX7_fleet_42 : decode cX7_fleet 42 = .ok (.iload 4, 2) := by decide +kernel
theorem dX7_fleet_44 : decode cX7_fleet 44 = .ok (.iconst 1, 1) := by decide +kernel
theorem dX7_fleet_45 : decode cX7_fleet 45 = .ok (.aload_n 0, 1) := by decide +kernel
theorem dX7_fleet_46 : decode cX7_fleet 46 = .ok (.getfield 19, 3) := by decide +kernel
theorem dX7_fleet_49 : decode cX7_fleet 49 = .ok (.iconst 4, 1) := by decide +kernel
theorem dX7_fleet_50 : decode cX7_fleet 50 = .ok (.iaload, 1) := by decide +kernel
theorem dX7_fleet_51 : decode cX7_fleet 51 = .ok (.ishl, 1) := by decide +kernel
theorem dX7_fleet_52 : decode cX7_fleet 52 = .ok (.if_icmp .ge 49, 3) := by decide +kernel
theorem dX7_fleet_55 : decode cX7_fleet 55 = .ok (.iload_n 3, 1) := by decide +kernel
theorem dX7_fleet_56 : decode cX7_fleet 56 = .ok (.ifCond .lt 15, 3) := by decide +kernel
theorem dX7_fleet_59 : decode cX7_fleet 59 = .ok (.iload 4, 2) := by decide +kernel
theorem dX7_fleet_61 : decode cX7_fleet 61 = .ok (.invokestatic 212, 3) := by decide +kernel
theorem dX7_fleet_64 : decode cX7_fleet 64 = .ok (.iload_n 3, 1) := by decide +kernel
theorem dX7_fleet_65 : decode cX7_fleet 65 = .ok (.invokestatic 212, 3) := by decide +kernel
theorem dX7_fleet_68 : decode cX7_fleet 68 = .ok (.if_icmp .ge 27, 3) := by decide +kernel
theorem dX7_fleet_71 : decode cX7_fleet 71 = .ok (.aload_n 0, 1) := by decide +kernel
theorem dX7_fleet_72 : decode cX7_fleet 72 = .ok (.getfield 19, 3) := by decide +kernel
theorem dX7_fleet_75 : decode cX7_fleet 75 = .ok (.bipush 6, 2) := by decide +kernel
theorem dX7_fleet_77 : decode cX7_fleet 77 = .ok (.iload 4, 2) := by decide +kernel
theorem dX7_fleet_79 : decode cX7_fleet 79 = .ok (.iastore, 1) := by decide +kernel
theorem dX7_fleet_80 : decode cX7_fleet 80 = .ok (.aload_n 0, 1) := by decide +kernel
theorem dX7_fleet_81 : decode cX7_fleet 81 = .ok (.iload_n 1, 1) := by decide +kernel
theorem dX7_fleet_82 : decode cX7_fleet 82 = .ok (.invokevirtual 203, 3) := by decide +kernel
theorem dX7_fleet_85 : decode cX7_fleet 85 = .ok (.ifCond .lt 8, 3) := by decide +kernel
theorem dX7_fleet_88 : decode cX7_fleet 88 = .ok (.iload 4, 2) := by decide +kernel
theorem dX7_fleet_90 : decode cX7_fleet 90 = .ok (.goto 4, 3) := by decide +kernel
theorem dX7_fleet_93 : decode cX7_fleet 93 = .ok (.iload_n 3, 1) := by decide +kernel
theorem dX7_fleet_94 : decode cX7_fleet 94 = .ok (.istore_n 3, 1) := by decide +kernel
theorem dX7_fleet_95 : decode cX7_fleet 95 = .ok (.iinc 4 1, 3) := by decide +kernel
theorem dX7_fleet_98 : decode cX7_fleet 98 = .ok (.goto (-56), 3) := by decide +kernel
theorem dX7_fleet_101 : decode cX7_fleet 101 = .ok (.iload_n 3, 1) := by decide +kernel
theorem dX7_fleet_102 : decode cX7_fleet 102 = .ok (.ifCond .lt 8, 3) := by decide +kernel
theorem dX7_fleet_105 : decode cX7_fleet 105 = .ok (.iload_n 2, 1) := by decide +kernel
theorem dX7_fleet_106 : decode cX7_fleet 106 = .ok (.iconst 1, 1) := by decide +kernel
theorem dX7_fleet_107 : decode cX7_fleet 107 = .ok (.if_icmp .ne 7, 3) := by decide +kernel
theorem dX7_fleet_110 : decode cX7_fleet 110 = .ok (.iload_n 3, 1) := by decide +kernel
theorem dX7_fleet_111 : decode cX7_fleet 111 = .ok (.goto 7, 3) := by decide +kernel
theorem dX7_fleet_114 : decode cX7_fleet 114 = .ok (.iload_n 3, 1) := by decide +kernel
theorem dX7_fleet_115 : decode cX7_fleet 115 = .ok (.invokestatic 212, 3) := by decide +kernel
theorem dX7_fleet_118 : decode cX7_fleet 118 = .ok (.ireturn, 1) := by decide +kernel
theorem dX7_sandFor_0 : decode cX7_sandFor 0 = .ok (.aload_n 0, 1) := by decide +kernel
theorem dX7_sandFor_1 : decode cX7_sandFor 1 = .ok (.getfield 135, 3) := by decide +kernel
theorem dX7_sandFor_4 : decode cX7_sandFor 4 = .ok (.ifCond .ne 6, 3) := by decide +kernel
theorem dX7_sandFor_7 : decode cX7_sandFor 7 = .ok (.ldc 163, 2) := by decide +kernel
theorem dX7_sandFor_9 : decode cX7_sandFor 9 = .ok (.ireturn, 1) := by decide +kernel
theorem dX7_sandFor_10 : decode cX7_sandFor 10 = .ok (.iload_n 1, 1) := by decide +kernel
theorem dX7_sandFor_11 : decode cX7_sandFor 11 = .ok (.i2l, 1) := by decide +kernel
theorem dX7_sandFor_12 : decode cX7_sandFor 12 = .ok (.lconst 1, 1) := by decide +kernel
theorem dX7_sandFor_13 : decode cX7_sandFor 13 = .ok (.ldc2_w 198, 3) := by decide +kernel
theorem dX7_sandFor_16 : decode cX7_sandFor 16 = .ok (.invokestatic 54, 3) := by decide +kernel
theorem dX7_sandFor_19 : decode cX7_sandFor 19 = .ok (.ifCond .ne 6, 3) := by decide +kernel
theorem dX7_sandFor_22 : decode cX7_sandFor 22 = .ok (.ldc 64, 2) := by decide +kernel
theorem dX7_sandFor_24 : decode cX7_sandFor 24 = .ok (.ireturn, 1) := by decide +kernel
theorem dX7_sandFor_25 : decode cX7_sandFor 25 = .ok (.aload_n 0, 1) := by decide +kernel
theorem dX7_sandFor_26 : decode cX7_sandFor 26 = .ok (.getfield 19, 3) := by decide +kernel
theorem dX7_sandFor_29 : decode cX7_sandFor 29 = .ok (.bipush 8, 2) := by decide +kernel
theorem dX7_sandFor_31 : decode cX7_sandFor 31 = .ok (.iaload, 1) := by decide +kernel
theorem dX7_sandFor_32 : decode cX7_sandFor 32 = .ok (.istore_n 2, 1) := by decide +kernel
theorem dX7_sandFor_33 : decode cX7_sandFor 33 = .ok (.ldc 162, 2) := by decide +kernel
theorem dX7_sandFor_35 : decode cX7_sandFor 35 = .ok (.istore_n 3, 1) := by decide +kernel
theorem dX7_sandFor_36 : decode cX7_sandFor 36 = .ok (.iconst 0, 1) := by decide +kernel
theorem dX7_sandFor_37 : decode cX7_sandFor 37 = .ok (.istore 4, 2) := by decide +kernel
theorem dX7_sandFor_39 : decode cX7_sandFor 39 = .ok (.iload 4, 2) := by decide +kernel
theorem dX7_sandFor_41 : decode cX7_sandFor 41 = .ok (.bipush 40, 2) := by decide +kernel
theorem dX7_sandFor_43 : decode cX7_sandFor 43 = .ok (.if_icmp .gt 38, 3) := by decide +kernel
theorem dX7_sandFor_46 : decode cX7_sandFor 46 = .ok (.iload_n 3, 1) := by decide +kernel
theorem dX7_sandFor_47 : decode cX7_sandFor 47 = .ok (.ifCond .ge 34, 3) := by decide +kernel
theorem dX7_sandFor_50 : decode cX7_sandFor 50 = .ok (.aload_n 0, 1) := by decide +kernel
theorem dX7_sandFor_51 : decode cX7_sandFor 51 = .ok (.getfield 19, 3) := by decide +kernel
theorem dX7_sandFor_54 : decode cX7_sandFor 54 = .ok (.bipush 8, 2) := by decide +kernel
theorem dX7_sandFor_56 : decode cX7_sandFor 56 = .ok (.iload 4, 2) := by decide +kernel
theorem dX7_sandFor_58 : decode cX7_sandFor 58 = .ok (.iastore, 1) := by decide +kernel
theorem dX7_sandFor_59 : decode cX7_sandFor 59 = .ok (.aload_n 0, 1) := by decide +kernel
theorem dX7_sandFor_60 : decode cX7_sandFor 60 = .ok (.iload_n 1, 1) := by decide +kernel
theorem dX7_sandFor_61 : decode cX7_sandFor 61 = .ok (.invokevirtual 206, 3) := by decide +kernel
theorem dX7_sandFor_64 : decode cX7_sandFor 64 = .ok (.iload_n 1, 1) := by decide +kernel
theorem dX7_sandFor_65 : decode cX7_sandFor 65 = .ok (.if_icmp .ne 8, 3) := by decide +kernel
theorem dX7_sandFor_68 : decode cX7_sandFor 68 = .ok (.iload 4, 2) := by decide +kernel
theorem dX7_sandFor_70 : decode cX7_sandFor 70 = .ok (.goto 4, 3) := by decide +kernel
theorem dX7_sandFor_73 : decode cX7_sandFor 73 = .ok (.iload_n 3, 1) := by decide +kernel
theorem dX7_sandFor_74 : decode cX7_sandFor 74 = .ok (.istore_n 3, 1) := by decide +kernel
theorem dX7_sandFor_75 : decode cX7_sandFor 75 = .ok (.iinc 4 1, 3) := by decide +kernel
theorem dX7_sandFor_78 : decode cX7_sandFor 78 = .ok (.goto (-39), 3) := by decide +kernel
theorem dX7_sandFor_81 : decode cX7_sandFor 81 = .ok (.aload_n 0, 1) := by decide +kernel
theorem dX7_sandFor_82 : decode cX7_sandFor 82 = .ok (.getfield 19, 3) := by decide +kernel
theorem dX7_sandFor_85 : decode cX7_sandFor 85 = .ok (.bipush 8, 2) := by decide +kernel
theorem dX7_sandFor_87 : decode cX7_sandFor 87 = .ok (.iload_n 2, 1) := by decide +kernel
theorem dX7_sandFor_88 : decode cX7_sandFor 88 = .ok (.iastore, 1) := by decide +kernel
theorem dX7_sandFor_89 : decode cX7_sandFor 89 = .ok (.iload_n 3, 1) := by decide +kernel
theorem dX7_sandFor_90 : decode cX7_sandFor 90 = .ok (.ireturn, 1) := by decide +kernel
theorem dX7_lacks_0 : decode cX7_lacks 0 = .ok (.aload_n 0, 1) := by decide +kernel
theorem dX7_lacks_1 : decode cX7_lacks 1 = .ok (.getfield 13, 3) := by decide +kernel
theorem dX7_lacks_4 : decode cX7_lacks 4 = .ok (.iload_n 1, 1) := by decide +kernel
theorem dX7_lacks_5 : decode cX7_lacks 5 = .ok (.iaload, 1) := by decide +kernel
theorem dX7_lacks_6 : decode cX7_lacks 6 = .ok (.ifCond .ge 9, 3) := by decide +kernel
theorem dX7_lacks_9 : decode cX7_lacks 9 = .ok (.aload_n 0, 1) := by decide +kernel
theorem dX7_lacks_10 : decode cX7_lacks 10 = .ok (.iconst 1, 1) := by decide +kernel
theorem dX7_lacks_11 : decode cX7_lacks 11 = .ok (.invokevirtual 65, 3) := by decide +kernel
theorem dX7_lacks_14 : decode cX7_lacks 14 = .ok (.ireturn, 1) := by decide +kernel
theorem dX7_lacks_15 : decode cX7_lacks 15 = .ok (.iload_n 2, 1) := by decide +kernel
theorem dX7_lacks_16 : decode cX7_lacks 16 = .ok (.i2l, 1) := by decide +kernel
theorem dX7_lacks_17 : decode cX7_lacks 17 = .ok (.lconst 0, 1) := by decide +kernel
theorem dX7_lacks_18 : decode cX7_lacks 18 = .ok (.aload_n 0, 1) := by decide +kernel
theorem dX7_lacks_19 : decode cX7_lacks 19 = .ok (.getfield 13, 3) := by decide +kernel
theorem dX7_lacks_22 : decode cX7_lacks 22 = .ok (.iload_n 1, 1) := by decide +kernel
theorem dX7_lacks_23 : decode cX7_lacks 23 = .ok (.iaload, 1) := by decide +kernel
theorem dX7_lacks_24 : decode cX7_lacks 24 = .ok (.iload_n 3, 1) := by decide +kernel
theorem dX7_lacks_25 : decode cX7_lacks 25 = .ok (.isub, 1) := by decide +kernel
theorem dX7_lacks_26 : decode cX7_lacks 26 = .ok (.i2l, 1) := by decide +kernel
theorem dX7_lacks_27 : decode cX7_lacks 27 = .ok (.invokestatic 54, 3) := by decide +kernel
theorem dX7_lacks_30 : decode cX7_lacks 30 = .ok (.ifCond .eq 7, 3) := by decide +kernel
theorem dX7_lacks_33 : decode cX7_lacks 33 = .ok (.iconst 0, 1) := by decide +kernel
theorem dX7_lacks_34 : decode cX7_lacks 34 = .ok (.goto 8, 3) := by decide +kernel
theorem dX7_lacks_37 : decode cX7_lacks 37 = .ok (.aload_n 0, 1) := by decide +kernel
theorem dX7_lacks_38 : decode cX7_lacks 38 = .ok (.iconst 2, 1) := by decide +kernel
theorem dX7_lacks_39 : decode cX7_lacks 39 = .ok (.invokevirtual 65, 3) := by decide +kernel
theorem dX7_lacks_42 : decode cX7_lacks 42 = .ok (.ireturn, 1) := by decide +kernel
theorem dX7_isSo_0 : decode cX7_isSo 0 = .ok (.iconst 1, 1) := by decide +kernel
theorem dX7_isSo_1 : decode cX7_isSo 1 = .ok (.istore_n 3, 1) := by decide +kernel
theorem dX7_isSo_2 : decode cX7_isSo 2 = .ok (.iconst 0, 1) := by decide +kernel
theorem dX7_isSo_3 : decode cX7_isSo 3 = .ok (.istore 4, 2) := by decide +kernel
theorem dX7_isSo_5 : decode cX7_isSo 5 = .ok (.iload 4, 2) := by decide +kernel
theorem dX7_isSo_7 : decode cX7_isSo 7 = .ok (.iload_n 2, 1) := by decide +kernel
theorem dX7_isSo_8 : decode cX7_isSo 8 = .ok (.if_icmp .ge 42, 3) := by decide +kernel
theorem dX7_isSo_11 : decode cX7_isSo 11 = .ok (.aload_n 0, 1) := by decide +kernel
theorem dX7_isSo_12 : decode cX7_isSo 12 = .ok (.invokevirtual 169, 3) := by decide +kernel
theorem dX7_isSo_15 : decode cX7_isSo 15 = .ok (.iload_n 3, 1) := by decide +kernel
theorem dX7_isSo_16 : decode cX7_isSo 16 = .ok (.ifCond .eq 26, 3) := by decide +kernel
theorem dX7_isSo_19 : decode cX7_isSo 19 = .ok (.aload_n 0, 1) := by decide +kernel
theorem dX7_isSo_20 : decode cX7_isSo 20 = .ok (.getfield 16, 3) := by decide +kernel
theorem dX7_isSo_23 : decode cX7_isSo 23 = .ok (.iload_n 1, 1) := by decide +kernel
theorem dX7_isSo_24 : decode cX7_isSo 24 = .ok (.iload 4, 2) := by decide +kernel
theorem dX7_isSo_26 : decode cX7_isSo 26 = .ok (.iadd, 1) := by decide +kernel
theorem dX7_isSo_27 : decode cX7_isSo 27 = .ok (.iaload, 1) := by decide +kernel
theorem dX7_isSo_28 : decode cX7_isSo 28 = .ok (.aload_n 0, 1) := by decide +kernel
theorem dX7_isSo_29 : decode cX7_isSo 29 = .ok (.getfield 19, 3) := by decide +kernel
theorem dX7_isSo_32 : decode cX7_isSo 32 = .ok (.bipush 7, 2) := by decide +kernel
theorem dX7_isSo_34 : decode cX7_isSo 34 = .ok (.iaload, 1) := by decide +kernel
theorem dX7_isSo_35 : decode cX7_isSo 35 = .ok (.if_icmp .ne 7, 3) := by decide +kernel
theorem dX7_isSo_38 : decode cX7_isSo 38 = .ok (.iconst 1, 1) := by decide +kernel
theorem dX7_isSo_39 : decode cX7_isSo 39 = .ok (.goto 4, 3) := by decide +kernel
theorem dX7_isSo_42 : decode cX7_isSo 42 = .ok (.iconst 0, 1) := by decide +kernel
theorem dX7_isSo_43 : decode cX7_isSo 43 = .ok (.istore_n 3, 1) := by decide +kernel
theorem dX7_isSo_44 : decode cX7_isSo 44 = .ok (.iinc 4 1, 3) := by decide +kernel
theorem dX7_isSo_47 : decode cX7_isSo 47 = .ok (.goto (-42), 3) := by decide +kernel
theorem dX7_isSo_50 : decode cX7_isSo 50 = .ok (.aload_n 0, 1) := by decide +kernel
theorem dX7_isSo_51 : decode cX7_isSo 51 = .ok (.invokevirtual 195, 3) := by decide +kernel
theorem dX7_isSo_54 : decode cX7_isSo 54 = .ok (.iload_n 3, 1) := by decide +kernel
theorem dX7_isSo_55 : decode cX7_isSo 55 = .ok (.ireturn, 1) := by decide +kernel
theorem dX7_who_0 : decode cX7_who 0 = .ok (.aload_n 0, 1) := by decide +kernel
theorem dX7_who_1 : decode cX7_who 1 = .ok (.iload_n 1, 1) := by decide +kernel
theorem dX7_who_2 : decode cX7_who 2 = .ok (.invokevirtual 175, 3) := by decide +kernel
theorem dX7_who_5 : decode cX7_who 5 = .ok (.ifCond .eq 35, 3) := by decide +kernel
theorem dX7_who_8 : decode cX7_who 8 = .ok (.iload_n 2, 1) := by decide +kernel
theorem dX7_who_9 : decode cX7_who 9 = .ok (.i2l, 1) := by decide +kernel
theorem dX7_who_10 : decode cX7_who 10 = .ok (.lconst 0, 1) := by decide +kernel
theorem dX7_who_11 : decode cX7_who 11 = .ok (.ldc2_w 62, 3) := by decide +kernel
theorem dX7_who_14 : decode cX7_who 14 = .ok (.invokestatic 54, 3) := by decide +kernel
theorem dX7_who_17 : decode cX7_who 17 = .ok (.ifCond .eq 23, 3) := by decide +kernel
theorem dX7_who_20 : decode cX7_who 20 = .ok (.iload_n 3, 1) := by decide +kernel
theorem dX7_who_21 : decode cX7_who 21 = .ok (.invokestatic 58, 3) := by decide +kernel
theorem dX7_who_24 : decode cX7_who 24 = .ok (.ifCond .eq 16, 3) := by decide +kernel
theorem dX7_who_27 : decode cX7_who 27 = .ok (.iload 5, 2) := by decide +kernel
theorem dX7_who_29 : decode cX7_who 29 = .ok (.i2l, 1) := by decide +kernel
theorem dX7_who_30 : decode cX7_who 30 = .ok (.lconst 1, 1) := by decide +kernel
theorem dX7_who_31 : decode cX7_who 31 = .ok (.ldc2_w 215, 3) := by decide +kernel
theorem dX7_who_34 : decode cX7_who 34 = .ok (.invokestatic 54, 3) := by decide +kernel
theorem dX7_who_37 : decode cX7_who 37 = .ok (.ifCond .ne 8, 3) := by decide +kernel
theorem dX7_who_40 : decode cX7_who 40 = .ok (.ldc 64, 2) := by decide +kernel
theorem dX7_who_42 : decode cX7_who 42 = .ok (.goto 12, 3) := by decide +kernel
theorem dX7_who_45 : decode cX7_who 45 = .ok (.aload_n 0, 1) := by decide +kernel
theorem dX7_who_46 : decode cX7_who 46 = .ok (.iload_n 3, 1) := by decide +kernel
theorem dX7_who_47 : decode cX7_who 47 = .ok (.iload 4, 2) := by decide +kernel
theorem dX7_who_49 : decode cX7_who 49 = .ok (.iload 5, 2) := by decide +kernel
theorem dX7_who_51 : decode cX7_who 51 = .ok (.invokevirtual 217, 3) := by decide +kernel
theorem dX7_who_54 : decode cX7_who 54 = .ok (.istore 6, 2) := by decide +kernel
theorem dX7_who_56 : decode cX7_who 56 = .ok (.iload 6, 2) := by decide +kernel
theorem dX7_who_58 : decode cX7_who 58 = .ok (.ifCond .ge 6, 3) := by decide +kernel
theorem dX7_who_61 : decode cX7_who 61 = .ok (.iload 6, 2) := by decide +kernel
theorem dX7_who_63 : decode cX7_who 63 = .ok (.ireturn, 1) := by decide +kernel
theorem dX7_who_64 : decode cX7_who 64 = .ok (.aload_n 0, 1) := by decide +kernel
theorem dX7_who_65 : decode cX7_who 65 = .ok (.invokevirtual 200, 3) := by decide +kernel
theorem dX7_who_68 : decode cX7_who 68 = .ok (.iload_n 2, 1) := by decide +kernel
theorem dX7_who_69 : decode cX7_who 69 = .ok (.ifCond .ne 10, 3) := by decide +kernel
theorem dX7_who_72 : decode cX7_who 72 = .ok (.bipush 14, 2) := by decide +kernel
theorem dX7_who_74 : decode cX7_who 74 = .ok (.iload_n 1, 1) := by decide +kernel
theorem dX7_who_75 : decode cX7_who 75 = .ok (.iadd, 1) := by decide +kernel
theorem dX7_who_76 : decode cX7_who 76 = .ok (.goto 16, 3) := by decide +kernel
theorem dX7_who_79 : decode cX7_who 79 = .ok (.iload_n 2, 1) := by decide +kernel
theorem dX7_who_80 : decode cX7_who 80 = .ok (.iconst 1, 1) := by decide +kernel
theorem dX7_who_81 : decode cX7_who 81 = .ok (.if_icmp .ne 10, 3) := by decide +kernel
theorem dX7_who_84 : decode cX7_who 84 = .ok (.bipush 26, 2) := by decide +kernel
theorem dX7_who_86 : decode cX7_who 86 = .ok (.iload_n 1, 1) := by decide +kernel
theorem dX7_who_87 : decode cX7_who 87 = .ok (.iadd, 1) := by decide +kernel
theorem dX7_who_88 : decode cX7_who 88 = .ok (.goto 4, 3) := by decide +kernel
theorem dX7_who_91 : decode cX7_who 91 = .ok (.iconst 2, 1) := by decide +kernel
theorem dX7_who_92 : decode cX7_who 92 = .ok (.istore 7, 2) := by decide +kernel
theorem dX7_who_94 : decode cX7_who 94 = .ok (.iconst 0, 1) := by decide +kernel
theorem dX7_who_95 : decode cX7_who 95 = .ok (.istore 8, 2) := by decide +kernel
theorem dX7_who_97 : decode cX7_who 97 = .ok (.iload_n 2, 1) := by decide +kernel
theorem dX7_who_98 : decode cX7_who 98 = .ok (.iconst 2, 1) := by decide +kernel
theorem dX7_who_99 : decode cX7_who 99 = .ok (.if_icmp .ne 7, 3) := by decide +kernel
theorem dX7_who_102 : decode cX7_who 102 = .ok (.iconst 0, 1) := by decide +kernel
theorem dX7_who_103 : decode cX7_who 103 = .ok (.goto 4, 3) := by decide +kernel
theorem dX7_who_106 : decode cX7_who 106 = .ok (.iconst 1, 1) := by decide +kernel
theorem dX7_who_107 : decode cX7_who 107 = .ok (.istore 9, 2) := by decide +kernel
theorem dX7_who_109 : decode cX7_who 109 = .ok (.iload 9, 2) := by decide +kernel
theorem dX7_who_111 : decode cX7_who 111 = .ok (.iload_n 2, 1) := by decide +kernel
theorem dX7_who_112 : decode cX7_who 112 = .ok (.ifCond .ne 7, 3) := by decide +kernel
theorem dX7_who_115 : decode cX7_who 115 = .ok (.iconst 5, 1) := by decide +kernel
theorem dX7_who_116 : decode cX7_who 116 = .ok (.goto 14, 3) := by decide +kernel
theorem dX7_who_119 : decode cX7_who 119 = .ok (.iload_n 2, 1) := by decide +kernel
theorem dX7_who_120 : decode cX7_who 120 = .ok (.iconst 1, 1) := by decide +kernel
theorem dX7_who_121 : decode cX7_who 121 = .ok (.if_icmp .ne 8, 3) := by decide +kernel
theorem dX7_who_124 : decode cX7_who 124 = .ok (.bipush 9, 2) := by decide +kernel
theorem dX7_who_126 : decode cX7_who 126 = .ok (.goto 4, 3) := by decide +kernel
theorem dX7_who_129 : decode cX7_who 129 = .ok (.iconst 3, 1) := by decide +kernel
theorem dX7_who_130 : decode cX7_who 130 = .ok (.if_icmp .gt 47, 3) := by decide +kernel
theorem dX7_who_133 : decode cX7_who 133 = .ok (.aload_n 0, 1) := by decide +kernel
theorem dX7_who_134 : decode cX7_who 134 = .ok (.getfield 19, 3) := by decide +kernel
theorem dX7_who_137 : decode cX7_who 137 = .ok (.iload 7, 2) := by decide +kernel
theorem dX7_who_139 : decode cX7_who 139 = .ok (.iload 9, 2) := by decide +kernel
theorem dX7_who_141 : decode cX7_who 141 = .ok (.iastore, 1) := by decide +kernel
theorem dX7_who_142 : decode cX7_who 142 = .ok (.iload 8, 2) := by decide +kernel
theorem dX7_who_144 : decode cX7_who 144 = .ok (.aload_n 0, 1) := by decide +kernel
theorem dX7_who_145 : decode cX7_who 145 = .ok (.bipush 40, 2) := by decide +kernel
theorem dX7_who_147 : decode cX7_who 147 = .ok (.iload_n 3, 1) := by decide +kernel
theorem dX7_who_148 : decode cX7_who 148 = .ok (.imul, 1) := by decide +kernel
theorem dX7_who_149 : decode cX7_who 149 = .ok (.iload 4, 2) := by decide +kernel
theorem dX7_who_151 : decode cX7_who 151 = .ok (.iadd, 1) := by decide +kernel
theorem dX7_who_152 : decode cX7_who 152 = .ok (.iload 5, 2) := by decide +kernel
theorem dX7_who_154 : decode cX7_who 154 = .ok (.invokevirtual 221, 3) := by decide +kernel
theorem dX7_who_157 : decode cX7_who 157 = .ok (.ifCond .eq 10, 3) := by decide +kernel
theorem dX7_who_160 : decode cX7_who 160 = .ok (.iconst 1, 1) := by decide +kernel
theorem dX7_who_161 : decode cX7_who 161 = .ok (.iload 9, 2) := by decide +kernel
theorem dX7_who_163 : decode cX7_who 163 = .ok (.ishl, 1) := by decide +kernel
theorem dX7_who_164 : decode cX7_who 164 = .ok (.goto 4, 3) := by decide +kernel
theorem dX7_who_167 : decode cX7_who 167 = .ok (.iconst 0, 1) := by decide +kernel
theorem dX7_who_168 : decode cX7_who 168 = .ok (.ior, 1) := by decide +kernel
theorem dX7_who_169 : decode cX7_who 169 = .ok (.istore 8, 2) := by decide +kernel
theorem dX7_who_171 : decode cX7_who 171 = .ok (.iinc 9 1, 3) := by decide +kernel
theorem dX7_who_174 : decode cX7_who 174 = .ok (.goto (-65), 3) := by decide +kernel
theorem dX7_who_177 : decode cX7_who 177 = .ok (.aload_n 0, 1) := by decide +kernel
theorem dX7_who_178 : decode cX7_who 178 = .ok (.iload 8, 2) := by decide +kernel
theorem dX7_who_180 : decode cX7_who 180 = .ok (.invokevirtual 69, 3) := by decide +kernel
theorem dX7_who_183 : decode cX7_who 183 = .ok (.ireturn, 1) := by decide +kernel
theorem dX7_barred_0 : decode cX7_barred 0 = .ok (.aload_n 0, 1) := by decide +kernel
theorem dX7_barred_1 : decode cX7_barred 1 = .ok (.getfield 135, 3) := by decide +kernel
theorem dX7_barred_4 : decode cX7_barred 4 = .ok (.ifCond .ne 6, 3) := by decide +kernel
theorem dX7_barred_7 : decode cX7_barred 7 = .ok (.ldc 163, 2) := by decide +kernel
theorem dX7_barred_9 : decode cX7_barred 9 = .ok (.ireturn, 1) := by decide +kernel
theorem dX7_barred_10 : decode cX7_barred 10 = .ok (.iload_n 1, 1) := by decide +kernel
theorem dX7_barred_11 : decode cX7_barred 11 = .ok (.invokestatic 58, 3) := by decide +kernel
theorem dX7_barred_14 : decode cX7_barred 14 = .ok (.ifCond .eq 15, 3) := by decide +kernel
theorem dX7_barred_17 : decode cX7_barred 17 = .ok (.iload_n 3, 1) := by decide +kernel
theorem dX7_barred_18 : decode cX7_barred 18 = .ok (.i2l, 1) := by decide +kernel
theorem dX7_barred_19 : decode cX7_barred 19 = .ok (.lconst 1, 1) := by decide +kernel
theorem dX7_barred_20 : decode cX7_barred 20 = .ok (.ldc2_w 215, 3) := by decide +kernel
theorem dX7_barred_23 : decode cX7_barred 23 = .ok (.invokestatic 54, 3) := by decide +kernel
theorem dX7_barred_26 : decode cX7_barred 26 = .ok (.ifCond .ne 8, 3) := by decide +kernel
theorem dX7_barred_29 : decode cX7_barred 29 = .ok (.ldc 64, 2) := by decide +kernel
theorem dX7_barred_31 : decode cX7_barred 31 = .ok (.goto 10, 3) := by decide +kernel
theorem dX7_barred_34 : decode cX7_barred 34 = .ok (.aload_n 0, 1) := by decide +kernel
theorem dX7_barred_35 : decode cX7_barred 35 = .ok (.iload_n 1, 1) := by decide +kernel
theorem dX7_barred_36 : decode cX7_barred 36 = .ok (.iload_n 2, 1) := by decide +kernel
theorem dX7_barred_37 : decode cX7_barred 37 = .ok (.iload_n 3, 1) := by decide +kernel
theorem dX7_barred_38 : decode cX7_barred 38 = .ok (.invokevirtual 217, 3) := by decide +kernel
theorem dX7_barred_41 : decode cX7_barred 41 = .ok (.istore 4, 2) := by decide +kernel
theorem dX7_barred_43 : decode cX7_barred 43 = .ok (.iload 4, 2) := by decide +kernel
theorem dX7_barred_45 : decode cX7_barred 45 = .ok (.ifCond .ge 6, 3) := by decide +kernel
theorem dX7_barred_48 : decode cX7_barred 48 = .ok (.iload 4, 2) := by decide +kernel
theorem dX7_barred_50 : decode cX7_barred 50 = .ok (.ireturn, 1) := by decide +kernel
theorem dX7_barred_51 : decode cX7_barred 51 = .ok (.aload_n 0, 1) := by decide +kernel
theorem dX7_barred_52 : decode cX7_barred 52 = .ok (.invokevirtual 200, 3) := by decide +kernel
theorem dX7_barred_55 : decode cX7_barred 55 = .ok (.aload_n 0, 1) := by decide +kernel
theorem dX7_barred_56 : decode cX7_barred 56 = .ok (.bipush 40, 2) := by decide +kernel
theorem dX7_barred_58 : decode cX7_barred 58 = .ok (.iload_n 1, 1) := by decide +kernel
theorem dX7_barred_59 : decode cX7_barred 59 = .ok (.imul, 1) := by decide +kernel
theorem dX7_barred_60 : decode cX7_barred 60 = .ok (.iload_n 2, 1) := by decide +kernel
theorem dX7_barred_61 : decode cX7_barred 61 = .ok (.iadd, 1) := by decide +kernel
theorem dX7_barred_62 : decode cX7_barred 62 = .ok (.iload_n 3, 1) := by decide +kernel
theorem dX7_barred_63 : decode cX7_barred 63 = .ok (.invokevirtual 221, 3) := by decide +kernel
theorem dX7_barred_66 : decode cX7_barred 66 = .ok (.ifCond .eq 8, 3) := by decide +kernel
theorem dX7_barred_69 : decode cX7_barred 69 = .ok (.bipush 64, 2) := by decide +kernel
theorem dX7_barred_71 : decode cX7_barred 71 = .ok (.goto 4, 3) := by decide +kernel
theorem dX7_barred_74 : decode cX7_barred 74 = .ok (.iconst 0, 1) := by decide +kernel
theorem dX7_barred_75 : decode cX7_barred 75 = .ok (.istore 5, 2) := by decide +kernel
theorem dX7_barred_77 : decode cX7_barred 77 = .ok (.iconst 0, 1) := by decide +kernel
theorem dX7_barred_78 : decode cX7_barred 78 = .ok (.istore 6, 2) := by decide +kernel
theorem dX7_barred_80 : decode cX7_barred 80 = .ok (.iload 6, 2) := by decide +kernel
theorem dX7_barred_82 : decode cX7_barred 82 = .ok (.aload_n 0, 1) := by decide +kernel
theorem dX7_barred_83 : decode cX7_barred 83 = .ok (.getfield 19, 3) := by decide +kernel
theorem dX7_barred_86 : decode cX7_barred 86 = .ok (.iconst 4, 1) := by decide +kernel
theorem dX7_barred_87 : decode cX7_barred 87 = .ok (.iaload, 1) := by decide +kernel
theorem dX7_barred_88 : decode cX7_barred 88 = .ok (.if_icmp .ge 65, 3) := by decide +kernel
theorem dX7_barred_91 : decode cX7_barred 91 = .ok (.aload_n 0, 1) := by decide +kernel
theorem dX7_barred_92 : decode cX7_barred 92 = .ok (.getfield 19, 3) := by decide +kernel
theorem dX7_barred_95 : decode cX7_barred 95 = .ok (.bipush 6, 2) := by decide +kernel
theorem dX7_barred_97 : decode cX7_barred 97 = .ok (.iaload, 1) := by decide +kernel
theorem dX7_barred_98 : decode cX7_barred 98 = .ok (.iload 6, 2) := by decide +kernel
theorem dX7_barred_100 : decode cX7_barred 100 = .ok (.invokestatic 148, 3) := by decide +kernel
theorem dX7_barred_103 : decode cX7_barred 103 = .ok (.ifCond .eq 44, 3) := by decide +kernel
theorem dX7_barred_106 : decode cX7_barred 106 = .ok (.aload_n 0, 1) := by decide +kernel
theorem dX7_barred_107 : decode cX7_barred 107 = .ok (.getfield 19, 3) := by decide +kernel
theorem dX7_barred_110 : decode cX7_barred 110 = .ok (.bipush 6, 2) := by decide +kernel
theorem dX7_barred_112 : decode cX7_barred 112 = .ok (.dup2, 1) := by decide +kernel
theorem dX7_barred_113 : decode cX7_barred 113 = .ok (.iaload, 1) := by decide +kernel
theorem dX7_barred_114 : decode cX7_barred 114 = .ok (.iconst 1, 1) := by decide +kernel
theorem dX7_barred_115 : decode cX7_barred 115 = .ok (.iload 6, 2) := by decide +kernel
theorem dX7_barred_117 : decode cX7_barred 117 = .ok (.ishl, 1) := by decide +kernel
theorem dX7_barred_118 : decode cX7_barred 118 = .ok (.ixor, 1) := by decide +kernel
theorem dX7_barred_119 : decode cX7_barred 119 = .ok (.iastore, 1) := by decide +kernel
theorem dX7_barred_120 : decode cX7_barred 120 = .ok (.iload 5, 2) := by decide +kernel
theorem dX7_barred_122 : decode cX7_barred 122 = .ok (.aload_n 0, 1) := by decide +kernel
theorem dX7_barred_123 : decode cX7_barred 123 = .ok (.bipush 40, 2) := by decide +kernel
theorem dX7_barred_125 : decode cX7_barred 125 = .ok (.iload_n 1, 1) := by decide +kernel
theorem dX7_barred_126 : decode cX7_barred 126 = .ok (.imul, 1) := by decide +kernel
theorem dX7_barred_127 : decode cX7_barred 127 = .ok (.iload_n 2, 1) := by decide +kernel
theorem dX7_barred_128 : decode cX7_barred 128 = .ok (.iadd, 1) := by decide +kernel
theorem dX7_barred_129 : decode cX7_barred 129 = .ok (.iload_n 3, 1) := by decide +kernel
theorem dX7_barred_130 : decode cX7_barred 130 = .ok (.invokevirtual 221, 3) := by decide +kernel
theorem dX7_barred_133 : decode cX7_barred 133 = .ok (.ifCond .eq 10, 3) := by decide +kernel
theorem dX7_barred_136 : decode cX7_barred 136 = .ok (.iconst 1, 1) := by decide +kernel
theorem dX7_barred_137 : decode cX7_barred 137 = .ok (.iload 6, 2) := by decide +kernel
theorem dX7_barred_139 : decode cX7_barred 139 = .ok (.ishl, 1) := by decide +kernel
theorem dX7_barred_140 : decode cX7_barred 140 = .ok (.goto 4, 3) := by decide +kernel
theorem dX7_barred_143 : decode cX7_barred 143 = .ok (.iconst 0, 1) := by decide +kernel
theorem dX7_barred_144 : decode cX7_barred 144 = .ok (.ior, 1) := by decide +kernel
theorem dX7_barred_145 : decode cX7_barred 145 = .ok (.istore 5, 2) := by decide +kernel
theorem dX7_barred_147 : decode cX7_barred 147 = .ok (.iinc 6 1, 3) := by decide +kernel
theorem dX7_barred_150 : decode cX7_barred 150 = .ok (.goto (-70), 3) := by decide +kernel
theorem dX7_barred_153 : decode cX7_barred 153 = .ok (.aload_n 0, 1) := by decide +kernel
theorem dX7_barred_154 : decode cX7_barred 154 = .ok (.iload 5, 2) := by decide +kernel
theorem dX7_barred_156 : decode cX7_barred 156 = .ok (.invokevirtual 69, 3) := by decide +kernel
theorem dX7_barred_159 : decode cX7_barred 159 = .ok (.ireturn, 1) := by decide +kernel
theorem dX7_rich_0 : decode cX7_rich 0 = .ok (.aload_n 0, 1) := by decide +kernel
theorem dX7_rich_1 : decode cX7_rich 1 = .ok (.getfield 135, 3) := by decide +kernel
theorem dX7_rich_4 : decode cX7_rich 4 = .ok (.ifCond .ne 6, 3) := by decide +kernel
theorem dX7_rich_7 : decode cX7_rich 7 = .ok (.ldc 163, 2) := by decide +kernel
theorem dX7_rich_9 : decode cX7_rich 9 = .ok (.ireturn, 1) := by decide +kernel
theorem dX7_rich_10 : decode cX7_rich 10 = .ok (.ldc 162, 2) := by decide +kernel
theorem dX7_rich_12 : decode cX7_rich 12 = .ok (.istore_n 1, 1) := by decide +kernel
theorem dX7_rich_13 : decode cX7_rich 13 = .ok (.iconst 0, 1) := by decide +kernel
theorem dX7_rich_14 : decode cX7_rich 14 = .ok (.istore_n 2, 1) := by decide +kernel
theorem dX7_rich_15 : decode cX7_rich 15 = .ok (.iconst 0, 1) := by decide +kernel
theorem dX7_rich_16 : decode cX7_rich 16 = .ok (.istore_n 3, 1) := by decide +kernel
theorem dX7_rich_17 : decode cX7_rich 17 = .ok (.iload_n 3, 1) := by decide +kernel
theorem dX7_rich_18 : decode cX7_rich 18 = .ok (.aload_n 0, 1) := by decide +kernel
theorem dX7_rich_19 : decode cX7_rich 19 = .ok (.getfield 19, 3) := by decide +kernel
theorem dX7_rich_22 : decode cX7_rich 22 = .ok (.iconst 4, 1) := by decide +kernel
theorem dX7_rich_23 : decode cX7_rich 23 = .ok (.iaload, 1) := by decide +kernel
theorem dX7_rich_24 : decode cX7_rich 24 = .ok (.if_icmp .ge 55, 3) := by decide +kernel
theorem dX7_rich_27 : decode cX7_rich 27 = .ok (.aload_n 0, 1) := by decide +kernel
theorem dX7_rich_28 : decode cX7_rich 28 = .ok (.getfield 19, 3) := by decide +kernel
theorem dX7_rich_31 : decode cX7_rich 31 = .ok (.bipush 38, 2) := by decide +kernel
theorem dX7_rich_33 : decode cX7_rich 33 = .ok (.iload_n 3, 1) := by decide +kernel
theorem dX7_rich_34 : decode cX7_rich 34 = .ok (.iadd, 1) := by decide +kernel
theorem dX7_rich_35 : decode cX7_rich 35 = .ok (.iaload, 1) := by decide +kernel
theorem dX7_rich_36 : decode cX7_rich 36 = .ok (.iload_n 2, 1) := by decide +kernel
theorem dX7_rich_37 : decode cX7_rich 37 = .ok (.if_icmp .le 7, 3) := by decide +kernel
theorem dX7_rich_40 : decode cX7_rich 40 = .ok (.iload_n 3, 1) := by decide +kernel
theorem dX7_rich_41 : decode cX7_rich 41 = .ok (.goto 4, 3) := by decide +kernel
theorem dX7_rich_44 : decode cX7_rich 44 = .ok (.iload_n 1, 1) := by decide +kernel
theorem dX7_rich_45 : decode cX7_rich 45 = .ok (.istore_n 1, 1) := by decide +kernel
theorem dX7_rich_46 : decode cX7_rich 46 = .ok (.aload_n 0, 1) := by decide +kernel
theorem dX7_rich_47 : decode cX7_rich 47 = .ok (.getfield 19, 3) := by decide +kernel
theorem dX7_rich_50 : decode cX7_rich 50 = .ok (.bipush 38, 2) := by decide +kernel
theorem dX7_rich_52 : decode cX7_rich 52 = .ok (.iload_n 3, 1) := by decide +kernel
theorem dX7_rich_53 : decode cX7_rich 53 = .ok (.iadd, 1) := by decide +kernel
theorem dX7_rich_54 : decode cX7_rich 54 = .ok (.iaload, 1) := by decide +kernel
theorem dX7_rich_55 : decode cX7_rich 55 = .ok (.iload_n 2, 1) := by decide +kernel
theorem dX7_rich_56 : decode cX7_rich 56 = .ok (.if_icmp .le 15, 3) := by decide +kernel
theorem dX7_rich_59 : decode cX7_rich 59 = .ok (.aload_n 0, 1) := by decide +kernel
theorem dX7_rich_60 : decode cX7_rich 60 = .ok (.getfield 19, 3) := by decide +kernel
theorem dX7_rich_63 : decode cX7_rich 63 = .ok (.bipush 38, 2) := by decide +kernel
theorem dX7_rich_65 : decode cX7_rich 65 = .ok (.iload_n 3, 1) := by decide +kernel
theorem dX7_rich_66 : decode cX7_rich 66 = .ok (.iadd, 1) := by decide +kernel
theorem dX7_rich_67 : decode cX7_rich 67 = .ok (.iaload, 1) := by decide +kernel
theorem dX7_rich_68 : decode cX7_rich 68 = .ok (.goto 4, 3) := by decide +kernel
theorem dX7_rich_71 : decode cX7_rich 71 = .ok (.iload_n 2, 1) := by decide +kernel
theorem dX7_rich_72 : decode cX7_rich 72 = .ok (.istore_n 2, 1) := by decide +kernel
theorem dX7_rich_73 : decode cX7_rich 73 = .ok (.iinc 3 1, 3) := by decide +kernel
theorem dX7_rich_76 : decode cX7_rich 76 = .ok (.goto (-59), 3) := by decide +kernel
theorem dX7_rich_79 : decode cX7_rich 79 = .ok (.iload_n 1, 1) := by decide +kernel
theorem dX7_rich_80 : decode cX7_rich 80 = .ok (.ireturn, 1) := by decide +kernel
theorem dX7_wreck_0 : decode cX7_wreck 0 = .ok (.aload_n 0, 1) := by decide +kernel
theorem dX7_wreck_1 : decode cX7_wreck 1 = .ok (.iload_n 1, 1) := by decide +kernel
theorem dX7_wreck_2 : decode cX7_wreck 2 = .ok (.invokevirtual 175, 3) := by decide +kernel
theorem dX7_wreck_5 : decode cX7_wreck 5 = .ok (.ifCond .eq 35, 3) := by decide +kernel
theorem dX7_wreck_8 : decode cX7_wreck 8 = .ok (.iload_n 2, 1) := by decide +kernel
theorem dX7_wreck_9 : decode cX7_wreck 9 = .ok (.i2l, 1) := by decide +kernel
theorem dX7_wreck_10 : decode cX7_wreck 10 = .ok (.lconst 0, 1) := by decide +kernel
theorem dX7_wreck_11 : decode cX7_wreck 11 = .ok (.ldc2_w 198, 3) := by decide +kernel
theorem dX7_wreck_14 : decode cX7_wreck 14 = .ok (.invokestatic 54, 3) := by decide +kernel
theorem dX7_wreck_17 : decode cX7_wreck 17 = .ok (.ifCond .eq 23, 3) := by decide +kernel
theorem dX7_wreck_20 : decode cX7_wreck 20 = .ok (.iload_n 3, 1) := by decide +kernel
theorem dX7_wreck_21 : decode cX7_wreck 21 = .ok (.i2l, 1) := by decide +kernel
theorem dX7_wreck_22 : decode cX7_wreck 22 = .ok (.lconst 0, 1) := by decide +kernel
theorem dX7_wreck_23 : decode cX7_wreck 23 = .ok (.ldc2_w 224, 3) := by decide +kernel
theorem dX7_wreck_26 : decode cX7_wreck 26 = .ok (.invokestatic 54, 3) := by decide +kernel
theorem dX7_wreck_29 : decode cX7_wreck 29 = .ok (.ifCond .eq 11, 3) := by decide +kernel
theorem dX7_wreck_32 : decode cX7_wreck 32 = .ok (.iload 4, 2) := by decide +kernel
theorem dX7_wreck_34 : decode cX7_wreck 34 = .ok (.invokestatic 209, 3) := by decide +kernel
theorem dX7_wreck_37 : decode cX7_wreck 37 = .ok (.ifCond .ne 7, 3) := by decide +kernel
theorem dX7_wreck_40 : decode cX7_wreck 40 = .ok (.ldc2_w 226, 3) := by decide +kernel
theorem dX7_wreck_43 : decode cX7_wreck 43 = .ok (.lreturn, 1) := by decide +kernel
theorem dX7_wreck_44 : decode cX7_wreck 44 = .ok (.aload_n 0, 1) := by decide +kernel
theorem dX7_wreck_45 : decode cX7_wreck 45 = .ok (.invokevirtual 200, 3) := by decide +kernel
theorem dX7_wreck_48 : decode cX7_wreck 48 = .ok (.aload_n 0, 1) := by decide +kernel
theorem dX7_wreck_49 : decode cX7_wreck 49 = .ok (.getfield 19, 3) := by decide +kernel
theorem dX7_wreck_52 : decode cX7_wreck 52 = .ok (.bipush 6, 2) := by decide +kernel
theorem dX7_wreck_54 : decode cX7_wreck 54 = .ok (.iaload, 1) := by decide +kernel
theorem dX7_wreck_55 : decode cX7_wreck 55 = .ok (.istore 5, 2) := by decide +kernel
theorem dX7_wreck_57 : decode cX7_wreck 57 = .ok (.lconst 0, 1) := by decide +kernel
theorem dX7_wreck_58 : decode cX7_wreck 58 = .ok (.lstore 6, 2) := by decide +kernel
theorem dX7_wreck_60 : decode cX7_wreck 60 = .ok (.lconst 1, 1) := by decide +kernel
theorem dX7_wreck_61 : decode cX7_wreck 61 = .ok (.lstore 8, 2) := by decide +kernel
theorem dX7_wreck_63 : decode cX7_wreck 63 = .ok (.iconst 0, 1) := by decide +kernel
theorem dX7_wreck_64 : decode cX7_wreck 64 = .ok (.istore 10, 2) := by decide +kernel
theorem dX7_wreck_66 : decode cX7_wreck 66 = .ok (.iload 10, 2) := by decide +kernel
theorem dX7_wreck_68 : decode cX7_wreck 68 = .ok (.aload_n 0, 1) := by decide +kernel
theorem dX7_wreck_69 : decode cX7_wreck 69 = .ok (.getfield 19, 3) := by decide +kernel
theorem dX7_wreck_72 : decode cX7_wreck 72 = .ok (.iconst 4, 1) := by decide +kernel
theorem dX7_wreck_73 : decode cX7_wreck 73 = .ok (.iaload, 1) := by decide +kernel
theorem dX7_wreck_74 : decode cX7_wreck 74 = .ok (.if_icmp .ge 31, 3) := by decide +kernel
theorem dX7_wreck_77 : decode cX7_wreck 77 = .ok (.lload 8, 2) := by decide +kernel
theorem dX7_wreck_79 : decode cX7_wreck 79 = .ok (.iload 5, 2) := by decide +kernel
theorem dX7_wreck_81 : decode cX7_wreck 81 = .ok (.iload 10, 2) := by decide +kernel
theorem dX7_wreck_83 : decode cX7_wreck 83 = .ok (.invokestatic 148, 3) := by decide +kernel
theorem dX7_wreck_86 : decode cX7_wreck 86 = .ok (.ifCond .eq 9, 3) := by decide +kernel
theorem dX7_wreck_89 : decode cX7_wreck 89 = .ok (.ldc2_w 224, 3) := by decide +kernel
theorem dX7_wreck_92 : decode cX7_wreck 92 = .ok (.goto 4, 3) := by decide +kernel
theorem dX7_wreck_95 : decode cX7_wreck 95 = .ok (.lconst 1, 1) := by decide +kernel
theorem dX7_wreck_96 : decode cX7_wreck 96 = .ok (.lmul, 1) := by decide +kernel
theorem dX7_wreck_97 : decode cX7_wreck 97 = .ok (.lstore 8, 2) := by decide +kernel
theorem dX7_wreck_99 : decode cX7_wreck 99 = .ok (.iinc 10 1, 3) := by decide +kernel
theorem dX7_wreck_102 : decode cX7_wreck 102 = .ok (.goto (-36), 3) := by decide +kernel
theorem dX7_wreck_105 : decode cX7_wreck 105 = .ok (.iconst 0, 1) := by decide +kernel
theorem dX7_wreck_106 : decode cX7_wreck 106 = .ok (.istore 10, 2) := by decide +kernel
theorem dX7_wreck_108 : decode cX7_wreck 108 = .ok (.iload 10, 2) := by decide +kernel
theorem dX7_wreck_110 : decode cX7_wreck 110 = .ok (.iload 5, 2) := by decide +kernel
theorem dX7_wreck_112 : decode cX7_wreck 112 = .ok (.if_icmp .gt 115, 3) := by decide +kernel
theorem dX7_wreck_115 : decode cX7_wreck 115 = .ok (.iload 10, 2) := by decide +kernel
theorem dX7_wreck_117 : decode cX7_wreck 117 = .ok (.iload 5, 2) := by decide +kernel
theorem dX7_wreck_119 : decode cX7_wreck 119 = .ok (.iconst (-1), 1) := by decide +kernel
theorem dX7_wreck_120 : decode cX7_wreck 120 = .ok (.ixor, 1) := by decide +kernel
theorem dX7_wreck_121 : decode cX7_wreck 121 = .ok (.iand, 1) := by decide +kernel
theorem dX7_wreck_122 : decode cX7_wreck 122 = .ok (.ifCond .ne 99, 3) := by decide +kernel
theorem dX7_wreck_125 : decode cX7_wreck 125 = .ok (.lconst 1, 1) := by decide +kernel
theorem dX7_wreck_126 : decode cX7_wreck 126 = .ok (.lstore 11, 2) := by decide +kernel
theorem dX7_wreck_128 : decode cX7_wreck 128 = .ok (.iconst 0, 1) := by decide +kernel
theorem dX7_wreck_129 : decode cX7_wreck 129 = .ok (.istore 13, 2) := by decide +kernel
theorem dX7_wreck_131 : decode cX7_wreck 131 = .ok (.iload 13, 2) := by decide +kernel
theorem dX7_wreck_133 : decode cX7_wreck 133 = .ok (.aload_n 0, 1) := by decide +kernel
theorem dX7_wreck_134 : decode cX7_wreck 134 = .ok (.getfield 19, 3) := by decide +kernel
theorem dX7_wreck_137 : decode cX7_wreck 137 = .ok (.iconst 4, 1) := by decide +kernel
theorem dX7_wreck_138 : decode cX7_wreck 138 = .ok (.iaload, 1) := by decide +kernel
theorem dX7_wreck_139 : decode cX7_wreck 139 = .ok (.if_icmp .ge 48, 3) := by decide +kernel
theorem dX7_wreck_142 : decode cX7_wreck 142 = .ok (.lload 11, 2) := by decide +kernel
theorem dX7_wreck_144 : decode cX7_wreck 144 = .ok (.iload 5, 2) := by decide +kernel
theorem dX7_wreck_146 : decode cX7_wreck 146 = .ok (.iload 13, 2) := by decide +kernel
theorem dX7_wreck_148 : decode cX7_wreck 148 = .ok (.invokestatic 148, 3) := by decide +kernel
theorem dX7_wreck_151 : decode cX7_wreck 151 = .ok (.ifCond .ne 7, 3) := by decide +kernel
theorem dX7_wreck_154 : decode cX7_wreck 154 = .ok (.lconst 1, 1) := by decide +kernel
theorem dX7_wreck_155 : decode cX7_wreck 155 = .ok (.goto 23, 3) := by decide +kernel
theorem dX7_wreck_158 : decode cX7_wreck 158 = .ok (.iload 10, 2) := by decide +kernel
theorem dX7_wreck_160 : decode cX7_wreck 160 = .ok (.iload 13, 2) := by decide +kernel
theorem dX7_wreck_162 : decode cX7_wreck 162 = .ok (.invokestatic 148, 3) := by decide +kernel
theorem dX7_wreck_165 : decode cX7_wreck 165 = .ok (.ifCond .eq 8, 3) := by decide +kernel
theorem dX7_wreck_168 : decode cX7_wreck 168 = .ok (.iload_n 3, 1) := by decide +kernel
theorem dX7_wreck_169 : decode cX7_wreck 169 = .ok (.i2l, 1) := by decide +kernel
theorem dX7_wreck_170 : decode cX7_wreck 170 = .ok (.goto 8, 3) := by decide +kernel
theorem dX7_wreck_173 : decode cX7_wreck 173 = .ok (.bipush 10, 2) := by decide +kernel
theorem dX7_wreck_175 : decode cX7_wreck 175 = .ok (.iload_n 3, 1) := by decide +kernel
theorem dX7_wreck_176 : decode cX7_wreck 176 = .ok (.isub, 1) := by decide +kernel
theorem dX7_wreck_177 : decode cX7_wreck 177 = .ok (.i2l, 1) := by decide +kernel
theorem dX7_wreck_178 : decode cX7_wreck 178 = .ok (.lmul, 1) := by decide +kernel
theorem dX7_wreck_179 : decode cX7_wreck 179 = .ok (.lstore 11, 2) := by decide +kernel
theorem dX7_wreck_181 : decode cX7_wreck 181 = .ok (.iinc 13 1, 3) := by decide +kernel
theorem dX7_wreck_184 : decode cX7_wreck 184 = .ok (.goto (-53), 3) := by decide +kernel
theorem dX7_wreck_187 : decode cX7_wreck 187 = .ok (.aload_n 0, 1) := by decide +kernel
theorem dX7_wreck_188 : decode cX7_wreck 188 = .ok (.getfield 19, 3) := by decide +kernel
theorem dX7_wreck_191 : decode cX7_wreck 191 = .ok (.bipush 6, 2) := by decide +kernel
theorem dX7_wreck_193 : decode cX7_wreck 193 = .ok (.iload 5, 2) := by decide +kernel
theorem dX7_wreck_195 : decode cX7_wreck 195 = .ok (.iload 10, 2) := by decide +kernel
theorem dX7_wreck_197 : decode cX7_wreck 197 = .ok (.iconst (-1), 1) := by decide +kernel
theorem dX7_wreck_198 : decode cX7_wreck 198 = .ok (.ixor, 1) := by decide +kernel
theorem dX7_wreck_199 : decode cX7_wreck 199 = .ok (.iand, 1) := by decide +kernel
theorem dX7_wreck_200 : decode cX7_wreck 200 = .ok (.iastore, 1) := by decide +kernel
theorem dX7_wreck_201 : decode cX7_wreck 201 = .ok (.lload 6, 2) := by decide +kernel
theorem dX7_wreck_203 : decode cX7_wreck 203 = .ok (.aload_n 0, 1) := by decide +kernel
theorem dX7_wreck_204 : decode cX7_wreck 204 = .ok (.iload_n 2, 1) := by decide +kernel
theorem dX7_wreck_205 : decode cX7_wreck 205 = .ok (.invokevirtual 203, 3) := by decide +kernel
theorem dX7_wreck_208 : decode cX7_wreck 208 = .ok (.iload_n 1, 1) := by decide +kernel
theorem dX7_wreck_209 : decode cX7_wreck 209 = .ok (.if_icmp .ne 8, 3) := by decide +kernel
theorem dX7_wreck_212 : decode cX7_wreck 212 = .ok (.lload 11, 2) := by decide +kernel
theorem dX7_wreck_214 : decode cX7_wreck 214 = .ok (.goto 4, 3) := by decide +kernel
theorem dX7_wreck_217 : decode cX7_wreck 217 = .ok (.lconst 0, 1) := by decide +kernel
theorem dX7_wreck_218 : decode cX7_wreck 218 = .ok (.ladd, 1) := by decide +kernel
theorem dX7_wreck_219 : decode cX7_wreck 219 = .ok (.lstore 6, 2) := by decide +kernel
theorem dX7_wreck_221 : decode cX7_wreck 221 = .ok (.iinc 10 1, 3) := by decide +kernel
theorem dX7_wreck_224 : decode cX7_wreck 224 = .ok (.goto (-116), 3) := by decide +kernel
theorem dX7_wreck_227 : decode cX7_wreck 227 = .ok (.lload 6, 2) := by decide +kernel
theorem dX7_wreck_229 : decode cX7_wreck 229 = .ok (.lstore 10, 2) := by decide +kernel
theorem dX7_wreck_231 : decode cX7_wreck 231 = .ok (.lload 8, 2) := by decide +kernel
theorem dX7_wreck_233 : decode cX7_wreck 233 = .ok (.lstore 12, 2) := by decide +kernel
theorem dX7_wreck_235 : decode cX7_wreck 235 = .ok (.lload 12, 2) := by decide +kernel
theorem dX7_wreck_237 : decode cX7_wreck 237 = .ok (.lconst 0, 1) := by decide +kernel
theorem dX7_wreck_238 : decode cX7_wreck 238 = .ok (.lcmp, 1) := by decide +kernel
theorem dX7_wreck_239 : decode cX7_wreck 239 = .ok (.ifCond .eq 21, 3) := by decide +kernel
theorem dX7_wreck_242 : decode cX7_wreck 242 = .ok (.lload 10, 2) := by decide +kernel
theorem dX7_wreck_244 : decode cX7_wreck 244 = .ok (.lload 12, 2) := by decide +kernel
theorem dX7_wreck_246 : decode cX7_wreck 246 = .ok (.lrem, 1) := by decide +kernel
theorem dX7_wreck_247 : decode cX7_wreck 247 = .ok (.lstore 14, 2) := by decide +kernel
theorem dX7_wreck_249 : decode cX7_wreck 249 = .ok (.lload 12, 2) := by decide +kernel
theorem dX7_wreck_251 : decode cX7_wreck 251 = .ok (.lstore 10, 2) := by decide +kernel
theorem dX7_wreck_253 : decode cX7_wreck 253 = .ok (.lload 14, 2) := by decide +kernel
theorem dX7_wreck_255 : decode cX7_wreck 255 = .ok (.lstore 12, 2) := by decide +kernel
theorem dX7_wreck_257 : decode cX7_wreck 257 = .ok (.goto (-22), 3) := by decide +kernel
theorem dX7_wreck_260 : decode cX7_wreck 260 = .ok (.iload 4, 2) := by decide +kernel
theorem dX7_wreck_262 : decode cX7_wreck 262 = .ok (.ifCond .ne 11, 3) := by decide +kernel
theorem dX7_wreck_265 : decode cX7_wreck 265 = .ok (.lload 6, 2) := by decide +kernel
theorem dX7_wreck_267 : decode cX7_wreck 267 = .ok (.lload 10, 2) := by decide +kernel
theorem dX7_wreck_269 : decode cX7_wreck 269 = .ok (.ldiv, 1) := by decide +kernel
theorem dX7_wreck_270 : decode cX7_wreck 270 = .ok (.goto 8, 3) := by decide +kernel
theorem dX7_wreck_273 : decode cX7_wreck 273 = .ok (.lload 8, 2) := by decide +kernel
theorem dX7_wreck_275 : decode cX7_wreck 275 = .ok (.lload 10, 2) := by decide +kernel
theorem dX7_wreck_277 : decode cX7_wreck 277 = .ok (.ldiv, 1) := by decide +kernel
theorem dX7_wreck_278 : decode cX7_wreck 278 = .ok (.lreturn, 1) := by decide +kernel
theorem dX7_drawn_0 : decode cX7_drawn 0 = .ok (.aload_n 0, 1) := by decide +kernel
theorem dX7_drawn_1 : decode cX7_drawn 1 = .ok (.getfield 135, 3) := by decide +kernel
theorem dX7_drawn_4 : decode cX7_drawn 4 = .ok (.ifCond .ne 6, 3) := by decide +kernel
theorem dX7_drawn_7 : decode cX7_drawn 7 = .ok (.ldc 163, 2) := by decide +kernel
theorem dX7_drawn_9 : decode cX7_drawn 9 = .ok (.ireturn, 1) := by decide +kernel
theorem dX7_drawn_10 : decode cX7_drawn 10 = .ok (.iload_n 1, 1) := by decide +kernel
theorem dX7_drawn_11 : decode cX7_drawn 11 = .ok (.i2l, 1) := by decide +kernel
theorem dX7_drawn_12 : decode cX7_drawn 12 = .ok (.lconst 0, 1) := by decide +kernel
theorem dX7_drawn_13 : decode cX7_drawn 13 = .ok (.ldc2_w 198, 3) := by decide +kernel
theorem dX7_drawn_16 : decode cX7_drawn 16 = .ok (.invokestatic 54, 3) := by decide +kernel
theorem dX7_drawn_19 : decode cX7_drawn 19 = .ok (.ifCond .eq 22, 3) := by decide +kernel
theorem dX7_drawn_22 : decode cX7_drawn 22 = .ok (.iload_n 2, 1) := by decide +kernel
theorem dX7_drawn_23 : decode cX7_drawn 23 = .ok (.i2l, 1) := by decide +kernel
theorem dX7_drawn_24 : decode cX7_drawn 24 = .ok (.lconst 1, 1) := by decide +kernel
theorem dX7_drawn_25 : decode cX7_drawn 25 = .ok (.ldc2_w 228, 3) := by decide +kernel
theorem dX7_drawn_28 : decode cX7_drawn 28 = .ok (.invokestatic 54, 3) := by decide +kernel
theorem dX7_drawn_31 : decode cX7_drawn 31 = .ok (.ifCond .eq 10, 3) := by decide +kernel
theorem dX7_drawn_34 : decode cX7_drawn 34 = .ok (.iload_n 3, 1) := by decide +kernel
theorem dX7_drawn_35 : decode cX7_drawn 35 = .ok (.invokestatic 209, 3) := by decide +kernel
theorem dX7_drawn_38 : decode cX7_drawn 38 = .ok (.ifCond .ne 6, 3) := by decide +kernel
theorem dX7_drawn_41 : decode cX7_drawn 41 = .ok (.ldc 64, 2) := by decide +kernel
theorem dX7_drawn_43 : decode cX7_drawn 43 = .ok (.ireturn, 1) := by decide +kernel
theorem dX7_drawn_44 : decode cX7_drawn 44 = .ok (.aload_n 0, 1) := by decide +kernel
theorem dX7_drawn_45 : decode cX7_drawn 45 = .ok (.invokevirtual 200, 3) := by decide +kernel
theorem dX7_drawn_48 : decode cX7_drawn 48 = .ok (.iload_n 2, 1) := by decide +kernel
theorem dX7_drawn_49 : decode cX7_drawn 49 = .ok (.i2l, 1) := by decide +kernel
theorem dX7_drawn_50 : decode cX7_drawn 50 = .ok (.lstore 4, 2) := by decide +kernel
theorem dX7_drawn_52 : decode cX7_drawn 52 = .ok (.aload_n 0, 1) := by decide +kernel
theorem dX7_drawn_53 : decode cX7_drawn 53 = .ok (.invokevirtual 230, 3) := by decide +kernel
theorem dX7_drawn_56 : decode cX7_drawn 56 = .ok (.istore 6, 2) := by decide +kernel
theorem dX7_drawn_58 : decode cX7_drawn 58 = .ok (.iconst (-1), 1) := by decide +kernel
theorem dX7_drawn_59 : decode cX7_drawn 59 = .ok (.istore 7, 2) := by decide +kernel
theorem dX7_drawn_61 : decode cX7_drawn 61 = .ok (.iconst 0, 1) := by decide +kernel
theorem dX7_drawn_62 : decode cX7_drawn 62 = .ok (.istore 8, 2) := by decide +kernel
theorem dX7_drawn_64 : decode cX7_drawn 64 = .ok (.iconst 0, 1) := by decide +kernel
theorem dX7_drawn_65 : decode cX7_drawn 65 = .ok (.istore 9, 2) := by decide +kernel
theorem dX7_drawn_67 : decode cX7_drawn 67 = .ok (.iload 9, 2) := by decide +kernel
theorem dX7_drawn_69 : decode cX7_drawn 69 = .ok (.iload_n 1, 1) := by decide +kernel
theorem dX7_drawn_70 : decode cX7_drawn 70 = .ok (.if_icmp .ge 106, 3) := by decide +kernel
theorem dX7_drawn_73 : decode cX7_drawn 73 = .ok (.lload 4, 2) := by decide +kernel
theorem dX7_drawn_75 : decode cX7_drawn 75 = .ok (.ldc2_w 233, 3) := by decide +kernel
theorem dX7_drawn_78 : decode cX7_drawn 78 = .ok (.lmul, 1) := by decide +kernel
theorem dX7_drawn_79 : decode cX7_drawn 79 = .ok (.ldc2_w 235, 3) := by decide +kernel
theorem dX7_drawn_82 : decode cX7_drawn 82 = .ok (.lrem, 1) := by decide +kernel
theorem dX7_drawn_83 : decode cX7_drawn 83 = .ok (.lstore 4, 2) := by decide +kernel
theorem dX7_drawn_85 : decode cX7_drawn 85 = .ok (.aload_n 0, 1) := by decide +kernel
theorem dX7_drawn_86 : decode cX7_drawn 86 = .ok (.getfield 19, 3) := by decide +kernel
theorem dX7_drawn_89 : decode cX7_drawn 89 = .ok (.iconst 2, 1) := by decide +kernel
theorem dX7_drawn_90 : decode cX7_drawn 90 = .ok (.lload 4, 2) := by decide +kernel
theorem dX7_drawn_92 : decode cX7_drawn 92 = .ok (.ldc2_w 237, 3) := by decide +kernel
theorem dX7_drawn_95 : decode cX7_drawn 95 = .ok (.lrem, 1) := by decide +kernel
theorem dX7_drawn_96 : decode cX7_drawn 96 = .ok (.l2i, 1) := by decide +kernel
theorem dX7_drawn_97 : decode cX7_drawn 97 = .ok (.iastore, 1) := by decide +kernel
theorem dX7_drawn_98 : decode cX7_drawn 98 = .ok (.lload 4, 2) := by decide +kernel
theorem dX7_drawn_100 : decode cX7_drawn 100 = .ok (.ldc2_w 239, 3) := by decide +kernel
theorem dX7_drawn_103 : decode cX7_drawn 103 = .ok (.lrem, 1) := by decide +kernel
theorem dX7_drawn_104 : decode cX7_drawn 104 = .ok (.lconst 0, 1) := by decide +kernel
theorem dX7_drawn_105 : decode cX7_drawn 105 = .ok (.lcmp, 1) := by decide +kernel
theorem dX7_drawn_106 : decode cX7_drawn 106 = .ok (.ifCond .ne 26, 3) := by decide +kernel
theorem dX7_drawn_109 : decode cX7_drawn 109 = .ok (.aload_n 0, 1) := by decide +kernel
theorem dX7_drawn_110 : decode cX7_drawn 110 = .ok (.getfield 19, 3) := by decide +kernel
theorem dX7_drawn_113 : decode cX7_drawn 113 = .ok (.bipush 6, 2) := by decide +kernel
theorem dX7_drawn_115 : decode cX7_drawn 115 = .ok (.dup2, 1) := by decide +kernel
theorem dX7_drawn_116 : decode cX7_drawn 116 = .ok (.iaload, 1) := by decide +kernel
theorem dX7_drawn_117 : decode cX7_drawn 117 = .ok (.iconst 1, 1) := by decide +kernel
theorem dX7_drawn_118 : decode cX7_drawn 118 = .ok (.lload 4, 2) := by decide +kernel
theorem dX7_drawn_120 : decode cX7_drawn 120 = .ok (.aload_n 0, 1) := by decide +kernel
theorem dX7_drawn_121 : decode cX7_drawn 121 = .ok (.getfield 19, 3) := by decide +kernel
theorem dX7_drawn_124 : decode cX7_drawn 124 = .ok (.iconst 4, 1) := by decide +kernel
theorem dX7_drawn_125 : decode cX7_drawn 125 = .ok (.iaload, 1) := by decide +kernel
theorem dX7_drawn_126 : decode cX7_drawn 126 = .ok (.i2l, 1) := by decide +kernel
theorem dX7_drawn_127 : decode cX7_drawn 127 = .ok (.lrem, 1) := by decide +kernel
theorem dX7_drawn_128 : decode cX7_drawn 128 = .ok (.l2i, 1) := by decide +kernel
theorem dX7_drawn_129 : decode cX7_drawn 129 = .ok (.ishl, 1) := by decide +kernel
theorem dX7_drawn_130 : decode cX7_drawn 130 = .ok (.ixor, 1) := by decide +kernel
theorem dX7_drawn_131 : decode cX7_drawn 131 = .ok (.iastore, 1) := by decide +kernel
theorem dX7_drawn_132 : decode cX7_drawn 132 = .ok (.aload_n 0, 1) := by decide +kernel
theorem dX7_drawn_133 : decode cX7_drawn 133 = .ok (.invokevirtual 169, 3) := by decide +kernel
theorem dX7_drawn_136 : decode cX7_drawn 136 = .ok (.aload_n 0, 1) := by decide +kernel
theorem dX7_drawn_137 : decode cX7_drawn 137 = .ok (.getfield 19, 3) := by decide +kernel
theorem dX7_drawn_140 : decode cX7_drawn 140 = .ok (.bipush 7, 2) := by decide +kernel
theorem dX7_drawn_142 : decode cX7_drawn 142 = .ok (.iaload, 1) := by decide +kernel
theorem dX7_drawn_143 : decode cX7_drawn 143 = .ok (.ifCond .lt 27, 3) := by decide +kernel
theorem dX7_drawn_146 : decode cX7_drawn 146 = .ok (.aload_n 0, 1) := by decide +kernel
theorem dX7_drawn_147 : decode cX7_drawn 147 = .ok (.getfield 19, 3) := by decide +kernel
theorem dX7_drawn_150 : decode cX7_drawn 150 = .ok (.bipush 7, 2) := by decide +kernel
theorem dX7_drawn_152 : decode cX7_drawn 152 = .ok (.iaload, 1) := by decide +kernel
theorem dX7_drawn_153 : decode cX7_drawn 153 = .ok (.iload 7, 2) := by decide +kernel
theorem dX7_drawn_155 : decode cX7_drawn 155 = .ok (.if_icmp .eq 15, 3) := by decide +kernel
theorem dX7_drawn_158 : decode cX7_drawn 158 = .ok (.aload_n 0, 1) := by decide +kernel
theorem dX7_drawn_159 : decode cX7_drawn 159 = .ok (.getfield 19, 3) := by decide +kernel
theorem dX7_drawn_162 : decode cX7_drawn 162 = .ok (.bipush 7, 2) := by decide +kernel
theorem dX7_drawn_164 : decode cX7_drawn 164 = .ok (.iaload, 1) := by decide +kernel
theorem dX7_drawn_165 : decode cX7_drawn 165 = .ok (.istore 7, 2) := by decide +kernel
theorem dX7_drawn_167 : decode cX7_drawn 167 = .ok (.iinc 8 1, 3) := by decide +kernel
theorem dX7_drawn_170 : decode cX7_drawn 170 = .ok (.iinc 9 1, 3) := by decide +kernel
theorem dX7_drawn_173 : decode cX7_drawn 173 = .ok (.goto (-106), 3) := by decide +kernel
theorem dX7_drawn_176 : decode cX7_drawn 176 = .ok (.iload_n 3, 1) := by decide +kernel
theorem dX7_drawn_177 : decode cX7_drawn 177 = .ok (.ifCond .ne 13, 3) := by decide +kernel
theorem dX7_drawn_180 : decode cX7_drawn 180 = .ok (.aload_n 0, 1) := by decide +kernel
theorem dX7_drawn_181 : decode cX7_drawn 181 = .ok (.invokevirtual 230, 3) := by decide +kernel
theorem dX7_drawn_184 : decode cX7_drawn 184 = .ok (.iload 6, 2) := by decide +kernel
theorem dX7_drawn_186 : decode cX7_drawn 186 = .ok (.isub, 1) := by decide +kernel
theorem dX7_drawn_187 : decode cX7_drawn 187 = .ok (.goto 5, 3) := by decide +kernel
theorem dX7_drawn_190 : decode cX7_drawn 190 = .ok (.iload 8, 2) := by decide +kernel
theorem dX7_drawn_192 : decode cX7_drawn 192 = .ok (.istore 9, 2) := by decide +kernel
theorem dX7_drawn_194 : decode cX7_drawn 194 = .ok (.aload_n 0, 1) := by decide +kernel
theorem dX7_drawn_195 : decode cX7_drawn 195 = .ok (.invokevirtual 195, 3) := by decide +kernel
theorem dX7_drawn_198 : decode cX7_drawn 198 = .ok (.iload 9, 2) := by decide +kernel
theorem dX7_drawn_200 : decode cX7_drawn 200 = .ok (.ireturn, 1) := by decide +kernel
theorem dX7_image_0 : decode cX7_image 0 = .ok (.iload_n 1, 1) := by decide +kernel
theorem dX7_image_1 : decode cX7_image 1 = .ok (.i2l, 1) := by decide +kernel
theorem dX7_image_2 : decode cX7_image 2 = .ok (.lconst 0, 1) := by decide +kernel
theorem dX7_image_3 : decode cX7_image 3 = .ok (.lconst 1, 1) := by decide +kernel
theorem dX7_image_4 : decode cX7_image 4 = .ok (.invokestatic 54, 3) := by decide +kernel
theorem dX7_image_7 : decode cX7_image 7 = .ok (.ifCond .ne 6, 3) := by decide +kernel
theorem dX7_image_10 : decode cX7_image 10 = .ok (.ldc 64, 2) := by decide +kernel
theorem dX7_image_12 : decode cX7_image 12 = .ok (.ireturn, 1) := by decide +kernel
theorem dX7_image_13 : decode cX7_image 13 = .ok (.aload_n 0, 1) := by decide +kernel
theorem dX7_image_14 : decode cX7_image 14 = .ok (.getfield 135, 3) := by decide +kernel
theorem dX7_image_17 : decode cX7_image 17 = .ok (.ifCond .ne 6, 3) := by decide +kernel
theorem dX7_image_20 : decode cX7_image 20 = .ok (.ldc 163, 2) := by decide +kernel
theorem dX7_image_22 : decode cX7_image 22 = .ok (.ireturn, 1) := by decide +kernel
theorem dX7_image_23 : decode cX7_image 23 = .ok (.iconst 0, 1) := by decide +kernel
theorem dX7_image_24 : decode cX7_image 24 = .ok (.istore_n 2, 1) := by decide +kernel
theorem dX7_image_25 : decode cX7_image 25 = .ok (.iload_n 2, 1) := by decide +kernel
theorem dX7_image_26 : decode cX7_image 26 = .ok (.bipush 44, 2) := by decide +kernel
theorem dX7_image_28 : decode cX7_image 28 = .ok (.if_icmp .ge 26, 3) := by decide +kernel
theorem dX7_image_31 : decode cX7_image 31 = .ok (.aload_n 0, 1) := by decide +kernel
theorem dX7_image_32 : decode cX7_image 32 = .ok (.getfield 41, 3) := by decide +kernel
theorem dX7_image_35 : decode cX7_image 35 = .ok (.bipush 44, 2) := by decide +kernel
theorem dX7_image_37 : decode cX7_image 37 = .ok (.iload_n 1, 1) := by decide +kernel
theorem dX7_image_38 : decode cX7_image 38 = .ok (.imul, 1) := by decide +kernel
theorem dX7_image_39 : decode cX7_image 39 = .ok (.iload_n 2, 1) := by decide +kernel
theorem dX7_image_40 : decode cX7_image 40 = .ok (.iadd, 1) := by decide +kernel
theorem dX7_image_41 : decode cX7_image 41 = .ok (.aload_n 0, 1) := by decide +kernel
theorem dX7_image_42 : decode cX7_image 42 = .ok (.getfield 19, 3) := by decide +kernel
theorem dX7_image_45 : decode cX7_image 45 = .ok (.iload_n 2, 1) := by decide +kernel
theorem dX7_image_46 : decode cX7_image 46 = .ok (.iaload, 1) := by decide +kernel
theorem dX7_image_47 : decode cX7_image 47 = .ok (.iastore, 1) := by decide +kernel
theorem dX7_image_48 : decode cX7_image 48 = .ok (.iinc 2 1, 3) := by decide +kernel
theorem dX7_image_51 : decode cX7_image 51 = .ok (.goto (-26), 3) := by decide +kernel
theorem dX7_image_54 : decode cX7_image 54 = .ok (.aload_n 0, 1) := by decide +kernel
theorem dX7_image_55 : decode cX7_image 55 = .ok (.getfield 37, 3) := by decide +kernel
theorem dX7_image_58 : decode cX7_image 58 = .ok (.iload_n 1, 1) := by decide +kernel
theorem dX7_image_59 : decode cX7_image 59 = .ok (.iconst 1, 1) := by decide +kernel
theorem dX7_image_60 : decode cX7_image 60 = .ok (.bastore, 1) := by decide +kernel
theorem dX7_image_61 : decode cX7_image 61 = .ok (.iconst 1, 1) := by decide +kernel
theorem dX7_image_62 : decode cX7_image 62 = .ok (.ireturn, 1) := by decide +kernel
theorem dX7_restore_0 : decode cX7_restore 0 = .ok (.iload_n 1, 1) := by decide +kernel
theorem dX7_restore_1 : decode cX7_restore 1 = .ok (.i2l, 1) := by decide +kernel
theorem dX7_restore_2 : decode cX7_restore 2 = .ok (.lconst 0, 1) := by decide +kernel
theorem dX7_restore_3 : decode cX7_restore 3 = .ok (.lconst 1, 1) := by decide +kernel
theorem dX7_restore_4 : decode cX7_restore 4 = .ok (.invokestatic 54, 3) := by decide +kernel
theorem dX7_restore_7 : decode cX7_restore 7 = .ok (.ifCond .ne 6, 3) := by decide +kernel
theorem dX7_restore_10 : decode cX7_restore 10 = .ok (.ldc 64, 2) := by decide +kernel
theorem dX7_restore_12 : decode cX7_restore 12 = .ok (.ireturn, 1) := by decide +kernel
theorem dX7_restore_13 : decode cX7_restore 13 = .ok (.aload_n 0, 1) := by decide +kernel
theorem dX7_restore_14 : decode cX7_restore 14 = .ok (.getfield 37, 3) := by decide +kernel
theorem dX7_restore_17 : decode cX7_restore 17 = .ok (.iload_n 1, 1) := by decide +kernel
theorem dX7_restore_18 : decode cX7_restore 18 = .ok (.baload, 1) := by decide +kernel
theorem dX7_restore_19 : decode cX7_restore 19 = .ok (.ifCond .ne 6, 3) := by decide +kernel
theorem dX7_restore_22 : decode cX7_restore 22 = .ok (.ldc 163, 2) := by decide +kernel
theorem dX7_restore_24 : decode cX7_restore 24 = .ok (.ireturn, 1) := by decide +kernel
theorem dX7_restore_25 : decode cX7_restore 25 = .ok (.iconst 0, 1) := by decide +kernel
theorem dX7_restore_26 : decode cX7_restore 26 = .ok (.istore_n 2, 1) := by decide +kernel
theorem dX7_restore_27 : decode cX7_restore 27 = .ok (.iload_n 2, 1) := by decide +kernel
theorem dX7_restore_28 : decode cX7_restore 28 = .ok (.bipush 44, 2) := by decide +kernel
theorem dX7_restore_30 : decode cX7_restore 30 = .ok (.if_icmp .ge 26, 3) := by decide +kernel
theorem dX7_restore_33 : decode cX7_restore 33 = .ok (.aload_n 0, 1) := by decide +kernel
theorem dX7_restore_34 : decode cX7_restore 34 = .ok (.getfield 19, 3) := by decide +kernel
theorem dX7_restore_37 : decode cX7_restore 37 = .ok (.iload_n 2, 1) := by decide +kernel
theorem dX7_restore_38 : decode cX7_restore 38 = .ok (.aload_n 0, 1) := by decide +kernel
theorem dX7_restore_39 : decode cX7_restore 39 = .ok (.getfield 41, 3) := by decide +kernel
theorem dX7_restore_42 : decode cX7_restore 42 = .ok (.bipush 44, 2) := by decide +kernel
theorem dX7_restore_44 : decode cX7_restore 44 = .ok (.iload_n 1, 1) := by decide +kernel
theorem dX7_restore_45 : decode cX7_restore 45 = .ok (.imul, 1) := by decide +kernel
theorem dX7_restore_46 : decode cX7_restore 46 = .ok (.iload_n 2, 1) := by decide +kernel
theorem dX7_restore_47 : decode cX7_restore 47 = .ok (.iadd, 1) := by decide +kernel
theorem dX7_restore_48 : decode cX7_restore 48 = .ok (.iaload, 1) := by decide +kernel
theorem dX7_restore_49 : decode cX7_restore 49 = .ok (.iastore, 1) := by decide +kernel
theorem dX7_restore_50 : decode cX7_restore 50 = .ok (.iinc 2 1, 3) := by decide +kernel
theorem dX7_restore_53 : decode cX7_restore 53 = .ok (.goto (-26), 3) := by decide +kernel
theorem dX7_restore_56 : decode cX7_restore 56 = .ok (.aload_n 0, 1) := by decide +kernel
theorem dX7_restore_57 : decode cX7_restore 57 = .ok (.iconst 0, 1) := by decide +kernel
theorem dX7_restore_58 : decode cX7_restore 58 = .ok (.putfield 139, 3) := by decide +kernel
theorem dX7_restore_61 : decode cX7_restore 61 = .ok (.iconst 1, 1) := by decide +kernel
theorem dX7_restore_62 : decode cX7_restore 62 = .ok (.ireturn, 1) := by decide +kernel
theorem dX7_kind_0 : decode cX7_kind 0 = .ok (.aload_n 0, 1) := by decide +kernel
theorem dX7_kind_1 : decode cX7_kind 1 = .ok (.iload_n 1, 1) := by decide +kernel
theorem dX7_kind_2 : decode cX7_kind 2 = .ok (.invokevirtual 175, 3) := by decide +kernel
theorem dX7_kind_5 : decode cX7_kind 5 = .ok (.ifCond .eq 15, 3) := by decide +kernel
theorem dX7_kind_8 : decode cX7_kind 8 = .ok (.aload_n 0, 1) := by decide +kernel
theorem dX7_kind_9 : decode cX7_kind 9 = .ok (.getfield 19, 3) := by decide +kernel
theorem dX7_kind_12 : decode cX7_kind 12 = .ok (.bipush 14, 2) := by decide +kernel
theorem dX7_kind_14 : decode cX7_kind 14 = .ok (.iload_n 1, 1) := by decide +kernel
theorem dX7_kind_15 : decode cX7_kind 15 = .ok (.iadd, 1) := by decide +kernel
theorem dX7_kind_16 : decode cX7_kind 16 = .ok (.iaload, 1) := by decide +kernel
theorem dX7_kind_17 : decode cX7_kind 17 = .ok (.goto 5, 3) := by decide +kernel
theorem dX7_kind_20 : decode cX7_kind 20 = .ok (.ldc 64, 2) := by decide +kernel
theorem dX7_kind_22 : decode cX7_kind 22 = .ok (.ireturn, 1) := by decide +kernel
theorem dX7_isKind_0 : decode cX7_isKind 0 = .ok (.iload_n 1, 1) := by decide +kernel
theorem dX7_isKind_1 : decode cX7_isKind 1 = .ok (.ifCond .eq 28, 3) := by decide +kernel
theorem dX7_isKind_4 : decode cX7_isKind 4 = .ok (.iload_n 0, 1) := by decide +kernel
theorem dX7_isKind_5 : decode cX7_isKind 5 = .ok (.iload_n 1, 1) := by decide +kernel
theorem dX7_isKind_6 : decode cX7_isKind 6 = .ok (.if_icmp .eq 23, 3) := by decide +kernel
theorem dX7_isKind_9 : decode cX7_isKind 9 = .ok (.iload_n 1, 1) := by decide +kernel
theorem dX7_isKind_10 : decode cX7_isKind 10 = .ok (.iconst 1, 1) := by decide +kernel
theorem dX7_isKind_11 : decode cX7_isKind 11 = .ok (.if_icmp .ne 8, 3) := by decide +kernel
theorem dX7_isKind_14 : decode cX7_isKind 14 = .ok (.iload_n 0, 1) := by decide +kernel
theorem dX7_isKind_15 : decode cX7_isKind 15 = .ok (.iconst 4, 1) := by decide +kernel
theorem dX7_isKind_16 : decode cX7_isKind 16 = .ok (.if_icmp .lt 13, 3) := by decide +kernel
theorem dX7_isKind_19 : decode cX7_isKind 19 = .ok (.iload_n 1, 1) := by decide +kernel
theorem dX7_isKind_20 : decode cX7_isKind 20 = .ok (.iconst 4, 1) := by decide +kernel
theorem dX7_isKind_21 : decode cX7_isKind 21 = .ok (.if_icmp .ne 12, 3) := by decide +kernel
theorem dX7_isKind_24 : decode cX7_isKind 24 = .ok (.iload_n 0, 1) := by decide +kernel
theorem dX7_isKind_25 : decode cX7_isKind 25 = .ok (.iconst 5, 1) := by decide +kernel
theorem dX7_isKind_26 : decode cX7_isKind 26 = .ok (.if_icmp .ne 7, 3) := by decide +kernel
theorem dX7_isKind_29 : decode cX7_isKind 29 = .ok (.iconst 1, 1) := by decide +kernel
theorem dX7_isKind_30 : decode cX7_isKind 30 = .ok (.goto 4, 3) := by decide +kernel
theorem dX7_isKind_33 : decode cX7_isKind 33 = .ok (.iconst 0, 1) := by decide +kernel
theorem dX7_isKind_34 : decode cX7_isKind 34 = .ok (.ireturn, 1) := by decide +kernel
theorem dX7_as_0 : decode cX7_as 0 = .ok (.aload_n 0, 1) := by decide +kernel
theorem dX7_as_1 : decode cX7_as 1 = .ok (.iload_n 1, 1) := by decide +kernel
theorem dX7_as_2 : decode cX7_as 2 = .ok (.invokevirtual 175, 3) := by decide +kernel
theorem dX7_as_5 : decode cX7_as 5 = .ok (.ifCond .eq 15, 3) := by decide +kernel
theorem dX7_as_8 : decode cX7_as 8 = .ok (.iload_n 2, 1) := by decide +kernel
theorem dX7_as_9 : decode cX7_as 9 = .ok (.i2l, 1) := by decide +kernel
theorem dX7_as_10 : decode cX7_as 10 = .ok (.lconst 0, 1) := by decide +kernel
theorem dX7_as_11 : decode cX7_as 11 = .ok (.ldc2_w 239, 3) := by decide +kernel
theorem dX7_as_14 : decode cX7_as 14 = .ok (.invokestatic 54, 3) := by decide +kernel
theorem dX7_as_17 : decode cX7_as 17 = .ok (.ifCond .ne 6, 3) := by decide +kernel
theorem dX7_as_20 : decode cX7_as 20 = .ok (.ldc 64, 2) := by decide +kernel
theorem dX7_as_22 : decode cX7_as 22 = .ok (.ireturn, 1) := by decide +kernel
theorem dX7_as_23 : decode cX7_as 23 = .ok (.aload_n 0, 1) := by decide +kernel
theorem dX7_as_24 : decode cX7_as 24 = .ok (.getfield 19, 3) := by decide +kernel
theorem dX7_as_27 : decode cX7_as 27 = .ok (.bipush 14, 2) := by decide +kernel
theorem dX7_as_29 : decode cX7_as 29 = .ok (.iload_n 1, 1) := by decide +kernel
theorem dX7_as_30 : decode cX7_as 30 = .ok (.iadd, 1) := by decide +kernel
theorem dX7_as_31 : decode cX7_as 31 = .ok (.iaload, 1) := by decide +kernel
theorem dX7_as_32 : decode cX7_as 32 = .ok (.iload_n 2, 1) := by decide +kernel
theorem dX7_as_33 : decode cX7_as 33 = .ok (.invokestatic 241, 3) := by decide +kernel
theorem dX7_as_36 : decode cX7_as 36 = .ok (.ifCond .eq 11, 3) := by decide +kernel
theorem dX7_as_39 : decode cX7_as 39 = .ok (.aload_n 0, 1) := by decide +kernel
theorem dX7_as_40 : decode cX7_as 40 = .ok (.iload_n 1, 1) := by decide +kernel
theorem dX7_as_41 : decode cX7_as 41 = .ok (.invokevirtual 69, 3) := by decide +kernel
theorem dX7_as_44 : decode cX7_as 44 = .ok (.goto 8, 3) := by decide +kernel
theorem dX7_as_47 : decode cX7_as 47 = .ok (.aload_n 0, 1) := by decide +kernel
theorem dX7_as_48 : decode cX7_as 48 = .ok (.iconst 3, 1) := by decide +kernel
theorem dX7_as_49 : decode cX7_as 49 = .ok (.invokevirtual 65, 3) := by decide +kernel
theorem dX7_as_52 : decode cX7_as 52 = .ok (.ireturn, 1) := by decide +kernel
theorem dX7_begin_0 : decode cX7_begin 0 = .ok (.aload_n 0, 1) := by decide +kernel
theorem dX7_begin_1 : decode cX7_begin 1 = .ok (.getfield 244, 3) := by decide +kernel
theorem dX7_begin_4 : decode cX7_begin 4 = .ok (.bipush 16, 2) := by decide +kernel
theorem dX7_begin_6 : decode cX7_begin 6 = .ok (.if_icmp .ge 23, 3) := by decide +kernel
theorem dX7_begin_9 : decode cX7_begin 9 = .ok (.aload_n 0, 1) := by decide +kernel
theorem dX7_begin_10 : decode cX7_begin 10 = .ok (.getfield 44, 3) := by decide +kernel
theorem dX7_begin_13 : decode cX7_begin 13 = .ok (.aload_n 0, 1) := by decide +kernel
theorem dX7_begin_14 : decode cX7_begin 14 = .ok (.getfield 244, 3) := by decide +kernel
theorem dX7_begin_17 : decode cX7_begin 17 = .ok (.iload_n 1, 1) := by decide +kernel
theorem dX7_begin_18 : decode cX7_begin 18 = .ok (.iastore, 1) := by decide +kernel
theorem dX7_begin_19 : decode cX7_begin 19 = .ok (.aload_n 0, 1) := by decide +kernel
theorem dX7_begin_20 : decode cX7_begin 20 = .ok (.dup, 1) := by decide +kernel
theorem dX7_begin_21 : decode cX7_begin 21 = .ok (.getfield 244, 3) := by decide +kernel
theorem dX7_begin_24 : decode cX7_begin 24 = .ok (.iconst 1, 1) := by decide +kernel
theorem dX7_begin_25 : decode cX7_begin 25 = .ok (.iadd, 1) := by decide +kernel
theorem dX7_begin_26 : decode cX7_begin 26 = .ok (.putfield 244, 3) := by decide +kernel
theorem dX7_begin_29 : decode cX7_begin 29 = .ok (.return_, 1) := by decide +kernel
theorem dX7_lent_0 : decode cX7_lent 0 = .ok (.aload_n 0, 1) := by decide +kernel
theorem dX7_lent_1 : decode cX7_lent 1 = .ok (.iload_n 2, 1) := by decide +kernel
theorem dX7_lent_2 : decode cX7_lent 2 = .ok (.invokevirtual 247, 3) := by decide +kernel
theorem dX7_lent_5 : decode cX7_lent 5 = .ok (.iload_n 2, 1) := by decide +kernel
theorem dX7_lent_6 : decode cX7_lent 6 = .ok (.bipush 10, 2) := by decide +kernel
theorem dX7_lent_8 : decode cX7_lent 8 = .ok (.if_icmp .ne 15, 3) := by decide +kernel
theorem dX7_lent_11 : decode cX7_lent 11 = .ok (.aload_n 0, 1) := by decide +kernel
theorem dX7_lent_12 : decode cX7_lent 12 = .ok (.getfield 19, 3) := by decide +kernel
theorem dX7_lent_15 : decode cX7_lent 15 = .ok (.bipush 26, 2) := by decide +kernel
theorem dX7_lent_17 : decode cX7_lent 17 = .ok (.iload_n 1, 1) := by decide +kernel
theorem dX7_lent_18 : decode cX7_lent 18 = .ok (.iadd, 1) := by decide +kernel
theorem dX7_lent_19 : decode cX7_lent 19 = .ok (.iaload, 1) := by decide +kernel
theorem dX7_lent_20 : decode cX7_lent 20 = .ok (.goto 4, 3) := by decide +kernel
theorem dX7_lent_23 : decode cX7_lent 23 = .ok (.iload_n 1, 1) := by decide +kernel
theorem dX7_lent_24 : decode cX7_lent 24 = .ok (.ireturn, 1) := by decide +kernel
theorem dX7_sailMark_0 : decode cX7_sailMark 0 = .ok (.aload_n 0, 1) := by decide +kernel
theorem dX7_sailMark_1 : decode cX7_sailMark 1 = .ok (.bipush 21, 2) := by decide +kernel
theorem dX7_sailMark_3 : decode cX7_sailMark 3 = .ok (.invokevirtual 247, 3) := by decide +kernel
theorem dX7_sailMark_6 : decode cX7_sailMark 6 = .ok (.aload_n 0, 1) := by decide +kernel
theorem dX7_sailMark_7 : decode cX7_sailMark 7 = .ok (.iload_n 1, 1) := by decide +kernel
theorem dX7_sailMark_8 : decode cX7_sailMark 8 = .ok (.bipush 20, 2) := by decide +kernel
theorem dX7_sailMark_10 : decode cX7_sailMark 10 = .ok (.invokevirtual 250, 3) := by decide +kernel
theorem dX7_sailMark_13 : decode cX7_sailMark 13 = .ok (.aload_n 0, 1) := by decide +kernel
theorem dX7_sailMark_14 : decode cX7_sailMark 14 = .ok (.getfield 19, 3) := by decide +kernel
theorem dX7_sailMark_17 : decode cX7_sailMark 17 = .ok (.bipush 32, 2) := by decide +kernel
theorem dX7_sailMark_19 : decode cX7_sailMark 19 = .ok (.iload_n 1, 1) := by decide +kernel
theorem dX7_sailMark_20 : decode cX7_sailMark 20 = .ok (.iadd, 1) := by decide +kernel
theorem dX7_sailMark_21 : decode cX7_sailMark 21 = .ok (.iaload, 1) := by decide +kernel
theorem dX7_sailMark_22 : decode cX7_sailMark 22 = .ok (.iadd, 1) := by decide +kernel
theorem dX7_sailMark_23 : decode cX7_sailMark 23 = .ok (.ireturn, 1) := by decide +kernel
theorem dX7_ferrySize_0 : decode cX7_ferrySize 0 = .ok (.aload_n 0, 1) := by decide +kernel
theorem dX7_ferrySize_1 : decode cX7_ferrySize 1 = .ok (.bipush 13, 2) := by decide +kernel
theorem dX7_ferrySize_3 : decode cX7_ferrySize 3 = .ok (.invokevirtual 247, 3) := by decide +kernel
theorem dX7_ferrySize_6 : decode cX7_ferrySize 6 = .ok (.aload_n 0, 1) := by decide +kernel
theorem dX7_ferrySize_7 : decode cX7_ferrySize 7 = .ok (.iload_n 1, 1) := by decide +kernel
theorem dX7_ferrySize_8 : decode cX7_ferrySize 8 = .ok (.bipush 10, 2) := by decide +kernel
theorem dX7_ferrySize_10 : decode cX7_ferrySize 10 = .ok (.invokevirtual 250, 3) := by decide +kernel
theorem dX7_ferrySize_13 : decode cX7_ferrySize 13 = .ok (.bipush 100, 2) := by decide +kernel
theorem dX7_ferrySize_15 : decode cX7_ferrySize 15 = .ok (.isub, 1) := by decide +kernel
theorem dX7_ferrySize_16 : decode cX7_ferrySize 16 = .ok (.ireturn, 1) := by decide +kernel
theorem dX7_sizeOfFerry_0 : decode cX7_sizeOfFerry 0 = .ok (.aload_n 0, 1) := by decide +kernel
theorem dX7_sizeOfFerry_1 : decode cX7_sizeOfFerry 1 = .ok (.getfield 19, 3) := by decide +kernel
theorem dX7_sizeOfFerry_4 : decode cX7_sizeOfFerry 4 = .ok (.bipush 14, 2) := by decide +kernel
theorem dX7_sizeOfFerry_6 : decode cX7_sizeOfFerry 6 = .ok (.iload_n 1, 1) := by decide +kernel
theorem dX7_sizeOfFerry_7 : decode cX7_sizeOfFerry 7 = .ok (.iadd, 1) := by decide +kernel
theorem dX7_sizeOfFerry_8 : decode cX7_sizeOfFerry 8 = .ok (.iaload, 1) := by decide +kernel
theorem dX7_sizeOfFerry_9 : decode cX7_sizeOfFerry 9 = .ok (.iconst 5, 1) := by decide +kernel
theorem dX7_sizeOfFerry_10 : decode cX7_sizeOfFerry 10 = .ok (.if_icmp .ne 17, 3) := by decide +kernel
theorem dX7_sizeOfFerry_13 : decode cX7_sizeOfFerry 13 = .ok (.aload_n 0, 1) := by decide +kernel
theorem dX7_sizeOfFerry_14 : decode cX7_sizeOfFerry 14 = .ok (.bipush 14, 2) := by decide +kernel
theorem dX7_sizeOfFerry_16 : decode cX7_sizeOfFerry 16 = .ok (.invokevirtual 247, 3) := by decide +kernel
theorem dX7_sizeOfFerry_19 : decode cX7_sizeOfFerry 19 = .ok (.iconst 2, 1) := by decide +kernel
theorem dX7_sizeOfFerry_20 : decode cX7_sizeOfFerry 20 = .ok (.aload_n 0, 1) := by decide +kernel
theorem dX7_sizeOfFerry_21 : decode cX7_sizeOfFerry 21 = .ok (.iload_n 1, 1) := by decide +kernel
theorem dX7_sizeOfFerry_22 : decode cX7_sizeOfFerry 22 = .ok (.invokevirtual 253, 3) := by decide +kernel
theorem dX7_sizeOfFerry_25 : decode cX7_sizeOfFerry 25 = .ok (.imul, 1) := by decide +kernel
theorem dX7_sizeOfFerry_26 : decode cX7_sizeOfFerry 26 = .ok (.ireturn, 1) := by decide +kernel
theorem dX7_sizeOfFerry_27 : decode cX7_sizeOfFerry 27 = .ok (.aload_n 0, 1) := by decide +kernel
theorem dX7_sizeOfFerry_28 : decode cX7_sizeOfFerry 28 = .ok (.iload_n 1, 1) := by decide +kernel
theorem dX7_sizeOfFerry_29 : decode cX7_sizeOfFerry 29 = .ok (.invokevirtual 253, 3) := by decide +kernel
theorem dX7_sizeOfFerry_32 : decode cX7_sizeOfFerry 32 = .ok (.ireturn, 1) := by decide +kernel
theorem dX7_markOf_0 : decode cX7_markOf 0 = .ok (.aload_n 0, 1) := by decide +kernel
theorem dX7_markOf_1 : decode cX7_markOf 1 = .ok (.getfield 19, 3) := by decide +kernel
theorem dX7_markOf_4 : decode cX7_markOf 4 = .ok (.bipush 14, 2) := by decide +kernel
theorem dX7_markOf_6 : decode cX7_markOf 6 = .ok (.iload_n 1, 1) := by decide +kernel
theorem dX7_markOf_7 : decode cX7_markOf 7 = .ok (.iadd, 1) := by decide +kernel
theorem dX7_markOf_8 : decode cX7_markOf 8 = .ok (.iaload, 1) := by decide +kernel
theorem dX7_markOf_9 : decode cX7_markOf 9 = .ok (.istore_n 2, 1) := by decide +kernel
theorem dX7_markOf_10 : decode cX7_markOf 10 = .ok (.iload_n 2, 1) := by decide +kernel
theorem dX7_markOf_11 : decode cX7_markOf 11 = .ok (.iconst 2, 1) := by decide +kernel
theorem dX7_markOf_12 : decode cX7_markOf 12 = .ok (.if_icmp .ne 17, 3) := by decide +kernel
theorem dX7_markOf_15 : decode cX7_markOf 15 = .ok (.aload_n 0, 1) := by decide +kernel
theorem dX7_markOf_16 : decode cX7_markOf 16 = .ok (.bipush 24, 2) := by decide +kernel
theorem dX7_markOf_18 : decode cX7_markOf 18 = .ok (.invokevirtual 247, 3) := by decide +kernel
theorem dX7_markOf_21 : decode cX7_markOf 21 = .ok (.iconst 2, 1) := by decide +kernel
theorem dX7_markOf_22 : decode cX7_markOf 22 = .ok (.aload_n 0, 1) := by decide +kernel
theorem dX7_markOf_23 : decode cX7_markOf 23 = .ok (.iload_n 1, 1) := by decide +kernel
theorem dX7_markOf_24 : decode cX7_markOf 24 = .ok (.invokevirtual 256, 3) := by decide +kernel
theorem dX7_markOf_27 : decode cX7_markOf 27 = .ok (.imul, 1) := by decide +kernel
theorem dX7_markOf_28 : decode cX7_markOf 28 = .ok (.ireturn, 1) := by decide +kernel
theorem dX7_markOf_29 : decode cX7_markOf 29 = .ok (.iload_n 2, 1) := by decide +kernel
theorem dX7_markOf_30 : decode cX7_markOf 30 = .ok (.iconst 3, 1) := by decide +kernel
theorem dX7_markOf_31 : decode cX7_markOf 31 = .ok (.if_icmp .ne 19, 3) := by decide +kernel
theorem dX7_markOf_34 : decode cX7_markOf 34 = .ok (.aload_n 0, 1) := by decide +kernel
theorem dX7_markOf_35 : decode cX7_markOf 35 = .ok (.bipush 22, 2) := by decide +kernel
theorem dX7_markOf_37 : decode cX7_markOf 37 = .ok (.invokevirtual 247, 3) := by decide +kernel
theorem dX7_markOf_40 : decode cX7_markOf 40 = .ok (.aload_n 0, 1) := by decide +kernel
theorem dX7_markOf_41 : decode cX7_markOf 41 = .ok (.iload_n 1, 1) := by decide +kernel
theorem dX7_markOf_42 : decode cX7_markOf 42 = .ok (.invokevirtual 256, 3) := by decide +kernel
theorem dX7_markOf_45 : decode cX7_markOf 45 = .ok (.sipush 1000, 3) := by decide +kernel
theorem dX7_markOf_48 : decode cX7_markOf 48 = .ok (.isub, 1) := by decide +kernel
theorem dX7_markOf_49 : decode cX7_markOf 49 = .ok (.ireturn, 1) := by decide +kernel
theorem dX7_markOf_50 : decode cX7_markOf 50 = .ok (.iload_n 2, 1) := by decide +kernel
theorem dX7_markOf_51 : decode cX7_markOf 51 = .ok (.iconst 1, 1) := by decide +kernel
theorem dX7_markOf_52 : decode cX7_markOf 52 = .ok (.if_icmp .ne 9, 3) := by decide +kernel
theorem dX7_markOf_55 : decode cX7_markOf 55 = .ok (.aload_n 0, 1) := by decide +kernel
theorem dX7_markOf_56 : decode cX7_markOf 56 = .ok (.iload_n 1, 1) := by decide +kernel
theorem dX7_markOf_57 : decode cX7_markOf 57 = .ok (.invokevirtual 256, 3) := by decide +kernel
theorem dX7_markOf_60 : decode cX7_markOf 60 = .ok (.ireturn, 1) := by decide +kernel
theorem dX7_markOf_61 : decode cX7_markOf 61 = .ok (.aload_n 0, 1) := by decide +kernel
theorem dX7_markOf_62 : decode cX7_markOf 62 = .ok (.bipush 23, 2) := by decide +kernel
theorem dX7_markOf_64 : decode cX7_markOf 64 = .ok (.invokevirtual 247, 3) := by decide +kernel
theorem dX7_markOf_67 : decode cX7_markOf 67 = .ok (.aload_n 0, 1) := by decide +kernel
theorem dX7_markOf_68 : decode cX7_markOf 68 = .ok (.iload_n 1, 1) := by decide +kernel
theorem dX7_markOf_69 : decode cX7_markOf 69 = .ok (.bipush 20, 2) := by decide +kernel
theorem dX7_markOf_71 : decode cX7_markOf 71 = .ok (.invokevirtual 250, 3) := by decide +kernel
theorem dX7_markOf_74 : decode cX7_markOf 74 = .ok (.istore_n 3, 1) := by decide +kernel
theorem dX7_markOf_75 : decode cX7_markOf 75 = .ok (.iload_n 3, 1) := by decide +kernel
theorem dX7_markOf_76 : decode cX7_markOf 76 = .ok (.aload_n 0, 1) := by decide +kernel
theorem dX7_markOf_77 : decode cX7_markOf 77 = .ok (.iload_n 1, 1) := by decide +kernel
theorem dX7_markOf_78 : decode cX7_markOf 78 = .ok (.invokevirtual 259, 3) := by decide +kernel
theorem dX7_markOf_81 : decode cX7_markOf 81 = .ok (.isub, 1) := by decide +kernel
theorem dX7_markOf_82 : decode cX7_markOf 82 = .ok (.ireturn, 1) := by decide +kernel
theorem dX7_sailSize_0 : decode cX7_sailSize 0 = .ok (.aload_n 0, 1) := by decide +kernel
theorem dX7_sailSize_1 : decode cX7_sailSize 1 = .ok (.bipush 11, 2) := by decide +kernel
theorem dX7_sailSize_3 : decode cX7_sailSize 3 = .ok (.invokevirtual 247, 3) := by decide +kernel
theorem dX7_sailSize_6 : decode cX7_sailSize 6 = .ok (.aload_n 0, 1) := by decide +kernel
theorem dX7_sailSize_7 : decode cX7_sailSize 7 = .ok (.iload_n 1, 1) := by decide +kernel
theorem dX7_sailSize_8 : decode cX7_sailSize 8 = .ok (.bipush 10, 2) := by decide +kernel
theorem dX7_sailSize_10 : decode cX7_sailSize 10 = .ok (.invokevirtual 250, 3) := by decide +kernel
theorem dX7_sailSize_13 : decode cX7_sailSize 13 = .ok (.istore_n 2, 1) := by decide +kernel
theorem dX7_sailSize_14 : decode cX7_sailSize 14 = .ok (.iload_n 2, 1) := by decide +kernel
theorem dX7_sailSize_15 : decode cX7_sailSize 15 = .ok (.aload_n 0, 1) := by decide +kernel
theorem dX7_sailSize_16 : decode cX7_sailSize 16 = .ok (.iload_n 1, 1) := by decide +kernel
theorem dX7_sailSize_17 : decode cX7_sailSize 17 = .ok (.invokevirtual 262, 3) := by decide +kernel
theorem dX7_sailSize_20 : decode cX7_sailSize 20 = .ok (.iadd, 1) := by decide +kernel
theorem dX7_sailSize_21 : decode cX7_sailSize 21 = .ok (.ireturn, 1) := by decide +kernel
theorem dX7_sizeOf_0 : decode cX7_sizeOf 0 = .ok (.aload_n 0, 1) := by decide +kernel
theorem dX7_sizeOf_1 : decode cX7_sizeOf 1 = .ok (.getfield 19, 3) := by decide +kernel
theorem dX7_sizeOf_4 : decode cX7_sizeOf 4 = .ok (.bipush 14, 2) := by decide +kernel
theorem dX7_sizeOf_6 : decode cX7_sizeOf 6 = .ok (.iload_n 1, 1) := by decide +kernel
theorem dX7_sizeOf_7 : decode cX7_sizeOf 7 = .ok (.iadd, 1) := by decide +kernel
theorem dX7_sizeOf_8 : decode cX7_sizeOf 8 = .ok (.iaload, 1) := by decide +kernel
theorem dX7_sizeOf_9 : decode cX7_sizeOf 9 = .ok (.istore_n 2, 1) := by decide +kernel
theorem dX7_sizeOf_10 : decode cX7_sizeOf 10 = .ok (.iload_n 2, 1) := by decide +kernel
theorem dX7_sizeOf_11 : decode cX7_sizeOf 11 = .ok (.iconst 2, 1) := by decide +kernel
theorem dX7_sizeOf_12 : decode cX7_sizeOf 12 = .ok (.if_icmp .ne 16, 3) := by decide +kernel
theorem dX7_sizeOf_15 : decode cX7_sizeOf 15 = .ok (.aload_n 0, 1) := by decide +kernel
theorem dX7_sizeOf_16 : decode cX7_sizeOf 16 = .ok (.bipush 12, 2) := by decide +kernel
theorem dX7_sizeOf_18 : decode cX7_sizeOf 18 = .ok (.invokevirtual 247, 3) := by decide +kernel
theorem dX7_sizeOf_21 : decode cX7_sizeOf 21 = .ok (.aload_n 0, 1) := by decide +kernel
theorem dX7_sizeOf_22 : decode cX7_sizeOf 22 = .ok (.iload_n 1, 1) := by decide +kernel
theorem dX7_sizeOf_23 : decode cX7_sizeOf 23 = .ok (.invokevirtual 265, 3) := by decide +kernel
theorem dX7_sizeOf_26 : decode cX7_sizeOf 26 = .ok (.ineg, 1) := by decide +kernel
theorem dX7_sizeOf_27 : decode cX7_sizeOf 27 = .ok (.ireturn, 1) := by decide +kernel
theorem dX7_sizeOf_28 : decode cX7_sizeOf 28 = .ok (.iload_n 2, 1) := by decide +kernel
theorem dX7_sizeOf_29 : decode cX7_sizeOf 29 = .ok (.iconst 4, 1) := by decide +kernel
theorem dX7_sizeOf_30 : decode cX7_sizeOf 30 = .ok (.if_icmp .lt 11, 3) := by decide +kernel
theorem dX7_sizeOf_33 : decode cX7_sizeOf 33 = .ok (.aload_n 0, 1) := by decide +kernel
theorem dX7_sizeOf_34 : decode cX7_sizeOf 34 = .ok (.iload_n 1, 1) := by decide +kernel
theorem dX7_sizeOf_35 : decode cX7_sizeOf 35 = .ok (.invokevirtual 259, 3) := by decide +kernel
theorem dX7_sizeOf_38 : decode cX7_sizeOf 38 = .ok (.goto 8, 3) := by decide +kernel
theorem dX7_sizeOf_41 : decode cX7_sizeOf 41 = .ok (.aload_n 0, 1) := by decide +kernel
theorem dX7_sizeOf_42 : decode cX7_sizeOf 42 = .ok (.iload_n 1, 1) := by decide +kernel
theorem dX7_sizeOf_43 : decode cX7_sizeOf 43 = .ok (.invokevirtual 265, 3) := by decide +kernel
theorem dX7_sizeOf_46 : decode cX7_sizeOf 46 = .ok (.ireturn, 1) := by decide +kernel
theorem dX7_ask_0 : decode cX7_ask 0 = .ok (.aload_n 0, 1) := by decide +kernel
theorem dX7_ask_1 : decode cX7_ask 1 = .ok (.iload_n 1, 1) := by decide +kernel
theorem dX7_ask_2 : decode cX7_ask 2 = .ok (.invokevirtual 175, 3) := by decide +kernel
theorem dX7_ask_5 : decode cX7_ask 5 = .ok (.ifCond .eq 13, 3) := by decide +kernel
theorem dX7_ask_8 : decode cX7_ask 8 = .ok (.iload_n 2, 1) := by decide +kernel
theorem dX7_ask_9 : decode cX7_ask 9 = .ok (.i2l, 1) := by decide +kernel
theorem dX7_ask_10 : decode cX7_ask 10 = .ok (.lconst 0, 1) := by decide +kernel
theorem dX7_ask_11 : decode cX7_ask 11 = .ok (.lconst 1, 1) := by decide +kernel
theorem dX7_ask_12 : decode cX7_ask 12 = .ok (.invokestatic 54, 3) := by decide +kernel
theorem dX7_ask_15 : decode cX7_ask 15 = .ok (.ifCond .ne 6, 3) := by decide +kernel
theorem dX7_ask_18 : decode cX7_ask 18 = .ok (.ldc 64, 2) := by decide +kernel
theorem dX7_ask_20 : decode cX7_ask 20 = .ok (.ireturn, 1) := by decide +kernel
theorem dX7_ask_21 : decode cX7_ask 21 = .ok (.aload_n 0, 1) := by decide +kernel
theorem dX7_ask_22 : decode cX7_ask 22 = .ok (.iconst 0, 1) := by decide +kernel
theorem dX7_ask_23 : decode cX7_ask 23 = .ok (.putfield 244, 3) := by decide +kernel
theorem dX7_ask_26 : decode cX7_ask 26 = .ok (.iload_n 2, 1) := by decide +kernel
theorem dX7_ask_27 : decode cX7_ask 27 = .ok (.ifCond .ne 11, 3) := by decide +kernel
theorem dX7_ask_30 : decode cX7_ask 30 = .ok (.aload_n 0, 1) := by decide +kernel
theorem dX7_ask_31 : decode cX7_ask 31 = .ok (.iload_n 1, 1) := by decide +kernel
theorem dX7_ask_32 : decode cX7_ask 32 = .ok (.invokevirtual 268, 3) := by decide +kernel
theorem dX7_ask_35 : decode cX7_ask 35 = .ok (.goto 8, 3) := by decide +kernel
theorem dX7_ask_38 : decode cX7_ask 38 = .ok (.aload_n 0, 1) := by decide +kernel
theorem dX7_ask_39 : decode cX7_ask 39 = .ok (.iload_n 1, 1) := by decide +kernel
theorem dX7_ask_40 : decode cX7_ask 40 = .ok (.invokevirtual 262, 3) := by decide +kernel
theorem dX7_ask_43 : decode cX7_ask 43 = .ok (.ireturn, 1) := by decide +kernel
theorem dX7_trace_0 : decode cX7_trace 0 = .ok (.iload_n 1, 1) := by decide +kernel
theorem dX7_trace_1 : decode cX7_trace 1 = .ok (.i2l, 1) := by decide +kernel
theorem dX7_trace_2 : decode cX7_trace 2 = .ok (.lconst 0, 1) := by decide +kernel
theorem dX7_trace_3 : decode cX7_trace 3 = .ok (.aload_n 0, 1) := by decide +kernel
theorem dX7_trace_4 : decode cX7_trace 4 = .ok (.getfield 244, 3) := by decide +kernel
theorem dX7_trace_7 : decode cX7_trace 7 = .ok (.iconst 1, 1) := by decide +kernel
theorem dX7_trace_8 : decode cX7_trace 8 = .ok (.isub, 1) := by decide +kernel
theorem dX7_trace_9 : decode cX7_trace 9 = .ok (.i2l, 1) := by decide +kernel
theorem dX7_trace_10 : decode cX7_trace 10 = .ok (.invokestatic 54, 3) := by decide +kernel
theorem dX7_trace_13 : decode cX7_trace 13 = .ok (.ifCond .eq 12, 3) := by decide +kernel
theorem dX7_trace_16 : decode cX7_trace 16 = .ok (.aload_n 0, 1) := by decide +kernel
theorem dX7_trace_17 : decode cX7_trace 17 = .ok (.getfield 44, 3) := by decide +kernel
theorem dX7_trace_20 : decode cX7_trace 20 = .ok (.iload_n 1, 1) := by decide +kernel
theorem dX7_trace_21 : decode cX7_trace 21 = .ok (.iaload, 1) := by decide +kernel
theorem dX7_trace_22 : decode cX7_trace 22 = .ok (.goto 5, 3) := by decide +kernel
theorem dX7_trace_25 : decode cX7_trace 25 = .ok (.ldc 162, 2) := by decide +kernel
theorem dX7_trace_27 : decode cX7_trace 27 = .ok (.ireturn, 1) := by decide +kernel
theorem dX7_count_0 : decode cX7_count 0 = .ok (.iconst 0, 1) := by decide +kernel
theorem dX7_count_1 : decode cX7_count 1 = .ok (.istore_n 2, 1) := by decide +kernel
theorem dX7_count_2 : decode cX7_count 2 = .ok (.iconst 0, 1) := by decide +kernel
theorem dX7_count_3 : decode cX7_count 3 = .ok (.istore_n 3, 1) := by decide +kernel
theorem dX7_count_4 : decode cX7_count 4 = .ok (.iload_n 3, 1) := by decide +kernel
theorem dX7_count_5 : decode cX7_count 5 = .ok (.bipush 8, 2) := by decide +kernel
theorem dX7_count_7 : decode cX7_count 7 = .ok (.if_icmp .ge 26, 3) := by decide +kernel
theorem dX7_count_10 : decode cX7_count 10 = .ok (.iload_n 2, 1) := by decide +kernel
theorem dX7_count_11 : decode cX7_count 11 = .ok (.aload_n 0, 1) := by decide +kernel
theorem dX7_count_12 : decode cX7_count 12 = .ok (.getfield 13, 3) := by decide +kernel
theorem dX7_count_15 : decode cX7_count 15 = .ok (.iload_n 3, 1) := by decide +kernel
theorem dX7_count_16 : decode cX7_count 16 = .ok (.iaload, 1) := by decide +kernel
theorem dX7_count_17 : decode cX7_count 17 = .ok (.ifCond .lt 7, 3) := by decide +kernel
theorem dX7_count_20 : decode cX7_count 20 = .ok (.iconst 1, 1) := by decide +kernel
theorem dX7_count_21 : decode cX7_count 21 = .ok (.goto 4, 3) := by decide +kernel
theorem dX7_count_24 : decode cX7_count 24 = .ok (.iconst 0, 1) := by decide +kernel
theorem dX7_count_25 : decode cX7_count 25 = .ok (.iadd, 1) := by decide +kernel
theorem dX7_count_26 : decode cX7_count 26 = .ok (.istore_n 2, 1) := by decide +kernel
theorem dX7_count_27 : decode cX7_count 27 = .ok (.iinc 3 1, 3) := by decide +kernel
theorem dX7_count_30 : decode cX7_count 30 = .ok (.goto (-26), 3) := by decide +kernel
theorem dX7_count_33 : decode cX7_count 33 = .ok (.iload_n 1, 1) := by decide +kernel
theorem dX7_count_34 : decode cX7_count 34 = .ok (.tableswitch 92 0 7 #[46, 48, 55, 62, 69, 77, 82, 87], 46) := by decide +kernel
theorem dX7_count_80 : decode cX7_count 80 = .ok (.iload_n 2, 1) := by decide +kernel
theorem dX7_count_81 : decode cX7_count 81 = .ok (.ireturn, 1) := by decide +kernel
theorem dX7_count_82 : decode cX7_count 82 = .ok (.aload_n 0, 1) := by decide +kernel
theorem dX7_count_83 : decode cX7_count 83 = .ok (.getfield 19, 3) := by decide +kernel
theorem dX7_count_86 : decode cX7_count 86 = .ok (.iconst 3, 1) := by decide +kernel
theorem dX7_count_87 : decode cX7_count 87 = .ok (.iaload, 1) := by decide +kernel
theorem dX7_count_88 : decode cX7_count 88 = .ok (.ireturn, 1) := by decide +kernel
theorem dX7_count_89 : decode cX7_count 89 = .ok (.aload_n 0, 1) := by decide +kernel
theorem dX7_count_90 : decode cX7_count 90 = .ok (.getfield 19, 3) := by decide +kernel
theorem dX7_count_93 : decode cX7_count 93 = .ok (.iconst 4, 1) := by decide +kernel
theorem dX7_count_94 : decode cX7_count 94 = .ok (.iaload, 1) := by decide +kernel
theorem dX7_count_95 : decode cX7_count 95 = .ok (.ireturn, 1) := by decide +kernel
theorem dX7_count_96 : decode cX7_count 96 = .ok (.aload_n 0, 1) := by decide +kernel
theorem dX7_count_97 : decode cX7_count 97 = .ok (.getfield 19, 3) := by decide +kernel
theorem dX7_count_100 : decode cX7_count 100 = .ok (.iconst 5, 1) := by decide +kernel
theorem dX7_count_101 : decode cX7_count 101 = .ok (.iaload, 1) := by decide +kernel
theorem dX7_count_102 : decode cX7_count 102 = .ok (.ireturn, 1) := by decide +kernel
theorem dX7_count_103 : decode cX7_count 103 = .ok (.aload_n 0, 1) := by decide +kernel
theorem dX7_count_104 : decode cX7_count 104 = .ok (.getfield 19, 3) := by decide +kernel
theorem dX7_count_107 : decode cX7_count 107 = .ok (.bipush 6, 2) := by decide +kernel
theorem dX7_count_109 : decode cX7_count 109 = .ok (.iaload, 1) := by decide +kernel
theorem dX7_count_110 : decode cX7_count 110 = .ok (.ireturn, 1) := by decide +kernel
theorem dX7_count_111 : decode cX7_count 111 = .ok (.aload_n 0, 1) := by decide +kernel
theorem dX7_count_112 : decode cX7_count 112 = .ok (.invokevirtual 230, 3) := by decide +kernel
theorem dX7_count_115 : decode cX7_count 115 = .ok (.ireturn, 1) := by decide +kernel
theorem dX7_count_116 : decode cX7_count 116 = .ok (.aload_n 0, 1) := by decide +kernel
theorem dX7_count_117 : decode cX7_count 117 = .ok (.getfield 139, 3) := by decide +kernel
theorem dX7_count_120 : decode cX7_count 120 = .ok (.ireturn, 1) := by decide +kernel
theorem dX7_count_121 : decode cX7_count 121 = .ok (.aload_n 0, 1) := by decide +kernel
theorem dX7_count_122 : decode cX7_count 122 = .ok (.getfield 78, 3) := by decide +kernel
theorem dX7_count_125 : decode cX7_count 125 = .ok (.ireturn, 1) := by decide +kernel
theorem dX7_count_126 : decode cX7_count 126 = .ok (.ldc 64, 2) := by decide +kernel
theorem dX7_count_128 : decode cX7_count 128 = .ok (.ireturn, 1) := by decide +kernel
theorem dX7_status_0 : decode cX7_status 0 = .ok (.aload_n 0, 1) := by decide +kernel
theorem dX7_status_1 : decode cX7_status 1 = .ok (.getfield 47, 3) := by decide +kernel
theorem dX7_status_4 : decode cX7_status 4 = .ok (.ireturn, 1) := by decide +kernel
