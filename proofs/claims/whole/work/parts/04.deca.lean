theorem dX9_init_0 : decode cX9_init 0 = .ok (.aload_n 0, 1) := by decide +kernel
theorem dX9_init_1 : decode cX9_init 1 = .ok (.invokespecial 1, 3) := by decide +kernel
theorem dX9_init_4 : decode cX9_init 4 = .ok (.aload_n 0, 1) := by decide +kernel
theorem dX9_init_5 : decode cX9_init 5 = .ok (.bipush 80, 2) := by decide +kernel
theorem dX9_init_7 : decode cX9_init 7 = .ok (.newarray .int, 2) := by decide +kernel
theorem dX9_init_9 : decode cX9_init 9 = .ok (.putfield 7, 3) := by decide +kernel
theorem dX9_init_12 : decode cX9_init 12 = .ok (.aload_n 0, 1) := by decide +kernel
theorem dX9_init_13 : decode cX9_init 13 = .ok (.iconst 2, 1) := by decide +kernel
theorem dX9_init_14 : decode cX9_init 14 = .ok (.newarray .boolean, 2) := by decide +kernel
theorem dX9_init_16 : decode cX9_init 16 = .ok (.putfield 13, 3) := by decide +kernel
theorem dX9_init_19 : decode cX9_init 19 = .ok (.aload_n 0, 1) := by decide +kernel
theorem dX9_init_20 : decode cX9_init 20 = .ok (.bipush 16, 2) := by decide +kernel
theorem dX9_init_22 : decode cX9_init 22 = .ok (.newarray .int, 2) := by decide +kernel
theorem dX9_init_24 : decode cX9_init 24 = .ok (.putfield 17, 3) := by decide +kernel
theorem dX9_init_27 : decode cX9_init 27 = .ok (.aload_n 0, 1) := by decide +kernel
theorem dX9_init_28 : decode cX9_init 28 = .ok (.bipush 16, 2) := by decide +kernel
theorem dX9_init_30 : decode cX9_init 30 = .ok (.newarray .int, 2) := by decide +kernel
theorem dX9_init_32 : decode cX9_init 32 = .ok (.putfield 20, 3) := by decide +kernel
theorem dX9_init_35 : decode cX9_init 35 = .ok (.aload_n 0, 1) := by decide +kernel
theorem dX9_init_36 : decode cX9_init 36 = .ok (.bipush 16, 2) := by decide +kernel
theorem dX9_init_38 : decode cX9_init 38 = .ok (.newarray .int, 2) := by decide +kernel
theorem dX9_init_40 : decode cX9_init 40 = .ok (.putfield 23, 3) := by decide +kernel
theorem dX9_init_43 : decode cX9_init 43 = .ok (.aload_n 0, 1) := by decide +kernel
theorem dX9_init_44 : decode cX9_init 44 = .ok (.bipush 20, 2) := by decide +kernel
theorem dX9_init_46 : decode cX9_init 46 = .ok (.newarray .int, 2) := by decide +kernel
theorem dX9_init_48 : decode cX9_init 48 = .ok (.putfield 26, 3) := by decide +kernel
theorem dX9_init_51 : decode cX9_init 51 = .ok (.aload_n 0, 1) := by decide +kernel
theorem dX9_init_52 : decode cX9_init 52 = .ok (.bipush 20, 2) := by decide +kernel
theorem dX9_init_54 : decode cX9_init 54 = .ok (.newarray .int, 2) := by decide +kernel
theorem dX9_init_56 : decode cX9_init 56 = .ok (.putfield 29, 3) := by decide +kernel
theorem dX9_init_59 : decode cX9_init 59 = .ok (.aload_n 0, 1) := by decide +kernel
theorem dX9_init_60 : decode cX9_init 60 = .ok (.bipush 20, 2) := by decide +kernel
theorem dX9_init_62 : decode cX9_init 62 = .ok (.newarray .int, 2) := by decide +kernel
theorem dX9_init_64 : decode cX9_init 64 = .ok (.putfield 32, 3) := by decide +kernel
theorem dX9_init_67 : decode cX9_init 67 = .ok (.aload_n 0, 1) := by decide +kernel
theorem dX9_init_68 : decode cX9_init 68 = .ok (.bipush 20, 2) := by decide +kernel
theorem dX9_init_70 : decode cX9_init 70 = .ok (.newarray .int, 2) := by decide +kernel
theorem dX9_init_72 : decode cX9_init 72 = .ok (.putfield 35, 3) := by decide +kernel
theorem dX9_init_75 : decode cX9_init 75 = .ok (.aload_n 0, 1) := by decide +kernel
theorem dX9_init_76 : decode cX9_init 76 = .ok (.sipush 128, 3) := by decide +kernel
theorem dX9_init_79 : decode cX9_init 79 = .ok (.newarray .int, 2) := by decide +kernel
theorem dX9_init_81 : decode cX9_init 81 = .ok (.putfield 38, 3) := by decide +kernel
theorem dX9_init_84 : decode cX9_init 84 = .ok (.aload_n 0, 1) := by decide +kernel
theorem dX9_init_85 : decode cX9_init 85 = .ok (.bipush 64, 2) := by decide +kernel
theorem dX9_init_87 : decode cX9_init 87 = .ok (.newarray .int, 2) := by decide +kernel
theorem dX9_init_89 : decode cX9_init 89 = .ok (.putfield 41, 3) := by decide +kernel
theorem dX9_init_92 : decode cX9_init 92 = .ok (.aload_n 0, 1) := by decide +kernel
theorem dX9_init_93 : decode cX9_init 93 = .ok (.bipush 8, 2) := by decide +kernel
theorem dX9_init_95 : decode cX9_init 95 = .ok (.newarray .int, 2) := by decide +kernel
theorem dX9_init_97 : decode cX9_init 97 = .ok (.putfield 44, 3) := by decide +kernel
theorem dX9_init_100 : decode cX9_init 100 = .ok (.aload_n 0, 1) := by decide +kernel
theorem dX9_init_101 : decode cX9_init 101 = .ok (.sipush 400, 3) := by decide +kernel
theorem dX9_init_104 : decode cX9_init 104 = .ok (.newarray .int, 2) := by decide +kernel
theorem dX9_init_106 : decode cX9_init 106 = .ok (.putfield 47, 3) := by decide +kernel
theorem dX9_init_109 : decode cX9_init 109 = .ok (.aload_n 0, 1) := by decide +kernel
theorem dX9_init_110 : decode cX9_init 110 = .ok (.iconst (-1), 1) := by decide +kernel
theorem dX9_init_111 : decode cX9_init 111 = .ok (.putfield 50, 3) := by decide +kernel
theorem dX9_init_114 : decode cX9_init 114 = .ok (.aload_n 0, 1) := by decide +kernel
theorem dX9_init_115 : decode cX9_init 115 = .ok (.sipush 2304, 3) := by decide +kernel
theorem dX9_init_118 : decode cX9_init 118 = .ok (.newarray .int, 2) := by decide +kernel
theorem dX9_init_120 : decode cX9_init 120 = .ok (.putfield 54, 3) := by decide +kernel
theorem dX9_init_123 : decode cX9_init 123 = .ok (.aload_n 0, 1) := by decide +kernel
theorem dX9_init_124 : decode cX9_init 124 = .ok (.bipush 8, 2) := by decide +kernel
theorem dX9_init_126 : decode cX9_init 126 = .ok (.newarray .int, 2) := by decide +kernel
theorem dX9_init_128 : decode cX9_init 128 = .ok (.putfield 57, 3) := by decide +kernel
theorem dX9_init_131 : decode cX9_init 131 = .ok (.aload_n 0, 1) := by decide +kernel
theorem dX9_init_132 : decode cX9_init 132 = .ok (.sipush 256, 3) := by decide +kernel
theorem dX9_init_135 : decode cX9_init 135 = .ok (.newarray .int, 2) := by decide +kernel
theorem dX9_init_137 : decode cX9_init 137 = .ok (.putfield 60, 3) := by decide +kernel
theorem dX9_init_140 : decode cX9_init 140 = .ok (.aload_n 0, 1) := by decide +kernel
theorem dX9_init_141 : decode cX9_init 141 = .ok (.bipush 90, 2) := by decide +kernel
theorem dX9_init_143 : decode cX9_init 143 = .ok (.newarray .int, 2) := by decide +kernel
theorem dX9_init_145 : decode cX9_init 145 = .ok (.putfield 63, 3) := by decide +kernel
theorem dX9_init_148 : decode cX9_init 148 = .ok (.aload_n 0, 1) := by decide +kernel
theorem dX9_init_149 : decode cX9_init 149 = .ok (.bipush 90, 2) := by decide +kernel
theorem dX9_init_151 : decode cX9_init 151 = .ok (.newarray .int, 2) := by decide +kernel
theorem dX9_init_153 : decode cX9_init 153 = .ok (.putfield 66, 3) := by decide +kernel
theorem dX9_init_156 : decode cX9_init 156 = .ok (.aload_n 0, 1) := by decide +kernel
theorem dX9_init_157 : decode cX9_init 157 = .ok (.getfield 7, 3) := by decide +kernel
theorem dX9_init_160 : decode cX9_init 160 = .ok (.bipush 17, 2) := by decide +kernel
theorem dX9_init_162 : decode cX9_init 162 = .ok (.bipush 20, 2) := by decide +kernel
theorem dX9_init_164 : decode cX9_init 164 = .ok (.iastore, 1) := by decide +kernel
theorem dX9_init_165 : decode cX9_init 165 = .ok (.return_, 1) := by decide +kernel
theorem dX9_in_0 : decode cX9_in 0 = .ok (.lload_n 0, 1) := by decide +kernel
theorem dX9_in_1 : decode cX9_in 1 = .ok (.lload_n 2, 1) := by decide +kernel
theorem dX9_in_2 : decode cX9_in 2 = .ok (.lcmp, 1) := by decide +kernel
theorem dX9_in_3 : decode cX9_in 3 = .ok (.ifCond .lt 14, 3) := by decide +kernel
theorem dX9_in_6 : decode cX9_in 6 = .ok (.lload_n 0, 1) := by decide +kernel
theorem dX9_in_7 : decode cX9_in 7 = .ok (.lload 4, 2) := by decide +kernel
theorem dX9_in_9 : decode cX9_in 9 = .ok (.lcmp, 1) := by decide +kernel
theorem dX9_in_10 : decode cX9_in 10 = .ok (.ifCond .gt 7, 3) := by decide +kernel
theorem dX9_in_13 : decode cX9_in 13 = .ok (.iconst 1, 1) := by decide +kernel
theorem dX9_in_14 : decode cX9_in 14 = .ok (.goto 4, 3) := by decide +kernel
theorem dX9_in_17 : decode cX9_in 17 = .ok (.iconst 0, 1) := by decide +kernel
theorem dX9_in_18 : decode cX9_in 18 = .ok (.ireturn, 1) := by decide +kernel
theorem dX9_one_0 : decode cX9_one 0 = .ok (.iload_n 0, 1) := by decide +kernel
theorem dX9_one_1 : decode cX9_one 1 = .ok (.ifCond .eq 7, 3) := by decide +kernel
theorem dX9_one_4 : decode cX9_one 4 = .ok (.iconst 1, 1) := by decide +kernel
theorem dX9_one_5 : decode cX9_one 5 = .ok (.goto 4, 3) := by decide +kernel
theorem dX9_one_8 : decode cX9_one 8 = .ok (.iconst 0, 1) := by decide +kernel
theorem dX9_one_9 : decode cX9_one 9 = .ok (.ireturn, 1) := by decide +kernel
theorem dX9_has_0 : decode cX9_has 0 = .ok (.iload_n 0, 1) := by decide +kernel
theorem dX9_has_1 : decode cX9_has 1 = .ok (.iload_n 1, 1) := by decide +kernel
theorem dX9_has_2 : decode cX9_has 2 = .ok (.ishr, 1) := by decide +kernel
theorem dX9_has_3 : decode cX9_has 3 = .ok (.iconst 1, 1) := by decide +kernel
theorem dX9_has_4 : decode cX9_has 4 = .ok (.iand, 1) := by decide +kernel
theorem dX9_has_5 : decode cX9_has 5 = .ok (.iconst 1, 1) := by decide +kernel
theorem dX9_has_6 : decode cX9_has 6 = .ok (.if_icmp .ne 7, 3) := by decide +kernel
theorem dX9_has_9 : decode cX9_has 9 = .ok (.iconst 1, 1) := by decide +kernel
theorem dX9_has_10 : decode cX9_has 10 = .ok (.goto 4, 3) := by decide +kernel
theorem dX9_has_13 : decode cX9_has 13 = .ok (.iconst 0, 1) := by decide +kernel
theorem dX9_has_14 : decode cX9_has 14 = .ok (.ireturn, 1) := by decide +kernel
theorem dX9_ones_0 : decode cX9_ones 0 = .ok (.iconst 0, 1) := by decide +kernel
theorem dX9_ones_1 : decode cX9_ones 1 = .ok (.istore_n 1, 1) := by decide +kernel
theorem dX9_ones_2 : decode cX9_ones 2 = .ok (.iconst 0, 1) := by decide +kernel
theorem dX9_ones_3 : decode cX9_ones 3 = .ok (.istore_n 2, 1) := by decide +kernel
theorem dX9_ones_4 : decode cX9_ones 4 = .ok (.iload_n 2, 1) := by decide +kernel
theorem dX9_ones_5 : decode cX9_ones 5 = .ok (.bipush 24, 2) := by decide +kernel
theorem dX9_ones_7 : decode cX9_ones 7 = .ok (.if_icmp .ge 17, 3) := by decide +kernel
theorem dX9_ones_10 : decode cX9_ones 10 = .ok (.iload_n 1, 1) := by decide +kernel
theorem dX9_ones_11 : decode cX9_ones 11 = .ok (.iload_n 0, 1) := by decide +kernel
theorem dX9_ones_12 : decode cX9_ones 12 = .ok (.iload_n 2, 1) := by decide +kernel
theorem dX9_ones_13 : decode cX9_ones 13 = .ok (.ishr, 1) := by decide +kernel
theorem dX9_ones_14 : decode cX9_ones 14 = .ok (.iconst 1, 1) := by decide +kernel
theorem dX9_ones_15 : decode cX9_ones 15 = .ok (.iand, 1) := by decide +kernel
theorem dX9_ones_16 : decode cX9_ones 16 = .ok (.iadd, 1) := by decide +kernel
theorem dX9_ones_17 : decode cX9_ones 17 = .ok (.istore_n 1, 1) := by decide +kernel
theorem dX9_ones_18 : decode cX9_ones 18 = .ok (.iinc 2 1, 3) := by decide +kernel
theorem dX9_ones_21 : decode cX9_ones 21 = .ok (.goto (-17), 3) := by decide +kernel
theorem dX9_ones_24 : decode cX9_ones 24 = .ok (.iload_n 1, 1) := by decide +kernel
theorem dX9_ones_25 : decode cX9_ones 25 = .ok (.ireturn, 1) := by decide +kernel
theorem dX9_feed_0 : decode cX9_feed 0 = .ok (.iload_n 1, 1) := by decide +kernel
theorem dX9_feed_1 : decode cX9_feed 1 = .ok (.i2l, 1) := by decide +kernel
theorem dX9_feed_2 : decode cX9_feed 2 = .ok (.lconst 1, 1) := by decide +kernel
theorem dX9_feed_3 : decode cX9_feed 3 = .ok (.ldc2_w 69, 3) := by decide +kernel
theorem dX9_feed_6 : decode cX9_feed 6 = .ok (.invokestatic 71, 3) := by decide +kernel
theorem dX9_feed_9 : decode cX9_feed 9 = .ok (.ifCond .ne 6, 3) := by decide +kernel
theorem dX9_feed_12 : decode cX9_feed 12 = .ok (.ldc 75, 2) := by decide +kernel
theorem dX9_feed_14 : decode cX9_feed 14 = .ok (.ireturn, 1) := by decide +kernel
theorem dX9_feed_15 : decode cX9_feed 15 = .ok (.aload_n 0, 1) := by decide +kernel
theorem dX9_feed_16 : decode cX9_feed 16 = .ok (.getfield 76, 3) := by decide +kernel
theorem dX9_feed_19 : decode cX9_feed 19 = .ok (.iload_n 1, 1) := by decide +kernel
theorem dX9_feed_20 : decode cX9_feed 20 = .ok (.iadd, 1) := by decide +kernel
theorem dX9_feed_21 : decode cX9_feed 21 = .ok (.sipush 400, 3) := by decide +kernel
theorem dX9_feed_24 : decode cX9_feed 24 = .ok (.if_icmp .le 6, 3) := by decide +kernel
theorem dX9_feed_27 : decode cX9_feed 27 = .ok (.ldc 79, 2) := by decide +kernel
theorem dX9_feed_29 : decode cX9_feed 29 = .ok (.ireturn, 1) := by decide +kernel
theorem dX9_feed_30 : decode cX9_feed 30 = .ok (.iload_n 1, 1) := by decide +kernel
theorem dX9_feed_31 : decode cX9_feed 31 = .ok (.iconst 1, 1) := by decide +kernel
theorem dX9_feed_32 : decode cX9_feed 32 = .ok (.isub, 1) := by decide +kernel
theorem dX9_feed_33 : decode cX9_feed 33 = .ok (.istore 4, 2) := by decide +kernel
theorem dX9_feed_35 : decode cX9_feed 35 = .ok (.iload 4, 2) := by decide +kernel
theorem dX9_feed_37 : decode cX9_feed 37 = .ok (.ifCond .lt 40, 3) := by decide +kernel
theorem dX9_feed_40 : decode cX9_feed 40 = .ok (.aload_n 0, 1) := by decide +kernel
theorem dX9_feed_41 : decode cX9_feed 41 = .ok (.getfield 47, 3) := by decide +kernel
theorem dX9_feed_44 : decode cX9_feed 44 = .ok (.aload_n 0, 1) := by decide +kernel
theorem dX9_feed_45 : decode cX9_feed 45 = .ok (.getfield 76, 3) := by decide +kernel
theorem dX9_feed_48 : decode cX9_feed 48 = .ok (.lload_n 2, 1) := by decide +kernel
theorem dX9_feed_49 : decode cX9_feed 49 = .ok (.bipush 8, 2) := by decide +kernel
theorem dX9_feed_51 : decode cX9_feed 51 = .ok (.iload 4, 2) := by decide +kernel
theorem dX9_feed_53 : decode cX9_feed 53 = .ok (.imul, 1) := by decide +kernel
theorem dX9_feed_54 : decode cX9_feed 54 = .ok (.lshr, 1) := by decide +kernel
theorem dX9_feed_55 : decode cX9_feed 55 = .ok (.ldc2_w 80, 3) := by decide +kernel
theorem dX9_feed_58 : decode cX9_feed 58 = .ok (.land, 1) := by decide +kernel
theorem dX9_feed_59 : decode cX9_feed 59 = .ok (.l2i, 1) := by decide +kernel
theorem dX9_feed_60 : decode cX9_feed 60 = .ok (.iastore, 1) := by decide +kernel
theorem dX9_feed_61 : decode cX9_feed 61 = .ok (.aload_n 0, 1) := by decide +kernel
theorem dX9_feed_62 : decode cX9_feed 62 = .ok (.dup, 1) := by decide +kernel
theorem dX9_feed_63 : decode cX9_feed 63 = .ok (.getfield 76, 3) := by decide +kernel
theorem dX9_feed_66 : decode cX9_feed 66 = .ok (.iconst 1, 1) := by decide +kernel
theorem dX9_feed_67 : decode cX9_feed 67 = .ok (.iadd, 1) := by decide +kernel
theorem dX9_feed_68 : decode cX9_feed 68 = .ok (.putfield 76, 3) := by decide +kernel
theorem dX9_feed_71 : decode cX9_feed 71 = .ok (.iinc 4 (-1), 3) := by decide +kernel
theorem dX9_feed_74 : decode cX9_feed 74 = .ok (.goto (-39), 3) := by decide +kernel
theorem dX9_feed_77 : decode cX9_feed 77 = .ok (.aload_n 0, 1) := by decide +kernel
theorem dX9_feed_78 : decode cX9_feed 78 = .ok (.getfield 76, 3) := by decide +kernel
theorem dX9_feed_81 : decode cX9_feed 81 = .ok (.ireturn, 1) := by decide +kernel
theorem dX9_here_0 : decode cX9_here 0 = .ok (.aload_n 0, 1) := by decide +kernel
theorem dX9_here_1 : decode cX9_here 1 = .ok (.getfield 82, 3) := by decide +kernel
theorem dX9_here_4 : decode cX9_here 4 = .ok (.aload_n 0, 1) := by decide +kernel
theorem dX9_here_5 : decode cX9_here 5 = .ok (.getfield 76, 3) := by decide +kernel
theorem dX9_here_8 : decode cX9_here 8 = .ok (.if_icmp .ge 30, 3) := by decide +kernel
theorem dX9_here_11 : decode cX9_here 11 = .ok (.aload_n 0, 1) := by decide +kernel
theorem dX9_here_12 : decode cX9_here 12 = .ok (.getfield 47, 3) := by decide +kernel
theorem dX9_here_15 : decode cX9_here 15 = .ok (.aload_n 0, 1) := by decide +kernel
theorem dX9_here_16 : decode cX9_here 16 = .ok (.getfield 82, 3) := by decide +kernel
theorem dX9_here_19 : decode cX9_here 19 = .ok (.iaload, 1) := by decide +kernel
theorem dX9_here_20 : decode cX9_here 20 = .ok (.bipush 32, 2) := by decide +kernel
theorem dX9_here_22 : decode cX9_here 22 = .ok (.if_icmp .ne 16, 3) := by decide +kernel
theorem dX9_here_25 : decode cX9_here 25 = .ok (.aload_n 0, 1) := by decide +kernel
theorem dX9_here_26 : decode cX9_here 26 = .ok (.dup, 1) := by decide +kernel
theorem dX9_here_27 : decode cX9_here 27 = .ok (.getfield 82, 3) := by decide +kernel
theorem dX9_here_30 : decode cX9_here 30 = .ok (.iconst 1, 1) := by decide +kernel
theorem dX9_here_31 : decode cX9_here 31 = .ok (.iadd, 1) := by decide +kernel
theorem dX9_here_32 : decode cX9_here 32 = .ok (.putfield 82, 3) := by decide +kernel
theorem dX9_here_35 : decode cX9_here 35 = .ok (.goto (-35), 3) := by decide +kernel
theorem dX9_here_38 : decode cX9_here 38 = .ok (.aload_n 0, 1) := by decide +kernel
theorem dX9_here_39 : decode cX9_here 39 = .ok (.getfield 82, 3) := by decide +kernel
theorem dX9_here_42 : decode cX9_here 42 = .ok (.aload_n 0, 1) := by decide +kernel
theorem dX9_here_43 : decode cX9_here 43 = .ok (.getfield 76, 3) := by decide +kernel
theorem dX9_here_46 : decode cX9_here 46 = .ok (.if_icmp .ge 15, 3) := by decide +kernel
theorem dX9_here_49 : decode cX9_here 49 = .ok (.aload_n 0, 1) := by decide +kernel
theorem dX9_here_50 : decode cX9_here 50 = .ok (.getfield 47, 3) := by decide +kernel
theorem dX9_here_53 : decode cX9_here 53 = .ok (.aload_n 0, 1) := by decide +kernel
theorem dX9_here_54 : decode cX9_here 54 = .ok (.getfield 82, 3) := by decide +kernel
theorem dX9_here_57 : decode cX9_here 57 = .ok (.iaload, 1) := by decide +kernel
theorem dX9_here_58 : decode cX9_here 58 = .ok (.goto 4, 3) := by decide +kernel
theorem dX9_here_61 : decode cX9_here 61 = .ok (.iconst (-1), 1) := by decide +kernel
theorem dX9_here_62 : decode cX9_here 62 = .ok (.ireturn, 1) := by decide +kernel
theorem dX9_want_0 : decode cX9_want 0 = .ok (.iload_n 1, 1) := by decide +kernel
theorem dX9_want_1 : decode cX9_want 1 = .ok (.ifCond .ne 20, 3) := by decide +kernel
theorem dX9_want_4 : decode cX9_want 4 = .ok (.aload_n 0, 1) := by decide +kernel
theorem dX9_want_5 : decode cX9_want 5 = .ok (.getfield 85, 3) := by decide +kernel
theorem dX9_want_8 : decode cX9_want 8 = .ok (.ifCond .ne 13, 3) := by decide +kernel
theorem dX9_want_11 : decode cX9_want 11 = .ok (.aload_n 0, 1) := by decide +kernel
theorem dX9_want_12 : decode cX9_want 12 = .ok (.iload_n 2, 1) := by decide +kernel
theorem dX9_want_13 : decode cX9_want 13 = .ok (.putfield 85, 3) := by decide +kernel
theorem dX9_want_16 : decode cX9_want 16 = .ok (.aload_n 0, 1) := by decide +kernel
theorem dX9_want_17 : decode cX9_want 17 = .ok (.iload_n 3, 1) := by decide +kernel
theorem dX9_want_18 : decode cX9_want 18 = .ok (.putfield 50, 3) := by decide +kernel
theorem dX9_want_21 : decode cX9_want 21 = .ok (.aload_n 0, 1) := by decide +kernel
theorem dX9_want_22 : decode cX9_want 22 = .ok (.getfield 85, 3) := by decide +kernel
theorem dX9_want_25 : decode cX9_want 25 = .ok (.ifCond .ne 7, 3) := by decide +kernel
theorem dX9_want_28 : decode cX9_want 28 = .ok (.iconst 1, 1) := by decide +kernel
theorem dX9_want_29 : decode cX9_want 29 = .ok (.goto 4, 3) := by decide +kernel
theorem dX9_want_32 : decode cX9_want 32 = .ok (.iconst 0, 1) := by decide +kernel
theorem dX9_want_33 : decode cX9_want 33 = .ok (.ireturn, 1) := by decide +kernel
theorem dX9_takeWord_0 : decode cX9_takeWord 0 = .ok (.aload_n 0, 1) := by decide +kernel
theorem dX9_takeWord_1 : decode cX9_takeWord 1 = .ok (.invokevirtual 88, 3) := by decide +kernel
theorem dX9_takeWord_4 : decode cX9_takeWord 4 = .ok (.istore_n 1, 1) := by decide +kernel
theorem dX9_takeWord_5 : decode cX9_takeWord 5 = .ok (.aload_n 0, 1) := by decide +kernel
theorem dX9_takeWord_6 : decode cX9_takeWord 6 = .ok (.aload_n 0, 1) := by decide +kernel
theorem dX9_takeWord_7 : decode cX9_takeWord 7 = .ok (.getfield 82, 3) := by decide +kernel
theorem dX9_takeWord_10 : decode cX9_takeWord 10 = .ok (.putfield 92, 3) := by decide +kernel
theorem dX9_takeWord_13 : decode cX9_takeWord 13 = .ok (.aload_n 0, 1) := by decide +kernel
theorem dX9_takeWord_14 : decode cX9_takeWord 14 = .ok (.getfield 82, 3) := by decide +kernel
theorem dX9_takeWord_17 : decode cX9_takeWord 17 = .ok (.aload_n 0, 1) := by decide +kernel
theorem dX9_takeWord_18 : decode cX9_takeWord 18 = .ok (.getfield 76, 3) := by decide +kernel
theorem dX9_takeWord_21 : decode cX9_takeWord 21 = .ok (.if_icmp .ge 38, 3) := by decide +kernel
theorem dX9_takeWord_24 : decode cX9_takeWord 24 = .ok (.aload_n 0, 1) := by decide +kernel
theorem dX9_takeWord_25 : decode cX9_takeWord 25 = .ok (.getfield 47, 3) := by decide +kernel
theorem dX9_takeWord_28 : decode cX9_takeWord 28 = .ok (.aload_n 0, 1) := by decide +kernel
theorem dX9_takeWord_29 : decode cX9_takeWord 29 = .ok (.getfield 82, 3) := by decide +kernel
theorem dX9_takeWord_32 : decode cX9_takeWord 32 = .ok (.iaload, 1) := by decide +kernel
theorem dX9_takeWord_33 : decode cX9_takeWord 33 = .ok (.i2l, 1) := by decide +kernel
theorem dX9_takeWord_34 : decode cX9_takeWord 34 = .ok (.ldc2_w 95, 3) := by decide +kernel
theorem dX9_takeWord_37 : decode cX9_takeWord 37 = .ok (.ldc2_w 97, 3) := by decide +kernel
theorem dX9_takeWord_40 : decode cX9_takeWord 40 = .ok (.invokestatic 71, 3) := by decide +kernel
theorem dX9_takeWord_43 : decode cX9_takeWord 43 = .ok (.ifCond .eq 16, 3) := by decide +kernel
theorem dX9_takeWord_46 : decode cX9_takeWord 46 = .ok (.aload_n 0, 1) := by decide +kernel
theorem dX9_takeWord_47 : decode cX9_takeWord 47 = .ok (.dup, 1) := by decide +kernel
theorem dX9_takeWord_48 : decode cX9_takeWord 48 = .ok (.getfield 82, 3) := by decide +kernel
theorem dX9_takeWord_51 : decode cX9_takeWord 51 = .ok (.iconst 1, 1) := by decide +kernel
theorem dX9_takeWord_52 : decode cX9_takeWord 52 = .ok (.iadd, 1) := by decide +kernel
theorem dX9_takeWord_53 : decode cX9_takeWord 53 = .ok (.putfield 82, 3) := by decide +kernel
theorem dX9_takeWord_56 : decode cX9_takeWord 56 = .ok (.goto (-43), 3) := by decide +kernel
theorem dX9_takeWord_59 : decode cX9_takeWord 59 = .ok (.aload_n 0, 1) := by decide +kernel
theorem dX9_takeWord_60 : decode cX9_takeWord 60 = .ok (.aload_n 0, 1) := by decide +kernel
theorem dX9_takeWord_61 : decode cX9_takeWord 61 = .ok (.getfield 82, 3) := by decide +kernel
theorem dX9_takeWord_64 : decode cX9_takeWord 64 = .ok (.aload_n 0, 1) := by decide +kernel
theorem dX9_takeWord_65 : decode cX9_takeWord 65 = .ok (.getfield 92, 3) := by decide +kernel
theorem dX9_takeWord_68 : decode cX9_takeWord 68 = .ok (.isub, 1) := by decide +kernel
theorem dX9_takeWord_69 : decode cX9_takeWord 69 = .ok (.putfield 99, 3) := by decide +kernel
theorem dX9_takeWord_72 : decode cX9_takeWord 72 = .ok (.return_, 1) := by decide +kernel
theorem dX9_isWord_0 : decode cX9_isWord 0 = .ok (.aload_n 0, 1) := by decide +kernel
theorem dX9_isWord_1 : decode cX9_isWord 1 = .ok (.getfield 99, 3) := by decide +kernel
theorem dX9_isWord_4 : decode cX9_isWord 4 = .ok (.iload_n 1, 1) := by decide +kernel
theorem dX9_isWord_5 : decode cX9_isWord 5 = .ok (.if_icmp .ne 7, 3) := by decide +kernel
theorem dX9_isWord_8 : decode cX9_isWord 8 = .ok (.iconst 1, 1) := by decide +kernel
theorem dX9_isWord_9 : decode cX9_isWord 9 = .ok (.goto 4, 3) := by decide +kernel
theorem dX9_isWord_12 : decode cX9_isWord 12 = .ok (.iconst 0, 1) := by decide +kernel
theorem dX9_isWord_13 : decode cX9_isWord 13 = .ok (.istore 8, 2) := by decide +kernel
theorem dX9_isWord_15 : decode cX9_isWord 15 = .ok (.iconst 0, 1) := by decide +kernel
theorem dX9_isWord_16 : decode cX9_isWord 16 = .ok (.istore 9, 2) := by decide +kernel
theorem dX9_isWord_18 : decode cX9_isWord 18 = .ok (.iload 9, 2) := by decide +kernel
theorem dX9_isWord_20 : decode cX9_isWord 20 = .ok (.iload_n 1, 1) := by decide +kernel
theorem dX9_isWord_21 : decode cX9_isWord 21 = .ok (.if_icmp .ge 90, 3) := by decide +kernel
theorem dX9_isWord_24 : decode cX9_isWord 24 = .ok (.iload 8, 2) := by decide +kernel
theorem dX9_isWord_26 : decode cX9_isWord 26 = .ok (.ifCond .eq 85, 3) := by decide +kernel
theorem dX9_isWord_29 : decode cX9_isWord 29 = .ok (.aload_n 0, 1) := by decide +kernel
theorem dX9_isWord_30 : decode cX9_isWord 30 = .ok (.getfield 47, 3) := by decide +kernel
theorem dX9_isWord_33 : decode cX9_isWord 33 = .ok (.aload_n 0, 1) := by decide +kernel
theorem dX9_isWord_34 : decode cX9_isWord 34 = .ok (.getfield 92, 3) := by decide +kernel
theorem dX9_isWord_37 : decode cX9_isWord 37 = .ok (.iload 9, 2) := by decide +kernel
theorem dX9_isWord_39 : decode cX9_isWord 39 = .ok (.iadd, 1) := by decide +kernel
theorem dX9_isWord_40 : decode cX9_isWord 40 = .ok (.iaload, 1) := by decide +kernel
theorem dX9_isWord_41 : decode cX9_isWord 41 = .ok (.iload 9, 2) := by decide +kernel
theorem dX9_isWord_43 : decode cX9_isWord 43 = .ok (.ifCond .ne 7, 3) := by decide +kernel
theorem dX9_isWord_46 : decode cX9_isWord 46 = .ok (.iload_n 2, 1) := by decide +kernel
theorem dX9_isWord_47 : decode cX9_isWord 47 = .ok (.goto 48, 3) := by decide +kernel
theorem dX9_isWord_50 : decode cX9_isWord 50 = .ok (.iload 9, 2) := by decide +kernel
theorem dX9_isWord_52 : decode cX9_isWord 52 = .ok (.iconst 1, 1) := by decide +kernel
theorem dX9_isWord_53 : decode cX9_isWord 53 = .ok (.if_icmp .ne 7, 3) := by decide +kernel
theorem dX9_isWord_56 : decode cX9_isWord 56 = .ok (.iload_n 3, 1) := by decide +kernel
theorem dX9_isWord_57 : decode cX9_isWord 57 = .ok (.goto 38, 3) := by decide +kernel
theorem dX9_isWord_60 : decode cX9_isWord 60 = .ok (.iload 9, 2) := by decide +kernel
theorem dX9_isWord_62 : decode cX9_isWord 62 = .ok (.iconst 2, 1) := by decide +kernel
theorem dX9_isWord_63 : decode cX9_isWord 63 = .ok (.if_icmp .ne 8, 3) := by decide +kernel
theorem dX9_isWord_66 : decode cX9_isWord 66 = .ok (.iload 4, 2) := by decide +kernel
theorem dX9_isWord_68 : decode cX9_isWord 68 = .ok (.goto 27, 3) := by decide +kernel
theorem dX9_isWord_71 : decode cX9_isWord 71 = .ok (.iload 9, 2) := by decide +kernel
theorem dX9_isWord_73 : decode cX9_isWord 73 = .ok (.iconst 3, 1) := by decide +kernel
theorem dX9_isWord_74 : decode cX9_isWord 74 = .ok (.if_icmp .ne 8, 3) := by decide +kernel
theorem dX9_isWord_77 : decode cX9_isWord 77 = .ok (.iload 5, 2) := by decide +kernel
theorem dX9_isWord_79 : decode cX9_isWord 79 = .ok (.goto 16, 3) := by decide +kernel
theorem dX9_isWord_82 : decode cX9_isWord 82 = .ok (.iload 9, 2) := by decide +kernel
theorem dX9_isWord_84 : decode cX9_isWord 84 = .ok (.iconst 4, 1) := by decide +kernel
theorem dX9_isWord_85 : decode cX9_isWord 85 = .ok (.if_icmp .ne 8, 3) := by decide +kernel
theorem dX9_isWord_88 : decode cX9_isWord 88 = .ok (.iload 6, 2) := by decide +kernel
theorem dX9_isWord_90 : decode cX9_isWord 90 = .ok (.goto 5, 3) := by decide +kernel
theorem dX9_isWord_93 : decode cX9_isWord 93 = .ok (.iload 7, 2) := by decide +kernel
theorem dX9_isWord_95 : decode cX9_isWord 95 = .ok (.if_icmp .ne 7, 3) := by decide +kernel
theorem dX9_isWord_98 : decode cX9_isWord 98 = .ok (.iconst 1, 1) := by decide +kernel
theorem dX9_isWord_99 : decode cX9_isWord 99 = .ok (.goto 4, 3) := by decide +kernel
theorem dX9_isWord_102 : decode cX9_isWord 102 = .ok (.iconst 0, 1) := by decide +kernel
theorem dX9_isWord_103 : decode cX9_isWord 103 = .ok (.istore 8, 2) := by decide +kernel
theorem dX9_isWord_105 : decode cX9_isWord 105 = .ok (.iinc 9 1, 3) := by decide +kernel
theorem dX9_isWord_108 : decode cX9_isWord 108 = .ok (.goto (-90), 3) := by decide +kernel
theorem dX9_isWord_111 : decode cX9_isWord 111 = .ok (.iload 8, 2) := by decide +kernel
theorem dX9_isWord_113 : decode cX9_isWord 113 = .ok (.ireturn, 1) := by decide +kernel
theorem dX9_takeNumber_0 : decode cX9_takeNumber 0 = .ok (.aload_n 0, 1) := by decide +kernel
theorem dX9_takeNumber_1 : decode cX9_takeNumber 1 = .ok (.getfield 85, 3) := by decide +kernel
theorem dX9_takeNumber_4 : decode cX9_takeNumber 4 = .ok (.ifCond .le 5, 3) := by decide +kernel
theorem dX9_takeNumber_7 : decode cX9_takeNumber 7 = .ok (.iconst 0, 1) := by decide +kernel
theorem dX9_takeNumber_8 : decode cX9_takeNumber 8 = .ok (.ireturn, 1) := by decide +kernel
theorem dX9_takeNumber_9 : decode cX9_takeNumber 9 = .ok (.aload_n 0, 1) := by decide +kernel
theorem dX9_takeNumber_10 : decode cX9_takeNumber 10 = .ok (.invokevirtual 88, 3) := by decide +kernel
theorem dX9_takeNumber_13 : decode cX9_takeNumber 13 = .ok (.istore_n 3, 1) := by decide +kernel
theorem dX9_takeNumber_14 : decode cX9_takeNumber 14 = .ok (.aload_n 0, 1) := by decide +kernel
theorem dX9_takeNumber_15 : decode cX9_takeNumber 15 = .ok (.aload_n 0, 1) := by decide +kernel
theorem dX9_takeNumber_16 : decode cX9_takeNumber 16 = .ok (.getfield 82, 3) := by decide +kernel
theorem dX9_takeNumber_19 : decode cX9_takeNumber 19 = .ok (.putfield 92, 3) := by decide +kernel
theorem dX9_takeNumber_22 : decode cX9_takeNumber 22 = .ok (.aload_n 0, 1) := by decide +kernel
theorem dX9_takeNumber_23 : decode cX9_takeNumber 23 = .ok (.iload_n 3, 1) := by decide +kernel
theorem dX9_takeNumber_24 : decode cX9_takeNumber 24 = .ok (.i2l, 1) := by decide +kernel
theorem dX9_takeNumber_25 : decode cX9_takeNumber 25 = .ok (.ldc2_w 102, 3) := by decide +kernel
theorem dX9_takeNumber_28 : decode cX9_takeNumber 28 = .ok (.ldc2_w 104, 3) := by decide +kernel
theorem dX9_takeNumber_31 : decode cX9_takeNumber 31 = .ok (.invokestatic 71, 3) := by decide +kernel
theorem dX9_takeNumber_34 : decode cX9_takeNumber 34 = .ok (.iconst 1, 1) := by decide +kernel
theorem dX9_takeNumber_35 : decode cX9_takeNumber 35 = .ok (.aload_n 0, 1) := by decide +kernel
theorem dX9_takeNumber_36 : decode cX9_takeNumber 36 = .ok (.getfield 82, 3) := by decide +kernel
theorem dX9_takeNumber_39 : decode cX9_takeNumber 39 = .ok (.invokevirtual 106, 3) := by decide +kernel
theorem dX9_takeNumber_42 : decode cX9_takeNumber 42 = .ok (.ifCond .ne 5, 3) := by decide +kernel
theorem dX9_takeNumber_45 : decode cX9_takeNumber 45 = .ok (.iconst 0, 1) := by decide +kernel
theorem dX9_takeNumber_46 : decode cX9_takeNumber 46 = .ok (.ireturn, 1) := by decide +kernel
theorem dX9_takeNumber_47 : decode cX9_takeNumber 47 = .ok (.iconst 0, 1) := by decide +kernel
theorem dX9_takeNumber_48 : decode cX9_takeNumber 48 = .ok (.istore 4, 2) := by decide +kernel
theorem dX9_takeNumber_50 : decode cX9_takeNumber 50 = .ok (.aload_n 0, 1) := by decide +kernel
theorem dX9_takeNumber_51 : decode cX9_takeNumber 51 = .ok (.getfield 82, 3) := by decide +kernel
theorem dX9_takeNumber_54 : decode cX9_takeNumber 54 = .ok (.aload_n 0, 1) := by decide +kernel
theorem dX9_takeNumber_55 : decode cX9_takeNumber 55 = .ok (.getfield 76, 3) := by decide +kernel
theorem dX9_takeNumber_58 : decode cX9_takeNumber 58 = .ok (.if_icmp .ge 70, 3) := by decide +kernel
theorem dX9_takeNumber_61 : decode cX9_takeNumber 61 = .ok (.aload_n 0, 1) := by decide +kernel
theorem dX9_takeNumber_62 : decode cX9_takeNumber 62 = .ok (.getfield 47, 3) := by decide +kernel
theorem dX9_takeNumber_65 : decode cX9_takeNumber 65 = .ok (.aload_n 0, 1) := by decide +kernel
theorem dX9_takeNumber_66 : decode cX9_takeNumber 66 = .ok (.getfield 82, 3) := by decide +kernel
theorem dX9_takeNumber_69 : decode cX9_takeNumber 69 = .ok (.iaload, 1) := by decide +kernel
theorem dX9_takeNumber_70 : decode cX9_takeNumber 70 = .ok (.i2l, 1) := by decide +kernel
theorem dX9_takeNumber_71 : decode cX9_takeNumber 71 = .ok (.ldc2_w 102, 3) := by decide +kernel
theorem dX9_takeNumber_74 : decode cX9_takeNumber 74 = .ok (.ldc2_w 104, 3) := by decide +kernel
theorem dX9_takeNumber_77 : decode cX9_takeNumber 77 = .ok (.invokestatic 71, 3) := by decide +kernel
theorem dX9_takeNumber_80 : decode cX9_takeNumber 80 = .ok (.ifCond .eq 48, 3) := by decide +kernel
theorem dX9_takeNumber_83 : decode cX9_takeNumber 83 = .ok (.iload 4, 2) := by decide +kernel
theorem dX9_takeNumber_85 : decode cX9_takeNumber 85 = .ok (.ldc 110, 2) := by decide +kernel
theorem dX9_takeNumber_87 : decode cX9_takeNumber 87 = .ok (.if_icmp .le 8, 3) := by decide +kernel
theorem dX9_takeNumber_90 : decode cX9_takeNumber 90 = .ok (.iload 4, 2) := by decide +kernel
theorem dX9_takeNumber_92 : decode cX9_takeNumber 92 = .ok (.goto 21, 3) := by decide +kernel
theorem dX9_takeNumber_95 : decode cX9_takeNumber 95 = .ok (.bipush 10, 2) := by decide +kernel
theorem dX9_takeNumber_97 : decode cX9_takeNumber 97 = .ok (.iload 4, 2) := by decide +kernel
theorem dX9_takeNumber_99 : decode cX9_takeNumber 99 = .ok (.imul, 1) := by decide +kernel
theorem dX9_takeNumber_100 : decode cX9_takeNumber 100 = .ok (.aload_n 0, 1) := by decide +kernel
theorem dX9_takeNumber_101 : decode cX9_takeNumber 101 = .ok (.getfield 47, 3) := by decide +kernel
theorem dX9_takeNumber_104 : decode cX9_takeNumber 104 = .ok (.aload_n 0, 1) := by decide +kernel
theorem dX9_takeNumber_105 : decode cX9_takeNumber 105 = .ok (.getfield 82, 3) := by decide +kernel
theorem dX9_takeNumber_108 : decode cX9_takeNumber 108 = .ok (.iaload, 1) := by decide +kernel
theorem dX9_takeNumber_109 : decode cX9_takeNumber 109 = .ok (.iadd, 1) := by decide +kernel
theorem dX9_takeNumber_110 : decode cX9_takeNumber 110 = .ok (.bipush 48, 2) := by decide +kernel
theorem dX9_takeNumber_112 : decode cX9_takeNumber 112 = .ok (.isub, 1) := by decide +kernel
theorem dX9_takeNumber_113 : decode cX9_takeNumber 113 = .ok (.istore 4, 2) := by decide +kernel
theorem dX9_takeNumber_115 : decode cX9_takeNumber 115 = .ok (.aload_n 0, 1) := by decide +kernel
theorem dX9_takeNumber_116 : decode cX9_takeNumber 116 = .ok (.dup, 1) := by decide +kernel
theorem dX9_takeNumber_117 : decode cX9_takeNumber 117 = .ok (.getfield 82, 3) := by decide +kernel
theorem dX9_takeNumber_120 : decode cX9_takeNumber 120 = .ok (.iconst 1, 1) := by decide +kernel
theorem dX9_takeNumber_121 : decode cX9_takeNumber 121 = .ok (.iadd, 1) := by decide +kernel
theorem dX9_takeNumber_122 : decode cX9_takeNumber 122 = .ok (.putfield 82, 3) := by decide +kernel
theorem dX9_takeNumber_125 : decode cX9_takeNumber 125 = .ok (.goto (-75), 3) := by decide +kernel
theorem dX9_takeNumber_128 : decode cX9_takeNumber 128 = .ok (.aload_n 0, 1) := by decide +kernel
theorem dX9_takeNumber_129 : decode cX9_takeNumber 129 = .ok (.aload_n 0, 1) := by decide +kernel
theorem dX9_takeNumber_130 : decode cX9_takeNumber 130 = .ok (.getfield 82, 3) := by decide +kernel
theorem dX9_takeNumber_133 : decode cX9_takeNumber 133 = .ok (.aload_n 0, 1) := by decide +kernel
theorem dX9_takeNumber_134 : decode cX9_takeNumber 134 = .ok (.getfield 92, 3) := by decide +kernel
theorem dX9_takeNumber_137 : decode cX9_takeNumber 137 = .ok (.isub, 1) := by decide +kernel
theorem dX9_takeNumber_138 : decode cX9_takeNumber 138 = .ok (.iconst 4, 1) := by decide +kernel
theorem dX9_takeNumber_139 : decode cX9_takeNumber 139 = .ok (.if_icmp .ge 20, 3) := by decide +kernel
theorem dX9_takeNumber_142 : decode cX9_takeNumber 142 = .ok (.iload 4, 2) := by decide +kernel
theorem dX9_takeNumber_144 : decode cX9_takeNumber 144 = .ok (.i2l, 1) := by decide +kernel
theorem dX9_takeNumber_145 : decode cX9_takeNumber 145 = .ok (.iload_n 1, 1) := by decide +kernel
theorem dX9_takeNumber_146 : decode cX9_takeNumber 146 = .ok (.i2l, 1) := by decide +kernel
theorem dX9_takeNumber_147 : decode cX9_takeNumber 147 = .ok (.iload_n 2, 1) := by decide +kernel
theorem dX9_takeNumber_148 : decode cX9_takeNumber 148 = .ok (.i2l, 1) := by decide +kernel
theorem dX9_takeNumber_149 : decode cX9_takeNumber 149 = .ok (.invokestatic 71, 3) := by decide +kernel
theorem dX9_takeNumber_152 : decode cX9_takeNumber 152 = .ok (.ifCond .eq 7, 3) := by decide +kernel
theorem dX9_takeNumber_155 : decode cX9_takeNumber 155 = .ok (.iconst 1, 1) := by decide +kernel
theorem dX9_takeNumber_156 : decode cX9_takeNumber 156 = .ok (.goto 4, 3) := by decide +kernel
theorem dX9_takeNumber_159 : decode cX9_takeNumber 159 = .ok (.iconst 0, 1) := by decide +kernel
theorem dX9_takeNumber_160 : decode cX9_takeNumber 160 = .ok (.iconst 2, 1) := by decide +kernel
theorem dX9_takeNumber_161 : decode cX9_takeNumber 161 = .ok (.aload_n 0, 1) := by decide +kernel
theorem dX9_takeNumber_162 : decode cX9_takeNumber 162 = .ok (.getfield 92, 3) := by decide +kernel
theorem dX9_takeNumber_165 : decode cX9_takeNumber 165 = .ok (.invokevirtual 106, 3) := by decide +kernel
theorem dX9_takeNumber_168 : decode cX9_takeNumber 168 = .ok (.istore 5, 2) := by decide +kernel
theorem dX9_takeNumber_170 : decode cX9_takeNumber 170 = .ok (.iload 4, 2) := by decide +kernel
theorem dX9_takeNumber_172 : decode cX9_takeNumber 172 = .ok (.ireturn, 1) := by decide +kernel
theorem dX9_takePerson_0 : decode cX9_takePerson 0 = .ok (.aload_n 0, 1) := by decide +kernel
theorem dX9_takePerson_1 : decode cX9_takePerson 1 = .ok (.iconst 0, 1) := by decide +kernel
theorem dX9_takePerson_2 : decode cX9_takePerson 2 = .ok (.aload_n 0, 1) := by decide +kernel
theorem dX9_takePerson_3 : decode cX9_takePerson 3 = .ok (.getfield 44, 3) := by decide +kernel
theorem dX9_takePerson_6 : decode cX9_takePerson 6 = .ok (.iconst 4, 1) := by decide +kernel
theorem dX9_takePerson_7 : decode cX9_takePerson 7 = .ok (.iaload, 1) := by decide +kernel
theorem dX9_takePerson_8 : decode cX9_takePerson 8 = .ok (.iconst 1, 1) := by decide +kernel
theorem dX9_takePerson_9 : decode cX9_takePerson 9 = .ok (.isub, 1) := by decide +kernel
theorem dX9_takePerson_10 : decode cX9_takePerson 10 = .ok (.invokevirtual 111, 3) := by decide +kernel
theorem dX9_takePerson_13 : decode cX9_takePerson 13 = .ok (.ireturn, 1) := by decide +kernel
theorem dX9_takeCoat_0 : decode cX9_takeCoat 0 = .ok (.bipush 8, 2) := by decide +kernel
theorem dX9_takeCoat_2 : decode cX9_takeCoat 2 = .ok (.aload_n 0, 1) := by decide +kernel
theorem dX9_takeCoat_3 : decode cX9_takeCoat 3 = .ok (.getfield 44, 3) := by decide +kernel
theorem dX9_takeCoat_6 : decode cX9_takeCoat 6 = .ok (.iconst 5, 1) := by decide +kernel
theorem dX9_takeCoat_7 : decode cX9_takeCoat 7 = .ok (.iaload, 1) := by decide +kernel
theorem dX9_takeCoat_8 : decode cX9_takeCoat 8 = .ok (.iadd, 1) := by decide +kernel
theorem dX9_takeCoat_9 : decode cX9_takeCoat 9 = .ok (.istore_n 1, 1) := by decide +kernel
theorem dX9_takeCoat_10 : decode cX9_takeCoat 10 = .ok (.aload_n 0, 1) := by decide +kernel
theorem dX9_takeCoat_11 : decode cX9_takeCoat 11 = .ok (.getfield 17, 3) := by decide +kernel
theorem dX9_takeCoat_14 : decode cX9_takeCoat 14 = .ok (.iload_n 1, 1) := by decide +kernel
theorem dX9_takeCoat_15 : decode cX9_takeCoat 15 = .ok (.aload_n 0, 1) := by decide +kernel
theorem dX9_takeCoat_16 : decode cX9_takeCoat 16 = .ok (.invokevirtual 115, 3) := by decide +kernel
theorem dX9_takeCoat_19 : decode cX9_takeCoat 19 = .ok (.iastore, 1) := by decide +kernel
theorem dX9_takeCoat_20 : decode cX9_takeCoat 20 = .ok (.aload_n 0, 1) := by decide +kernel
theorem dX9_takeCoat_21 : decode cX9_takeCoat 21 = .ok (.getfield 20, 3) := by decide +kernel
theorem dX9_takeCoat_24 : decode cX9_takeCoat 24 = .ok (.iload_n 1, 1) := by decide +kernel
theorem dX9_takeCoat_25 : decode cX9_takeCoat 25 = .ok (.aload_n 0, 1) := by decide +kernel
theorem dX9_takeCoat_26 : decode cX9_takeCoat 26 = .ok (.invokevirtual 115, 3) := by decide +kernel
theorem dX9_takeCoat_29 : decode cX9_takeCoat 29 = .ok (.iastore, 1) := by decide +kernel
theorem dX9_takeCoat_30 : decode cX9_takeCoat 30 = .ok (.aload_n 0, 1) := by decide +kernel
theorem dX9_takeCoat_31 : decode cX9_takeCoat 31 = .ok (.aload_n 0, 1) := by decide +kernel
theorem dX9_takeCoat_32 : decode cX9_takeCoat 32 = .ok (.getfield 17, 3) := by decide +kernel
theorem dX9_takeCoat_35 : decode cX9_takeCoat 35 = .ok (.iload_n 1, 1) := by decide +kernel
theorem dX9_takeCoat_36 : decode cX9_takeCoat 36 = .ok (.iaload, 1) := by decide +kernel
theorem dX9_takeCoat_37 : decode cX9_takeCoat 37 = .ok (.aload_n 0, 1) := by decide +kernel
theorem dX9_takeCoat_38 : decode cX9_takeCoat 38 = .ok (.getfield 20, 3) := by decide +kernel
theorem dX9_takeCoat_41 : decode cX9_takeCoat 41 = .ok (.iload_n 1, 1) := by decide +kernel
theorem dX9_takeCoat_42 : decode cX9_takeCoat 42 = .ok (.iaload, 1) := by decide +kernel
theorem dX9_takeCoat_43 : decode cX9_takeCoat 43 = .ok (.if_icmp .eq 7, 3) := by decide +kernel
theorem dX9_takeCoat_46 : decode cX9_takeCoat 46 = .ok (.iconst 1, 1) := by decide +kernel
theorem dX9_takeCoat_47 : decode cX9_takeCoat 47 = .ok (.goto 4, 3) := by decide +kernel
theorem dX9_takeCoat_50 : decode cX9_takeCoat 50 = .ok (.iconst 0, 1) := by decide +kernel
theorem dX9_takeCoat_51 : decode cX9_takeCoat 51 = .ok (.iconst 4, 1) := by decide +kernel
theorem dX9_takeCoat_52 : decode cX9_takeCoat 52 = .ok (.aload_n 0, 1) := by decide +kernel
theorem dX9_takeCoat_53 : decode cX9_takeCoat 53 = .ok (.getfield 92, 3) := by decide +kernel
theorem dX9_takeCoat_56 : decode cX9_takeCoat 56 = .ok (.invokevirtual 106, 3) := by decide +kernel
theorem dX9_takeCoat_59 : decode cX9_takeCoat 59 = .ok (.ifCond .eq 26, 3) := by decide +kernel
theorem dX9_takeCoat_62 : decode cX9_takeCoat 62 = .ok (.aload_n 0, 1) := by decide +kernel
theorem dX9_takeCoat_63 : decode cX9_takeCoat 63 = .ok (.getfield 23, 3) := by decide +kernel
theorem dX9_takeCoat_66 : decode cX9_takeCoat 66 = .ok (.iload_n 1, 1) := by decide +kernel
theorem dX9_takeCoat_67 : decode cX9_takeCoat 67 = .ok (.aload_n 0, 1) := by decide +kernel
theorem dX9_takeCoat_68 : decode cX9_takeCoat 68 = .ok (.iconst 1, 1) := by decide +kernel
theorem dX9_takeCoat_69 : decode cX9_takeCoat 69 = .ok (.bipush 99, 2) := by decide +kernel
theorem dX9_takeCoat_71 : decode cX9_takeCoat 71 = .ok (.invokevirtual 111, 3) := by decide +kernel
theorem dX9_takeCoat_74 : decode cX9_takeCoat 74 = .ok (.iastore, 1) := by decide +kernel
theorem dX9_takeCoat_75 : decode cX9_takeCoat 75 = .ok (.aload_n 0, 1) := by decide +kernel
theorem dX9_takeCoat_76 : decode cX9_takeCoat 76 = .ok (.getfield 44, 3) := by decide +kernel
theorem dX9_takeCoat_79 : decode cX9_takeCoat 79 = .ok (.iconst 5, 1) := by decide +kernel
theorem dX9_takeCoat_80 : decode cX9_takeCoat 80 = .ok (.dup2, 1) := by decide +kernel
theorem dX9_takeCoat_81 : decode cX9_takeCoat 81 = .ok (.iaload, 1) := by decide +kernel
theorem dX9_takeCoat_82 : decode cX9_takeCoat 82 = .ok (.iconst 1, 1) := by decide +kernel
theorem dX9_takeCoat_83 : decode cX9_takeCoat 83 = .ok (.iadd, 1) := by decide +kernel
theorem dX9_takeCoat_84 : decode cX9_takeCoat 84 = .ok (.iastore, 1) := by decide +kernel
theorem dX9_takeCoat_85 : decode cX9_takeCoat 85 = .ok (.return_, 1) := by decide +kernel
theorem dX9_isBusy_0 : decode cX9_isBusy 0 = .ok (.iconst 0, 1) := by decide +kernel
theorem dX9_isBusy_1 : decode cX9_isBusy 1 = .ok (.istore 4, 2) := by decide +kernel
theorem dX9_isBusy_3 : decode cX9_isBusy 3 = .ok (.iconst 0, 1) := by decide +kernel
theorem dX9_isBusy_4 : decode cX9_isBusy 4 = .ok (.istore 5, 2) := by decide +kernel
theorem dX9_isBusy_6 : decode cX9_isBusy 6 = .ok (.iload 5, 2) := by decide +kernel
theorem dX9_isBusy_8 : decode cX9_isBusy 8 = .ok (.aload_n 0, 1) := by decide +kernel
theorem dX9_isBusy_9 : decode cX9_isBusy 9 = .ok (.getfield 44, 3) := by decide +kernel
theorem dX9_isBusy_12 : decode cX9_isBusy 12 = .ok (.bipush 6, 2) := by decide +kernel
theorem dX9_isBusy_14 : decode cX9_isBusy 14 = .ok (.iaload, 1) := by decide +kernel
theorem dX9_isBusy_15 : decode cX9_isBusy 15 = .ok (.if_icmp .ge 63, 3) := by decide +kernel
theorem dX9_isBusy_18 : decode cX9_isBusy 18 = .ok (.iload 4, 2) := by decide +kernel
theorem dX9_isBusy_20 : decode cX9_isBusy 20 = .ok (.ifCond .ne 45, 3) := by decide +kernel
theorem dX9_isBusy_23 : decode cX9_isBusy 23 = .ok (.aload_n 0, 1) := by decide +kernel
theorem dX9_isBusy_24 : decode cX9_isBusy 24 = .ok (.getfield 26, 3) := by decide +kernel
theorem dX9_isBusy_27 : decode cX9_isBusy 27 = .ok (.bipush 10, 2) := by decide +kernel
theorem dX9_isBusy_29 : decode cX9_isBusy 29 = .ok (.iload 5, 2) := by decide +kernel
theorem dX9_isBusy_31 : decode cX9_isBusy 31 = .ok (.iadd, 1) := by decide +kernel
theorem dX9_isBusy_32 : decode cX9_isBusy 32 = .ok (.iaload, 1) := by decide +kernel
theorem dX9_isBusy_33 : decode cX9_isBusy 33 = .ok (.iload_n 1, 1) := by decide +kernel
theorem dX9_isBusy_34 : decode cX9_isBusy 34 = .ok (.if_icmp .ne 35, 3) := by decide +kernel
theorem dX9_isBusy_37 : decode cX9_isBusy 37 = .ok (.aload_n 0, 1) := by decide +kernel
theorem dX9_isBusy_38 : decode cX9_isBusy 38 = .ok (.getfield 32, 3) := by decide +kernel
theorem dX9_isBusy_41 : decode cX9_isBusy 41 = .ok (.bipush 10, 2) := by decide +kernel
theorem dX9_isBusy_43 : decode cX9_isBusy 43 = .ok (.iload 5, 2) := by decide +kernel
theorem dX9_isBusy_45 : decode cX9_isBusy 45 = .ok (.iadd, 1) := by decide +kernel
theorem dX9_isBusy_46 : decode cX9_isBusy 46 = .ok (.iaload, 1) := by decide +kernel
theorem dX9_isBusy_47 : decode cX9_isBusy 47 = .ok (.iload_n 3, 1) := by decide +kernel
theorem dX9_isBusy_48 : decode cX9_isBusy 48 = .ok (.if_icmp .gt 21, 3) := by decide +kernel
theorem dX9_isBusy_51 : decode cX9_isBusy 51 = .ok (.aload_n 0, 1) := by decide +kernel
theorem dX9_isBusy_52 : decode cX9_isBusy 52 = .ok (.getfield 35, 3) := by decide +kernel
theorem dX9_isBusy_55 : decode cX9_isBusy 55 = .ok (.bipush 10, 2) := by decide +kernel
theorem dX9_isBusy_57 : decode cX9_isBusy 57 = .ok (.iload 5, 2) := by decide +kernel
theorem dX9_isBusy_59 : decode cX9_isBusy 59 = .ok (.iadd, 1) := by decide +kernel
theorem dX9_isBusy_60 : decode cX9_isBusy 60 = .ok (.iaload, 1) := by decide +kernel
theorem dX9_isBusy_61 : decode cX9_isBusy 61 = .ok (.iload_n 2, 1) := by decide +kernel
theorem dX9_isBusy_62 : decode cX9_isBusy 62 = .ok (.if_icmp .lt 7, 3) := by decide +kernel
theorem dX9_isBusy_65 : decode cX9_isBusy 65 = .ok (.iconst 1, 1) := by decide +kernel
theorem dX9_isBusy_66 : decode cX9_isBusy 66 = .ok (.goto 4, 3) := by decide +kernel
theorem dX9_isBusy_69 : decode cX9_isBusy 69 = .ok (.iconst 0, 1) := by decide +kernel
theorem dX9_isBusy_70 : decode cX9_isBusy 70 = .ok (.istore 4, 2) := by decide +kernel
theorem dX9_isBusy_72 : decode cX9_isBusy 72 = .ok (.iinc 5 1, 3) := by decide +kernel
theorem dX9_isBusy_75 : decode cX9_isBusy 75 = .ok (.goto (-69), 3) := by decide +kernel
theorem dX9_isBusy_78 : decode cX9_isBusy 78 = .ok (.iload 4, 2) := by decide +kernel
theorem dX9_isBusy_80 : decode cX9_isBusy 80 = .ok (.ireturn, 1) := by decide +kernel
theorem dX9_takeErrand_0 : decode cX9_takeErrand 0 = .ok (.bipush 10, 2) := by decide +kernel
theorem dX9_takeErrand_2 : decode cX9_takeErrand 2 = .ok (.aload_n 0, 1) := by decide +kernel
theorem dX9_takeErrand_3 : decode cX9_takeErrand 3 = .ok (.getfield 44, 3) := by decide +kernel
theorem dX9_takeErrand_6 : decode cX9_takeErrand 6 = .ok (.bipush 6, 2) := by decide +kernel
theorem dX9_takeErrand_8 : decode cX9_takeErrand 8 = .ok (.iaload, 1) := by decide +kernel
theorem dX9_takeErrand_9 : decode cX9_takeErrand 9 = .ok (.iadd, 1) := by decide +kernel
theorem dX9_takeErrand_10 : decode cX9_takeErrand 10 = .ok (.istore_n 1, 1) := by decide +kernel
theorem dX9_takeErrand_11 : decode cX9_takeErrand 11 = .ok (.aload_n 0, 1) := by decide +kernel
theorem dX9_takeErrand_12 : decode cX9_takeErrand 12 = .ok (.getfield 26, 3) := by decide +kernel
theorem dX9_takeErrand_15 : decode cX9_takeErrand 15 = .ok (.iload_n 1, 1) := by decide +kernel
theorem dX9_takeErrand_16 : decode cX9_takeErrand 16 = .ok (.aload_n 0, 1) := by decide +kernel
theorem dX9_takeErrand_17 : decode cX9_takeErrand 17 = .ok (.invokevirtual 115, 3) := by decide +kernel
theorem dX9_takeErrand_20 : decode cX9_takeErrand 20 = .ok (.iastore, 1) := by decide +kernel
theorem dX9_takeErrand_21 : decode cX9_takeErrand 21 = .ok (.aload_n 0, 1) := by decide +kernel
theorem dX9_takeErrand_22 : decode cX9_takeErrand 22 = .ok (.getfield 29, 3) := by decide +kernel
theorem dX9_takeErrand_25 : decode cX9_takeErrand 25 = .ok (.iload_n 1, 1) := by decide +kernel
theorem dX9_takeErrand_26 : decode cX9_takeErrand 26 = .ok (.aload_n 0, 1) := by decide +kernel
theorem dX9_takeErrand_27 : decode cX9_takeErrand 27 = .ok (.iconst 0, 1) := by decide +kernel
theorem dX9_takeErrand_28 : decode cX9_takeErrand 28 = .ok (.iconst 5, 1) := by decide +kernel
theorem dX9_takeErrand_29 : decode cX9_takeErrand 29 = .ok (.invokevirtual 111, 3) := by decide +kernel
theorem dX9_takeErrand_32 : decode cX9_takeErrand 32 = .ok (.iastore, 1) := by decide +kernel
theorem dX9_takeErrand_33 : decode cX9_takeErrand 33 = .ok (.aload_n 0, 1) := by decide +kernel
theorem dX9_takeErrand_34 : decode cX9_takeErrand 34 = .ok (.getfield 32, 3) := by decide +kernel
theorem dX9_takeErrand_37 : decode cX9_takeErrand 37 = .ok (.iload_n 1, 1) := by decide +kernel
theorem dX9_takeErrand_38 : decode cX9_takeErrand 38 = .ok (.aload_n 0, 1) := by decide +kernel
theorem dX9_takeErrand_39 : decode cX9_takeErrand 39 = .ok (.iconst 0, 1) := by decide +kernel
theorem dX9_takeErrand_40 : decode cX9_takeErrand 40 = .ok (.bipush 23, 2) := by decide +kernel
theorem dX9_takeErrand_42 : decode cX9_takeErrand 42 = .ok (.invokevirtual 111, 3) := by decide +kernel
theorem dX9_takeErrand_45 : decode cX9_takeErrand 45 = .ok (.iastore, 1) := by decide +kernel
theorem dX9_takeErrand_46 : decode cX9_takeErrand 46 = .ok (.aload_n 0, 1) := by decide +kernel
theorem dX9_takeErrand_47 : decode cX9_takeErrand 47 = .ok (.getfield 35, 3) := by decide +kernel
theorem dX9_takeErrand_50 : decode cX9_takeErrand 50 = .ok (.iload_n 1, 1) := by decide +kernel
theorem dX9_takeErrand_51 : decode cX9_takeErrand 51 = .ok (.aload_n 0, 1) := by decide +kernel
theorem dX9_takeErrand_52 : decode cX9_takeErrand 52 = .ok (.iconst 0, 1) := by decide +kernel
theorem dX9_takeErrand_53 : decode cX9_takeErrand 53 = .ok (.bipush 23, 2) := by decide +kernel
theorem dX9_takeErrand_55 : decode cX9_takeErrand 55 = .ok (.invokevirtual 111, 3) := by decide +kernel
theorem dX9_takeErrand_58 : decode cX9_takeErrand 58 = .ok (.iastore, 1) := by decide +kernel
theorem dX9_takeErrand_59 : decode cX9_takeErrand 59 = .ok (.aload_n 0, 1) := by decide +kernel
theorem dX9_takeErrand_60 : decode cX9_takeErrand 60 = .ok (.aload_n 0, 1) := by decide +kernel
theorem dX9_takeErrand_61 : decode cX9_takeErrand 61 = .ok (.getfield 35, 3) := by decide +kernel
theorem dX9_takeErrand_64 : decode cX9_takeErrand 64 = .ok (.iload_n 1, 1) := by decide +kernel
theorem dX9_takeErrand_65 : decode cX9_takeErrand 65 = .ok (.iaload, 1) := by decide +kernel
theorem dX9_takeErrand_66 : decode cX9_takeErrand 66 = .ok (.aload_n 0, 1) := by decide +kernel
theorem dX9_takeErrand_67 : decode cX9_takeErrand 67 = .ok (.getfield 32, 3) := by decide +kernel
theorem dX9_takeErrand_70 : decode cX9_takeErrand 70 = .ok (.iload_n 1, 1) := by decide +kernel
theorem dX9_takeErrand_71 : decode cX9_takeErrand 71 = .ok (.iaload, 1) := by decide +kernel
theorem dX9_takeErrand_72 : decode cX9_takeErrand 72 = .ok (.if_icmp .lt 32, 3) := by decide +kernel
theorem dX9_takeErrand_75 : decode cX9_takeErrand 75 = .ok (.aload_n 0, 1) := by decide +kernel
theorem dX9_takeErrand_76 : decode cX9_takeErrand 76 = .ok (.aload_n 0, 1) := by decide +kernel
theorem dX9_takeErrand_77 : decode cX9_takeErrand 77 = .ok (.getfield 26, 3) := by decide +kernel
theorem dX9_takeErrand_80 : decode cX9_takeErrand 80 = .ok (.iload_n 1, 1) := by decide +kernel
theorem dX9_takeErrand_81 : decode cX9_takeErrand 81 = .ok (.iaload, 1) := by decide +kernel
theorem dX9_takeErrand_82 : decode cX9_takeErrand 82 = .ok (.aload_n 0, 1) := by decide +kernel
theorem dX9_takeErrand_83 : decode cX9_takeErrand 83 = .ok (.getfield 32, 3) := by decide +kernel
theorem dX9_takeErrand_86 : decode cX9_takeErrand 86 = .ok (.iload_n 1, 1) := by decide +kernel
theorem dX9_takeErrand_87 : decode cX9_takeErrand 87 = .ok (.iaload, 1) := by decide +kernel
theorem dX9_takeErrand_88 : decode cX9_takeErrand 88 = .ok (.aload_n 0, 1) := by decide +kernel
theorem dX9_takeErrand_89 : decode cX9_takeErrand 89 = .ok (.getfield 35, 3) := by decide +kernel
theorem dX9_takeErrand_92 : decode cX9_takeErrand 92 = .ok (.iload_n 1, 1) := by decide +kernel
theorem dX9_takeErrand_93 : decode cX9_takeErrand 93 = .ok (.iaload, 1) := by decide +kernel
theorem dX9_takeErrand_94 : decode cX9_takeErrand 94 = .ok (.invokevirtual 118, 3) := by decide +kernel
theorem dX9_takeErrand_97 : decode cX9_takeErrand 97 = .ok (.ifCond .ne 7, 3) := by decide +kernel
theorem dX9_takeErrand_100 : decode cX9_takeErrand 100 = .ok (.iconst 1, 1) := by decide +kernel
theorem dX9_takeErrand_101 : decode cX9_takeErrand 101 = .ok (.goto 4, 3) := by decide +kernel
theorem dX9_takeErrand_104 : decode cX9_takeErrand 104 = .ok (.iconst 0, 1) := by decide +kernel
theorem dX9_takeErrand_105 : decode cX9_takeErrand 105 = .ok (.iconst 4, 1) := by decide +kernel
theorem dX9_takeErrand_106 : decode cX9_takeErrand 106 = .ok (.aload_n 0, 1) := by decide +kernel
theorem dX9_takeErrand_107 : decode cX9_takeErrand 107 = .ok (.getfield 92, 3) := by decide +kernel
theorem dX9_takeErrand_110 : decode cX9_takeErrand 110 = .ok (.invokevirtual 106, 3) := by decide +kernel
theorem dX9_takeErrand_113 : decode cX9_takeErrand 113 = .ok (.ifCond .eq 14, 3) := by decide +kernel
theorem dX9_takeErrand_116 : decode cX9_takeErrand 116 = .ok (.aload_n 0, 1) := by decide +kernel
theorem dX9_takeErrand_117 : decode cX9_takeErrand 117 = .ok (.getfield 44, 3) := by decide +kernel
theorem dX9_takeErrand_120 : decode cX9_takeErrand 120 = .ok (.bipush 6, 2) := by decide +kernel
theorem dX9_takeErrand_122 : decode cX9_takeErrand 122 = .ok (.dup2, 1) := by decide +kernel
theorem dX9_takeErrand_123 : decode cX9_takeErrand 123 = .ok (.iaload, 1) := by decide +kernel
theorem dX9_takeErrand_124 : decode cX9_takeErrand 124 = .ok (.iconst 1, 1) := by decide +kernel
theorem dX9_takeErrand_125 : decode cX9_takeErrand 125 = .ok (.iadd, 1) := by decide +kernel
theorem dX9_takeErrand_126 : decode cX9_takeErrand 126 = .ok (.iastore, 1) := by decide +kernel
theorem dX9_takeErrand_127 : decode cX9_takeErrand 127 = .ok (.return_, 1) := by decide +kernel
theorem dX9_takeLike_0 : decode cX9_takeLike 0 = .ok (.aload_n 0, 1) := by decide +kernel
theorem dX9_takeLike_1 : decode cX9_takeLike 1 = .ok (.invokevirtual 115, 3) := by decide +kernel
theorem dX9_takeLike_4 : decode cX9_takeLike 4 = .ok (.istore_n 1, 1) := by decide +kernel
theorem dX9_takeLike_5 : decode cX9_takeLike 5 = .ok (.aload_n 0, 1) := by decide +kernel
theorem dX9_takeLike_6 : decode cX9_takeLike 6 = .ok (.invokevirtual 115, 3) := by decide +kernel
theorem dX9_takeLike_9 : decode cX9_takeLike 9 = .ok (.istore_n 2, 1) := by decide +kernel
theorem dX9_takeLike_10 : decode cX9_takeLike 10 = .ok (.aload_n 0, 1) := by decide +kernel
theorem dX9_takeLike_11 : decode cX9_takeLike 11 = .ok (.getfield 85, 3) := by decide +kernel
theorem dX9_takeLike_14 : decode cX9_takeLike 14 = .ok (.ifCond .ne 82, 3) := by decide +kernel
theorem dX9_takeLike_17 : decode cX9_takeLike 17 = .ok (.aload_n 0, 1) := by decide +kernel
theorem dX9_takeLike_18 : decode cX9_takeLike 18 = .ok (.iload_n 1, 1) := by decide +kernel
theorem dX9_takeLike_19 : decode cX9_takeLike 19 = .ok (.iload_n 2, 1) := by decide +kernel
theorem dX9_takeLike_20 : decode cX9_takeLike 20 = .ok (.if_icmp .eq 21, 3) := by decide +kernel
theorem dX9_takeLike_23 : decode cX9_takeLike 23 = .ok (.aload_n 0, 1) := by decide +kernel
theorem dX9_takeLike_24 : decode cX9_takeLike 24 = .ok (.getfield 41, 3) := by decide +kernel
theorem dX9_takeLike_27 : decode cX9_takeLike 27 = .ok (.bipush 8, 2) := by decide +kernel
theorem dX9_takeLike_29 : decode cX9_takeLike 29 = .ok (.iload_n 1, 1) := by decide +kernel
theorem dX9_takeLike_30 : decode cX9_takeLike 30 = .ok (.imul, 1) := by decide +kernel
theorem dX9_takeLike_31 : decode cX9_takeLike 31 = .ok (.iload_n 2, 1) := by decide +kernel
theorem dX9_takeLike_32 : decode cX9_takeLike 32 = .ok (.iadd, 1) := by decide +kernel
theorem dX9_takeLike_33 : decode cX9_takeLike 33 = .ok (.iaload, 1) := by decide +kernel
theorem dX9_takeLike_34 : decode cX9_takeLike 34 = .ok (.ifCond .ne 7, 3) := by decide +kernel
theorem dX9_takeLike_37 : decode cX9_takeLike 37 = .ok (.iconst 1, 1) := by decide +kernel
theorem dX9_takeLike_38 : decode cX9_takeLike 38 = .ok (.goto 4, 3) := by decide +kernel
theorem dX9_takeLike_41 : decode cX9_takeLike 41 = .ok (.iconst 0, 1) := by decide +kernel
theorem dX9_takeLike_42 : decode cX9_takeLike 42 = .ok (.iconst 4, 1) := by decide +kernel
theorem dX9_takeLike_43 : decode cX9_takeLike 43 = .ok (.aload_n 0, 1) := by decide +kernel
theorem dX9_takeLike_44 : decode cX9_takeLike 44 = .ok (.getfield 92, 3) := by decide +kernel
theorem dX9_takeLike_47 : decode cX9_takeLike 47 = .ok (.invokevirtual 106, 3) := by decide +kernel
theorem dX9_takeLike_50 : decode cX9_takeLike 50 = .ok (.ifCond .eq 46, 3) := by decide +kernel
theorem dX9_takeLike_53 : decode cX9_takeLike 53 = .ok (.aload_n 0, 1) := by decide +kernel
theorem dX9_takeLike_54 : decode cX9_takeLike 54 = .ok (.getfield 41, 3) := by decide +kernel
theorem dX9_takeLike_57 : decode cX9_takeLike 57 = .ok (.bipush 8, 2) := by decide +kernel
theorem dX9_takeLike_59 : decode cX9_takeLike 59 = .ok (.iload_n 1, 1) := by decide +kernel
theorem dX9_takeLike_60 : decode cX9_takeLike 60 = .ok (.imul, 1) := by decide +kernel
theorem dX9_takeLike_61 : decode cX9_takeLike 61 = .ok (.iload_n 2, 1) := by decide +kernel
theorem dX9_takeLike_62 : decode cX9_takeLike 62 = .ok (.iadd, 1) := by decide +kernel
theorem dX9_takeLike_63 : decode cX9_takeLike 63 = .ok (.iconst 1, 1) := by decide +kernel
theorem dX9_takeLike_64 : decode cX9_takeLike 64 = .ok (.iastore, 1) := by decide +kernel
theorem dX9_takeLike_65 : decode cX9_takeLike 65 = .ok (.aload_n 0, 1) := by decide +kernel
theorem dX9_takeLike_66 : decode cX9_takeLike 66 = .ok (.getfield 38, 3) := by decide +kernel
theorem dX9_takeLike_69 : decode cX9_takeLike 69 = .ok (.bipush 64, 2) := by decide +kernel
theorem dX9_takeLike_71 : decode cX9_takeLike 71 = .ok (.bipush 8, 2) := by decide +kernel
theorem dX9_takeLike_73 : decode cX9_takeLike 73 = .ok (.iload_n 1, 1) := by decide +kernel
theorem dX9_takeLike_74 : decode cX9_takeLike 74 = .ok (.imul, 1) := by decide +kernel
theorem dX9_takeLike_75 : decode cX9_takeLike 75 = .ok (.iadd, 1) := by decide +kernel
theorem dX9_takeLike_76 : decode cX9_takeLike 76 = .ok (.iload_n 2, 1) := by decide +kernel
theorem dX9_takeLike_77 : decode cX9_takeLike 77 = .ok (.iadd, 1) := by decide +kernel
theorem dX9_takeLike_78 : decode cX9_takeLike 78 = .ok (.aload_n 0, 1) := by decide +kernel
theorem dX9_takeLike_79 : decode cX9_takeLike 79 = .ok (.iconst 0, 1) := by decide +kernel
theorem dX9_takeLike_80 : decode cX9_takeLike 80 = .ok (.bipush 99, 2) := by decide +kernel
theorem dX9_takeLike_82 : decode cX9_takeLike 82 = .ok (.invokevirtual 111, 3) := by decide +kernel
theorem dX9_takeLike_85 : decode cX9_takeLike 85 = .ok (.iastore, 1) := by decide +kernel
theorem dX9_takeLike_86 : decode cX9_takeLike 86 = .ok (.aload_n 0, 1) := by decide +kernel
theorem dX9_takeLike_87 : decode cX9_takeLike 87 = .ok (.dup, 1) := by decide +kernel
theorem dX9_takeLike_88 : decode cX9_takeLike 88 = .ok (.getfield 122, 3) := by decide +kernel
theorem dX9_takeLike_91 : decode cX9_takeLike 91 = .ok (.iconst 1, 1) := by decide +kernel
theorem dX9_takeLike_92 : decode cX9_takeLike 92 = .ok (.iadd, 1) := by decide +kernel
theorem dX9_takeLike_93 : decode cX9_takeLike 93 = .ok (.putfield 122, 3) := by decide +kernel
theorem dX9_takeLike_96 : decode cX9_takeLike 96 = .ok (.return_, 1) := by decide +kernel
theorem dX9_takeClause_0 : decode cX9_takeClause 0 = .ok (.aload_n 0, 1) := by decide +kernel
theorem dX9_takeClause_1 : decode cX9_takeClause 1 = .ok (.invokevirtual 125, 3) := by decide +kernel
theorem dX9_takeClause_4 : decode cX9_takeClause 4 = .ok (.aload_n 0, 1) := by decide +kernel
theorem dX9_takeClause_5 : decode cX9_takeClause 5 = .ok (.getfield 92, 3) := by decide +kernel
theorem dX9_takeClause_8 : decode cX9_takeClause 8 = .ok (.istore_n 1, 1) := by decide +kernel
theorem dX9_takeClause_9 : decode cX9_takeClause 9 = .ok (.aload_n 0, 1) := by decide +kernel
theorem dX9_takeClause_10 : decode cX9_takeClause 10 = .ok (.bipush 6, 2) := by decide +kernel
theorem dX9_takeClause_12 : decode cX9_takeClause 12 = .ok (.bipush 112, 2) := by decide +kernel
theorem dX9_takeClause_14 : decode cX9_takeClause 14 = .ok (.bipush 101, 2) := by decide +kernel
theorem dX9_takeClause_16 : decode cX9_takeClause 16 = .ok (.bipush 111, 2) := by decide +kernel
theorem dX9_takeClause_18 : decode cX9_takeClause 18 = .ok (.bipush 112, 2) := by decide +kernel
theorem dX9_takeClause_20 : decode cX9_takeClause 20 = .ok (.bipush 108, 2) := by decide +kernel
theorem dX9_takeClause_22 : decode cX9_takeClause 22 = .ok (.bipush 101, 2) := by decide +kernel
theorem dX9_takeClause_24 : decode cX9_takeClause 24 = .ok (.invokevirtual 128, 3) := by decide +kernel
theorem dX9_takeClause_27 : decode cX9_takeClause 27 = .ok (.istore_n 2, 1) := by decide +kernel
theorem dX9_takeClause_28 : decode cX9_takeClause 28 = .ok (.aload_n 0, 1) := by decide +kernel
theorem dX9_takeClause_29 : decode cX9_takeClause 29 = .ok (.iload_n 2, 1) := by decide +kernel
theorem dX9_takeClause_30 : decode cX9_takeClause 30 = .ok (.ifCond .ne 12, 3) := by decide +kernel
theorem dX9_takeClause_33 : decode cX9_takeClause 33 = .ok (.aload_n 0, 1) := by decide +kernel
theorem dX9_takeClause_34 : decode cX9_takeClause 34 = .ok (.getfield 44, 3) := by decide +kernel
theorem dX9_takeClause_37 : decode cX9_takeClause 37 = .ok (.iconst 4, 1) := by decide +kernel
theorem dX9_takeClause_38 : decode cX9_takeClause 38 = .ok (.iaload, 1) := by decide +kernel
theorem dX9_takeClause_39 : decode cX9_takeClause 39 = .ok (.ifCond .le 7, 3) := by decide +kernel
theorem dX9_takeClause_42 : decode cX9_takeClause 42 = .ok (.iconst 1, 1) := by decide +kernel
theorem dX9_takeClause_43 : decode cX9_takeClause 43 = .ok (.goto 4, 3) := by decide +kernel
theorem dX9_takeClause_46 : decode cX9_takeClause 46 = .ok (.iconst 0, 1) := by decide +kernel
theorem dX9_takeClause_47 : decode cX9_takeClause 47 = .ok (.iconst 1, 1) := by decide +kernel
theorem dX9_takeClause_48 : decode cX9_takeClause 48 = .ok (.iload_n 1, 1) := by decide +kernel
theorem dX9_takeClause_49 : decode cX9_takeClause 49 = .ok (.invokevirtual 106, 3) := by decide +kernel
theorem dX9_takeClause_52 : decode cX9_takeClause 52 = .ok (.ifCond .ne 4, 3) := by decide +kernel
theorem dX9_takeClause_55 : decode cX9_takeClause 55 = .ok (.return_, 1) := by decide +kernel
theorem dX9_takeClause_56 : decode cX9_takeClause 56 = .ok (.iload_n 2, 1) := by decide +kernel
theorem dX9_takeClause_57 : decode cX9_takeClause 57 = .ok (.ifCond .eq 42, 3) := by decide +kernel
theorem dX9_takeClause_60 : decode cX9_takeClause 60 = .ok (.aload_n 0, 1) := by decide +kernel
theorem dX9_takeClause_61 : decode cX9_takeClause 61 = .ok (.aload_n 0, 1) := by decide +kernel
theorem dX9_takeClause_62 : decode cX9_takeClause 62 = .ok (.getfield 44, 3) := by decide +kernel
theorem dX9_takeClause_65 : decode cX9_takeClause 65 = .ok (.iconst 4, 1) := by decide +kernel
theorem dX9_takeClause_66 : decode cX9_takeClause 66 = .ok (.iaload, 1) := by decide +kernel
theorem dX9_takeClause_67 : decode cX9_takeClause 67 = .ok (.ifCond .ne 7, 3) := by decide +kernel
theorem dX9_takeClause_70 : decode cX9_takeClause 70 = .ok (.iconst 1, 1) := by decide +kernel
theorem dX9_takeClause_71 : decode cX9_takeClause 71 = .ok (.goto 4, 3) := by decide +kernel
theorem dX9_takeClause_74 : decode cX9_takeClause 74 = .ok (.iconst 0, 1) := by decide +kernel
theorem dX9_takeClause_75 : decode cX9_takeClause 75 = .ok (.iconst 3, 1) := by decide +kernel
theorem dX9_takeClause_76 : decode cX9_takeClause 76 = .ok (.iload_n 1, 1) := by decide +kernel
theorem dX9_takeClause_77 : decode cX9_takeClause 77 = .ok (.invokevirtual 106, 3) := by decide +kernel
theorem dX9_takeClause_80 : decode cX9_takeClause 80 = .ok (.ifCond .eq 231, 3) := by decide +kernel
theorem dX9_takeClause_83 : decode cX9_takeClause 83 = .ok (.aload_n 0, 1) := by decide +kernel
theorem dX9_takeClause_84 : decode cX9_takeClause 84 = .ok (.getfield 44, 3) := by decide +kernel
theorem dX9_takeClause_87 : decode cX9_takeClause 87 = .ok (.iconst 4, 1) := by decide +kernel
theorem dX9_takeClause_88 : decode cX9_takeClause 88 = .ok (.aload_n 0, 1) := by decide +kernel
theorem dX9_takeClause_89 : decode cX9_takeClause 89 = .ok (.iconst 1, 1) := by decide +kernel
theorem dX9_takeClause_90 : decode cX9_takeClause 90 = .ok (.bipush 8, 2) := by decide +kernel
theorem dX9_takeClause_92 : decode cX9_takeClause 92 = .ok (.invokevirtual 111, 3) := by decide +kernel
theorem dX9_takeClause_95 : decode cX9_takeClause 95 = .ok (.iastore, 1) := by decide +kernel
theorem dX9_takeClause_96 : decode cX9_takeClause 96 = .ok (.goto 215, 3) := by decide +kernel
theorem dX9_takeClause_99 : decode cX9_takeClause 99 = .ok (.aload_n 0, 1) := by decide +kernel
theorem dX9_takeClause_100 : decode cX9_takeClause 100 = .ok (.iconst 4, 1) := by decide +kernel
theorem dX9_takeClause_101 : decode cX9_takeClause 101 = .ok (.bipush 99, 2) := by decide +kernel
theorem dX9_takeClause_103 : decode cX9_takeClause 103 = .ok (.bipush 111, 2) := by decide +kernel
theorem dX9_takeClause_105 : decode cX9_takeClause 105 = .ok (.bipush 97, 2) := by decide +kernel
theorem dX9_takeClause_107 : decode cX9_takeClause 107 = .ok (.bipush 116, 2) := by decide +kernel
theorem dX9_takeClause_109 : decode cX9_takeClause 109 = .ok (.iconst 0, 1) := by decide +kernel
theorem dX9_takeClause_110 : decode cX9_takeClause 110 = .ok (.iconst 0, 1) := by decide +kernel
theorem dX9_takeClause_111 : decode cX9_takeClause 111 = .ok (.invokevirtual 128, 3) := by decide +kernel
theorem dX9_takeClause_114 : decode cX9_takeClause 114 = .ok (.ifCond .eq 35, 3) := by decide +kernel
theorem dX9_takeClause_117 : decode cX9_takeClause 117 = .ok (.aload_n 0, 1) := by decide +kernel
theorem dX9_takeClause_118 : decode cX9_takeClause 118 = .ok (.aload_n 0, 1) := by decide +kernel
theorem dX9_takeClause_119 : decode cX9_takeClause 119 = .ok (.getfield 44, 3) := by decide +kernel
theorem dX9_takeClause_122 : decode cX9_takeClause 122 = .ok (.iconst 5, 1) := by decide +kernel
theorem dX9_takeClause_123 : decode cX9_takeClause 123 = .ok (.iaload, 1) := by decide +kernel
theorem dX9_takeClause_124 : decode cX9_takeClause 124 = .ok (.bipush 8, 2) := by decide +kernel
theorem dX9_takeClause_126 : decode cX9_takeClause 126 = .ok (.if_icmp .ge 7, 3) := by decide +kernel
theorem dX9_takeClause_129 : decode cX9_takeClause 129 = .ok (.iconst 1, 1) := by decide +kernel
theorem dX9_takeClause_130 : decode cX9_takeClause 130 = .ok (.goto 4, 3) := by decide +kernel
theorem dX9_takeClause_133 : decode cX9_takeClause 133 = .ok (.iconst 0, 1) := by decide +kernel
theorem dX9_takeClause_134 : decode cX9_takeClause 134 = .ok (.iconst 3, 1) := by decide +kernel
theorem dX9_takeClause_135 : decode cX9_takeClause 135 = .ok (.iload_n 1, 1) := by decide +kernel
theorem dX9_takeClause_136 : decode cX9_takeClause 136 = .ok (.invokevirtual 106, 3) := by decide +kernel
theorem dX9_takeClause_139 : decode cX9_takeClause 139 = .ok (.ifCond .eq 172, 3) := by decide +kernel
theorem dX9_takeClause_142 : decode cX9_takeClause 142 = .ok (.aload_n 0, 1) := by decide +kernel
theorem dX9_takeClause_143 : decode cX9_takeClause 143 = .ok (.invokevirtual 132, 3) := by decide +kernel
theorem dX9_takeClause_146 : decode cX9_takeClause 146 = .ok (.goto 165, 3) := by decide +kernel
theorem dX9_takeClause_149 : decode cX9_takeClause 149 = .ok (.aload_n 0, 1) := by decide +kernel
theorem dX9_takeClause_150 : decode cX9_takeClause 150 = .ok (.iconst 4, 1) := by decide +kernel
theorem dX9_takeClause_151 : decode cX9_takeClause 151 = .ok (.bipush 103, 2) := by decide +kernel
theorem dX9_takeClause_153 : decode cX9_takeClause 153 = .ok (.bipush 111, 2) := by decide +kernel
theorem dX9_takeClause_155 : decode cX9_takeClause 155 = .ok (.bipush 101, 2) := by decide +kernel
theorem dX9_takeClause_157 : decode cX9_takeClause 157 = .ok (.bipush 115, 2) := by decide +kernel
theorem dX9_takeClause_159 : decode cX9_takeClause 159 = .ok (.iconst 0, 1) := by decide +kernel
theorem dX9_takeClause_160 : decode cX9_takeClause 160 = .ok (.iconst 0, 1) := by decide +kernel
theorem dX9_takeClause_161 : decode cX9_takeClause 161 = .ok (.invokevirtual 128, 3) := by decide +kernel
theorem dX9_takeClause_164 : decode cX9_takeClause 164 = .ok (.ifCond .eq 36, 3) := by decide +kernel
theorem dX9_takeClause_167 : decode cX9_takeClause 167 = .ok (.aload_n 0, 1) := by decide +kernel
theorem dX9_takeClause_168 : decode cX9_takeClause 168 = .ok (.aload_n 0, 1) := by decide +kernel
theorem dX9_takeClause_169 : decode cX9_takeClause 169 = .ok (.getfield 44, 3) := by decide +kernel
theorem dX9_takeClause_172 : decode cX9_takeClause 172 = .ok (.bipush 6, 2) := by decide +kernel
theorem dX9_takeClause_174 : decode cX9_takeClause 174 = .ok (.iaload, 1) := by decide +kernel
theorem dX9_takeClause_175 : decode cX9_takeClause 175 = .ok (.bipush 10, 2) := by decide +kernel
theorem dX9_takeClause_177 : decode cX9_takeClause 177 = .ok (.if_icmp .ge 7, 3) := by decide +kernel
theorem dX9_takeClause_180 : decode cX9_takeClause 180 = .ok (.iconst 1, 1) := by decide +kernel
theorem dX9_takeClause_181 : decode cX9_takeClause 181 = .ok (.goto 4, 3) := by decide +kernel
theorem dX9_takeClause_184 : decode cX9_takeClause 184 = .ok (.iconst 0, 1) := by decide +kernel
theorem dX9_takeClause_185 : decode cX9_takeClause 185 = .ok (.iconst 3, 1) := by decide +kernel
theorem dX9_takeClause_186 : decode cX9_takeClause 186 = .ok (.iload_n 1, 1) := by decide +kernel
theorem dX9_takeClause_187 : decode cX9_takeClause 187 = .ok (.invokevirtual 106, 3) := by decide +kernel
theorem dX9_takeClause_190 : decode cX9_takeClause 190 = .ok (.ifCond .eq 121, 3) := by decide +kernel
theorem dX9_takeClause_193 : decode cX9_takeClause 193 = .ok (.aload_n 0, 1) := by decide +kernel
theorem dX9_takeClause_194 : decode cX9_takeClause 194 = .ok (.invokevirtual 135, 3) := by decide +kernel
theorem dX9_takeClause_197 : decode cX9_takeClause 197 = .ok (.goto 114, 3) := by decide +kernel
theorem dX9_takeClause_200 : decode cX9_takeClause 200 = .ok (.aload_n 0, 1) := by decide +kernel
theorem dX9_takeClause_201 : decode cX9_takeClause 201 = .ok (.iconst 5, 1) := by decide +kernel
theorem dX9_takeClause_202 : decode cX9_takeClause 202 = .ok (.bipush 108, 2) := by decide +kernel
theorem dX9_takeClause_204 : decode cX9_takeClause 204 = .ok (.bipush 105, 2) := by decide +kernel
theorem dX9_takeClause_206 : decode cX9_takeClause 206 = .ok (.bipush 107, 2) := by decide +kernel
theorem dX9_takeClause_208 : decode cX9_takeClause 208 = .ok (.bipush 101, 2) := by decide +kernel
theorem dX9_takeClause_210 : decode cX9_takeClause 210 = .ok (.bipush 115, 2) := by decide +kernel
theorem dX9_takeClause_212 : decode cX9_takeClause 212 = .ok (.iconst 0, 1) := by decide +kernel
theorem dX9_takeClause_213 : decode cX9_takeClause 213 = .ok (.invokevirtual 128, 3) := by decide +kernel
theorem dX9_takeClause_216 : decode cX9_takeClause 216 = .ok (.ifCond .eq 33, 3) := by decide +kernel
theorem dX9_takeClause_219 : decode cX9_takeClause 219 = .ok (.aload_n 0, 1) := by decide +kernel
theorem dX9_takeClause_220 : decode cX9_takeClause 220 = .ok (.aload_n 0, 1) := by decide +kernel
theorem dX9_takeClause_221 : decode cX9_takeClause 221 = .ok (.getfield 122, 3) := by decide +kernel
theorem dX9_takeClause_224 : decode cX9_takeClause 224 = .ok (.bipush 30, 2) := by decide +kernel
theorem dX9_takeClause_226 : decode cX9_takeClause 226 = .ok (.if_icmp .ge 7, 3) := by decide +kernel
theorem dX9_takeClause_229 : decode cX9_takeClause 229 = .ok (.iconst 1, 1) := by decide +kernel
theorem dX9_takeClause_230 : decode cX9_takeClause 230 = .ok (.goto 4, 3) := by decide +kernel
theorem dX9_takeClause_233 : decode cX9_takeClause 233 = .ok (.iconst 0, 1) := by decide +kernel
theorem dX9_takeClause_234 : decode cX9_takeClause 234 = .ok (.iconst 3, 1) := by decide +kernel
theorem dX9_takeClause_235 : decode cX9_takeClause 235 = .ok (.iload_n 1, 1) := by decide +kernel
theorem dX9_takeClause_236 : decode cX9_takeClause 236 = .ok (.invokevirtual 106, 3) := by decide +kernel
theorem dX9_takeClause_239 : decode cX9_takeClause 239 = .ok (.ifCond .eq 72, 3) := by decide +kernel
theorem dX9_takeClause_242 : decode cX9_takeClause 242 = .ok (.aload_n 0, 1) := by decide +kernel
theorem dX9_takeClause_243 : decode cX9_takeClause 243 = .ok (.invokevirtual 138, 3) := by decide +kernel
theorem dX9_takeClause_246 : decode cX9_takeClause 246 = .ok (.goto 65, 3) := by decide +kernel
theorem dX9_takeClause_249 : decode cX9_takeClause 249 = .ok (.aload_n 0, 1) := by decide +kernel
theorem dX9_takeClause_250 : decode cX9_takeClause 250 = .ok (.aload_n 0, 1) := by decide +kernel
theorem dX9_takeClause_251 : decode cX9_takeClause 251 = .ok (.iconst 5, 1) := by decide +kernel
theorem dX9_takeClause_252 : decode cX9_takeClause 252 = .ok (.bipush 102, 2) := by decide +kernel
theorem dX9_takeClause_254 : decode cX9_takeClause 254 = .ok (.bipush 114, 2) := by decide +kernel
theorem dX9_takeClause_256 : decode cX9_takeClause 256 = .ok (.bipush 111, 2) := by decide +kernel
theorem dX9_takeClause_258 : decode cX9_takeClause 258 = .ok (.bipush 115, 2) := by decide +kernel
theorem dX9_takeClause_260 : decode cX9_takeClause 260 = .ok (.bipush 116, 2) := by decide +kernel
theorem dX9_takeClause_262 : decode cX9_takeClause 262 = .ok (.iconst 0, 1) := by decide +kernel
theorem dX9_takeClause_263 : decode cX9_takeClause 263 = .ok (.invokevirtual 128, 3) := by decide +kernel
theorem dX9_takeClause_266 : decode cX9_takeClause 266 = .ok (.iconst 1, 1) := by decide +kernel
theorem dX9_takeClause_267 : decode cX9_takeClause 267 = .ok (.iload_n 1, 1) := by decide +kernel
theorem dX9_takeClause_268 : decode cX9_takeClause 268 = .ok (.invokevirtual 106, 3) := by decide +kernel
theorem dX9_takeClause_271 : decode cX9_takeClause 271 = .ok (.ifCond .eq 40, 3) := by decide +kernel
theorem dX9_takeClause_274 : decode cX9_takeClause 274 = .ok (.aload_n 0, 1) := by decide +kernel
theorem dX9_takeClause_275 : decode cX9_takeClause 275 = .ok (.aload_n 0, 1) := by decide +kernel
theorem dX9_takeClause_276 : decode cX9_takeClause 276 = .ok (.getfield 141, 3) := by decide +kernel
theorem dX9_takeClause_279 : decode cX9_takeClause 279 = .ok (.ifCond .ne 7, 3) := by decide +kernel
theorem dX9_takeClause_282 : decode cX9_takeClause 282 = .ok (.iconst 1, 1) := by decide +kernel
theorem dX9_takeClause_283 : decode cX9_takeClause 283 = .ok (.goto 4, 3) := by decide +kernel
theorem dX9_takeClause_286 : decode cX9_takeClause 286 = .ok (.iconst 0, 1) := by decide +kernel
theorem dX9_takeClause_287 : decode cX9_takeClause 287 = .ok (.iconst 3, 1) := by decide +kernel
theorem dX9_takeClause_288 : decode cX9_takeClause 288 = .ok (.iload_n 1, 1) := by decide +kernel
theorem dX9_takeClause_289 : decode cX9_takeClause 289 = .ok (.invokevirtual 106, 3) := by decide +kernel
theorem dX9_takeClause_292 : decode cX9_takeClause 292 = .ok (.ifCond .eq 19, 3) := by decide +kernel
theorem dX9_takeClause_295 : decode cX9_takeClause 295 = .ok (.aload_n 0, 1) := by decide +kernel
theorem dX9_takeClause_296 : decode cX9_takeClause 296 = .ok (.iconst 1, 1) := by decide +kernel
theorem dX9_takeClause_297 : decode cX9_takeClause 297 = .ok (.putfield 141, 3) := by decide +kernel
theorem dX9_takeClause_300 : decode cX9_takeClause 300 = .ok (.aload_n 0, 1) := by decide +kernel
theorem dX9_takeClause_301 : decode cX9_takeClause 301 = .ok (.aload_n 0, 1) := by decide +kernel
theorem dX9_takeClause_302 : decode cX9_takeClause 302 = .ok (.iconst 0, 1) := by decide +kernel
theorem dX9_takeClause_303 : decode cX9_takeClause 303 = .ok (.bipush 99, 2) := by decide +kernel
theorem dX9_takeClause_305 : decode cX9_takeClause 305 = .ok (.invokevirtual 111, 3) := by decide +kernel
theorem dX9_takeClause_308 : decode cX9_takeClause 308 = .ok (.putfield 145, 3) := by decide +kernel
theorem dX9_takeClause_311 : decode cX9_takeClause 311 = .ok (.return_, 1) := by decide +kernel
theorem dX9_begin_0 : decode cX9_begin 0 = .ok (.aload_n 0, 1) := by decide +kernel
theorem dX9_begin_1 : decode cX9_begin 1 = .ok (.iconst 0, 1) := by decide +kernel
theorem dX9_begin_2 : decode cX9_begin 2 = .ok (.putfield 82, 3) := by decide +kernel
theorem dX9_begin_5 : decode cX9_begin 5 = .ok (.aload_n 0, 1) := by decide +kernel
theorem dX9_begin_6 : decode cX9_begin 6 = .ok (.iconst 0, 1) := by decide +kernel
theorem dX9_begin_7 : decode cX9_begin 7 = .ok (.putfield 85, 3) := by decide +kernel
theorem dX9_begin_10 : decode cX9_begin 10 = .ok (.aload_n 0, 1) := by decide +kernel
theorem dX9_begin_11 : decode cX9_begin 11 = .ok (.iconst (-1), 1) := by decide +kernel
theorem dX9_begin_12 : decode cX9_begin 12 = .ok (.putfield 50, 3) := by decide +kernel
theorem dX9_begin_15 : decode cX9_begin 15 = .ok (.aload_n 0, 1) := by decide +kernel
theorem dX9_begin_16 : decode cX9_begin 16 = .ok (.getfield 44, 3) := by decide +kernel
theorem dX9_begin_19 : decode cX9_begin 19 = .ok (.iconst 4, 1) := by decide +kernel
theorem dX9_begin_20 : decode cX9_begin 20 = .ok (.iconst 0, 1) := by decide +kernel
theorem dX9_begin_21 : decode cX9_begin 21 = .ok (.iastore, 1) := by decide +kernel
theorem dX9_begin_22 : decode cX9_begin 22 = .ok (.aload_n 0, 1) := by decide +kernel
theorem dX9_begin_23 : decode cX9_begin 23 = .ok (.getfield 44, 3) := by decide +kernel
theorem dX9_begin_26 : decode cX9_begin 26 = .ok (.iconst 5, 1) := by decide +kernel
theorem dX9_begin_27 : decode cX9_begin 27 = .ok (.iconst 0, 1) := by decide +kernel
theorem dX9_begin_28 : decode cX9_begin 28 = .ok (.iastore, 1) := by decide +kernel
theorem dX9_begin_29 : decode cX9_begin 29 = .ok (.aload_n 0, 1) := by decide +kernel
theorem dX9_begin_30 : decode cX9_begin 30 = .ok (.getfield 44, 3) := by decide +kernel
theorem dX9_begin_33 : decode cX9_begin 33 = .ok (.bipush 6, 2) := by decide +kernel
theorem dX9_begin_35 : decode cX9_begin 35 = .ok (.iconst 0, 1) := by decide +kernel
theorem dX9_begin_36 : decode cX9_begin 36 = .ok (.iastore, 1) := by decide +kernel
theorem dX9_begin_37 : decode cX9_begin 37 = .ok (.aload_n 0, 1) := by decide +kernel
theorem dX9_begin_38 : decode cX9_begin 38 = .ok (.iconst 0, 1) := by decide +kernel
theorem dX9_begin_39 : decode cX9_begin 39 = .ok (.putfield 122, 3) := by decide +kernel
theorem dX9_begin_42 : decode cX9_begin 42 = .ok (.aload_n 0, 1) := by decide +kernel
theorem dX9_begin_43 : decode cX9_begin 43 = .ok (.iconst 0, 1) := by decide +kernel
theorem dX9_begin_44 : decode cX9_begin 44 = .ok (.putfield 141, 3) := by decide +kernel
theorem dX9_begin_47 : decode cX9_begin 47 = .ok (.aload_n 0, 1) := by decide +kernel
theorem dX9_begin_48 : decode cX9_begin 48 = .ok (.bipush 20, 2) := by decide +kernel
theorem dX9_begin_50 : decode cX9_begin 50 = .ok (.putfield 145, 3) := by decide +kernel
theorem dX9_begin_53 : decode cX9_begin 53 = .ok (.iconst 0, 1) := by decide +kernel
theorem dX9_begin_54 : decode cX9_begin 54 = .ok (.istore_n 1, 1) := by decide +kernel
theorem dX9_begin_55 : decode cX9_begin 55 = .ok (.iload_n 1, 1) := by decide +kernel
theorem dX9_begin_56 : decode cX9_begin 56 = .ok (.bipush 64, 2) := by decide +kernel
theorem dX9_begin_58 : decode cX9_begin 58 = .ok (.if_icmp .ge 26, 3) := by decide +kernel
theorem dX9_begin_61 : decode cX9_begin 61 = .ok (.aload_n 0, 1) := by decide +kernel
theorem dX9_begin_62 : decode cX9_begin 62 = .ok (.getfield 41, 3) := by decide +kernel
theorem dX9_begin_65 : decode cX9_begin 65 = .ok (.iload_n 1, 1) := by decide +kernel
theorem dX9_begin_66 : decode cX9_begin 66 = .ok (.iconst 0, 1) := by decide +kernel
theorem dX9_begin_67 : decode cX9_begin 67 = .ok (.iastore, 1) := by decide +kernel
theorem dX9_begin_68 : decode cX9_begin 68 = .ok (.aload_n 0, 1) := by decide +kernel
theorem dX9_begin_69 : decode cX9_begin 69 = .ok (.getfield 38, 3) := by decide +kernel
theorem dX9_begin_72 : decode cX9_begin 72 = .ok (.bipush 64, 2) := by decide +kernel
theorem dX9_begin_74 : decode cX9_begin 74 = .ok (.iload_n 1, 1) := by decide +kernel
theorem dX9_begin_75 : decode cX9_begin 75 = .ok (.iadd, 1) := by decide +kernel
theorem dX9_begin_76 : decode cX9_begin 76 = .ok (.iconst 0, 1) := by decide +kernel
theorem dX9_begin_77 : decode cX9_begin 77 = .ok (.iastore, 1) := by decide +kernel
theorem dX9_begin_78 : decode cX9_begin 78 = .ok (.iinc 1 1, 3) := by decide +kernel
theorem dX9_begin_81 : decode cX9_begin 81 = .ok (.goto (-26), 3) := by decide +kernel
theorem dX9_begin_84 : decode cX9_begin 84 = .ok (.return_, 1) := by decide +kernel
theorem dX9_town_0 : decode cX9_town 0 = .ok (.aload_n 0, 1) := by decide +kernel
theorem dX9_town_1 : decode cX9_town 1 = .ok (.invokevirtual 148, 3) := by decide +kernel
theorem dX9_town_4 : decode cX9_town 4 = .ok (.aload_n 0, 1) := by decide +kernel
theorem dX9_town_5 : decode cX9_town 5 = .ok (.getfield 85, 3) := by decide +kernel
theorem dX9_town_8 : decode cX9_town 8 = .ok (.ifCond .ne 60, 3) := by decide +kernel
theorem dX9_town_11 : decode cX9_town 11 = .ok (.aload_n 0, 1) := by decide +kernel
theorem dX9_town_12 : decode cX9_town 12 = .ok (.invokevirtual 88, 3) := by decide +kernel
theorem dX9_town_15 : decode cX9_town 15 = .ok (.ifCond .lt 53, 3) := by decide +kernel
theorem dX9_town_18 : decode cX9_town 18 = .ok (.aload_n 0, 1) := by decide +kernel
theorem dX9_town_19 : decode cX9_town 19 = .ok (.invokevirtual 151, 3) := by decide +kernel
theorem dX9_town_22 : decode cX9_town 22 = .ok (.aload_n 0, 1) := by decide +kernel
theorem dX9_town_23 : decode cX9_town 23 = .ok (.getfield 85, 3) := by decide +kernel
theorem dX9_town_26 : decode cX9_town 26 = .ok (.ifCond .ne (-22), 3) := by decide +kernel
theorem dX9_town_29 : decode cX9_town 29 = .ok (.aload_n 0, 1) := by decide +kernel
theorem dX9_town_30 : decode cX9_town 30 = .ok (.aload_n 0, 1) := by decide +kernel
theorem dX9_town_31 : decode cX9_town 31 = .ok (.invokevirtual 88, 3) := by decide +kernel
theorem dX9_town_34 : decode cX9_town 34 = .ok (.bipush 59, 2) := by decide +kernel
theorem dX9_town_36 : decode cX9_town 36 = .ok (.if_icmp .ne 7, 3) := by decide +kernel
theorem dX9_town_39 : decode cX9_town 39 = .ok (.iconst 1, 1) := by decide +kernel
theorem dX9_town_40 : decode cX9_town 40 = .ok (.goto 4, 3) := by decide +kernel
theorem dX9_town_43 : decode cX9_town 43 = .ok (.iconst 0, 1) := by decide +kernel
theorem dX9_town_44 : decode cX9_town 44 = .ok (.iconst 1, 1) := by decide +kernel
theorem dX9_town_45 : decode cX9_town 45 = .ok (.aload_n 0, 1) := by decide +kernel
theorem dX9_town_46 : decode cX9_town 46 = .ok (.getfield 82, 3) := by decide +kernel
theorem dX9_town_49 : decode cX9_town 49 = .ok (.invokevirtual 106, 3) := by decide +kernel
theorem dX9_town_52 : decode cX9_town 52 = .ok (.ifCond .eq (-48), 3) := by decide +kernel
theorem dX9_town_55 : decode cX9_town 55 = .ok (.aload_n 0, 1) := by decide +kernel
theorem dX9_town_56 : decode cX9_town 56 = .ok (.dup, 1) := by decide +kernel
theorem dX9_town_57 : decode cX9_town 57 = .ok (.getfield 82, 3) := by decide +kernel
theorem dX9_town_60 : decode cX9_town 60 = .ok (.iconst 1, 1) := by decide +kernel
theorem dX9_town_61 : decode cX9_town 61 = .ok (.iadd, 1) := by decide +kernel
theorem dX9_town_62 : decode cX9_town 62 = .ok (.putfield 82, 3) := by decide +kernel
theorem dX9_town_65 : decode cX9_town 65 = .ok (.goto (-61), 3) := by decide +kernel
theorem dX9_town_68 : decode cX9_town 68 = .ok (.aload_n 0, 1) := by decide +kernel
theorem dX9_town_69 : decode cX9_town 69 = .ok (.iconst 0, 1) := by decide +kernel
theorem dX9_town_70 : decode cX9_town 70 = .ok (.putfield 76, 3) := by decide +kernel
theorem dX9_town_73 : decode cX9_town 73 = .ok (.aload_n 0, 1) := by decide +kernel
theorem dX9_town_74 : decode cX9_town 74 = .ok (.getfield 85, 3) := by decide +kernel
theorem dX9_town_77 : decode cX9_town 77 = .ok (.ifCond .le 11, 3) := by decide +kernel
theorem dX9_town_80 : decode cX9_town 80 = .ok (.bipush (-10), 2) := by decide +kernel
theorem dX9_town_82 : decode cX9_town 82 = .ok (.aload_n 0, 1) := by decide +kernel
theorem dX9_town_83 : decode cX9_town 83 = .ok (.getfield 85, 3) := by decide +kernel
theorem dX9_town_86 : decode cX9_town 86 = .ok (.isub, 1) := by decide +kernel
theorem dX9_town_87 : decode cX9_town 87 = .ok (.ireturn, 1) := by decide +kernel
theorem dX9_town_88 : decode cX9_town 88 = .ok (.aload_n 0, 1) := by decide +kernel
theorem dX9_town_89 : decode cX9_town 89 = .ok (.getfield 44, 3) := by decide +kernel
theorem dX9_town_92 : decode cX9_town 92 = .ok (.iconst 0, 1) := by decide +kernel
theorem dX9_town_93 : decode cX9_town 93 = .ok (.aload_n 0, 1) := by decide +kernel
theorem dX9_town_94 : decode cX9_town 94 = .ok (.getfield 44, 3) := by decide +kernel
theorem dX9_town_97 : decode cX9_town 97 = .ok (.iconst 4, 1) := by decide +kernel
theorem dX9_town_98 : decode cX9_town 98 = .ok (.iaload, 1) := by decide +kernel
theorem dX9_town_99 : decode cX9_town 99 = .ok (.iastore, 1) := by decide +kernel
theorem dX9_town_100 : decode cX9_town 100 = .ok (.aload_n 0, 1) := by decide +kernel
theorem dX9_town_101 : decode cX9_town 101 = .ok (.getfield 44, 3) := by decide +kernel
theorem dX9_town_104 : decode cX9_town 104 = .ok (.iconst 1, 1) := by decide +kernel
theorem dX9_town_105 : decode cX9_town 105 = .ok (.aload_n 0, 1) := by decide +kernel
theorem dX9_town_106 : decode cX9_town 106 = .ok (.getfield 44, 3) := by decide +kernel
theorem dX9_town_109 : decode cX9_town 109 = .ok (.iconst 5, 1) := by decide +kernel
theorem dX9_town_110 : decode cX9_town 110 = .ok (.iaload, 1) := by decide +kernel
theorem dX9_town_111 : decode cX9_town 111 = .ok (.iastore, 1) := by decide +kernel
theorem dX9_town_112 : decode cX9_town 112 = .ok (.aload_n 0, 1) := by decide +kernel
theorem dX9_town_113 : decode cX9_town 113 = .ok (.getfield 44, 3) := by decide +kernel
theorem dX9_town_116 : decode cX9_town 116 = .ok (.iconst 2, 1) := by decide +kernel
theorem dX9_town_117 : decode cX9_town 117 = .ok (.aload_n 0, 1) := by decide +kernel
theorem dX9_town_118 : decode cX9_town 118 = .ok (.getfield 44, 3) := by decide +kernel
theorem dX9_town_121 : decode cX9_town 121 = .ok (.bipush 6, 2) := by decide +kernel
theorem dX9_town_123 : decode cX9_town 123 = .ok (.iaload, 1) := by decide +kernel
theorem dX9_town_124 : decode cX9_town 124 = .ok (.iastore, 1) := by decide +kernel
theorem dX9_town_125 : decode cX9_town 125 = .ok (.iconst 0, 1) := by decide +kernel
theorem dX9_town_126 : decode cX9_town 126 = .ok (.istore_n 1, 1) := by decide +kernel
theorem dX9_town_127 : decode cX9_town 127 = .ok (.iload_n 1, 1) := by decide +kernel
theorem dX9_town_128 : decode cX9_town 128 = .ok (.bipush 8, 2) := by decide +kernel
theorem dX9_town_130 : decode cX9_town 130 = .ok (.if_icmp .ge 81, 3) := by decide +kernel
theorem dX9_town_133 : decode cX9_town 133 = .ok (.aload_n 0, 1) := by decide +kernel
theorem dX9_town_134 : decode cX9_town 134 = .ok (.getfield 17, 3) := by decide +kernel
theorem dX9_town_137 : decode cX9_town 137 = .ok (.iload_n 1, 1) := by decide +kernel
theorem dX9_town_138 : decode cX9_town 138 = .ok (.aload_n 0, 1) := by decide +kernel
theorem dX9_town_139 : decode cX9_town 139 = .ok (.getfield 17, 3) := by decide +kernel
theorem dX9_town_142 : decode cX9_town 142 = .ok (.bipush 8, 2) := by decide +kernel
theorem dX9_town_144 : decode cX9_town 144 = .ok (.iload_n 1, 1) := by decide +kernel
theorem dX9_town_145 : decode cX9_town 145 = .ok (.iadd, 1) := by decide +kernel
theorem dX9_town_146 : decode cX9_town 146 = .ok (.iaload, 1) := by decide +kernel
theorem dX9_town_147 : decode cX9_town 147 = .ok (.iastore, 1) := by decide +kernel
theorem dX9_town_148 : decode cX9_town 148 = .ok (.aload_n 0, 1) := by decide +kernel
theorem dX9_town_149 : decode cX9_town 149 = .ok (.getfield 20, 3) := by decide +kernel
theorem dX9_town_152 : decode cX9_town 152 = .ok (.iload_n 1, 1) := by decide +kernel
theorem dX9_town_153 : decode cX9_town 153 = .ok (.aload_n 0, 1) := by decide +kernel
theorem dX9_town_154 : decode cX9_town 154 = .ok (.getfield 20, 3) := by decide +kernel
theorem dX9_town_157 : decode cX9_town 157 = .ok (.bipush 8, 2) := by decide +kernel
theorem dX9_town_159 : decode cX9_town 159 = .ok (.iload_n 1, 1) := by decide +kernel
theorem dX9_town_160 : decode cX9_town 160 = .ok (.iadd, 1) := by decide +kernel
theorem dX9_town_161 : decode cX9_town 161 = .ok (.iaload, 1) := by decide +kernel
theorem dX9_town_162 : decode cX9_town 162 = .ok (.iastore, 1) := by decide +kernel
theorem dX9_town_163 : decode cX9_town 163 = .ok (.aload_n 0, 1) := by decide +kernel
theorem dX9_town_164 : decode cX9_town 164 = .ok (.getfield 23, 3) := by decide +kernel
theorem dX9_town_167 : decode cX9_town 167 = .ok (.iload_n 1, 1) := by decide +kernel
theorem dX9_town_168 : decode cX9_town 168 = .ok (.aload_n 0, 1) := by decide +kernel
theorem dX9_town_169 : decode cX9_town 169 = .ok (.getfield 23, 3) := by decide +kernel
theorem dX9_town_172 : decode cX9_town 172 = .ok (.bipush 8, 2) := by decide +kernel
theorem dX9_town_174 : decode cX9_town 174 = .ok (.iload_n 1, 1) := by decide +kernel
theorem dX9_town_175 : decode cX9_town 175 = .ok (.iadd, 1) := by decide +kernel
theorem dX9_town_176 : decode cX9_town 176 = .ok (.iaload, 1) := by decide +kernel
theorem dX9_town_177 : decode cX9_town 177 = .ok (.iastore, 1) := by decide +kernel
theorem dX9_town_178 : decode cX9_town 178 = .ok (.aload_n 0, 1) := by decide +kernel
theorem dX9_town_179 : decode cX9_town 179 = .ok (.getfield 7, 3) := by decide +kernel
theorem dX9_town_182 : decode cX9_town 182 = .ok (.iload_n 1, 1) := by decide +kernel
theorem dX9_town_183 : decode cX9_town 183 = .ok (.aload_n 0, 1) := by decide +kernel
theorem dX9_town_184 : decode cX9_town 184 = .ok (.getfield 17, 3) := by decide +kernel
theorem dX9_town_187 : decode cX9_town 187 = .ok (.iload_n 1, 1) := by decide +kernel
theorem dX9_town_188 : decode cX9_town 188 = .ok (.iaload, 1) := by decide +kernel
theorem dX9_town_189 : decode cX9_town 189 = .ok (.iastore, 1) := by decide +kernel
theorem dX9_town_190 : decode cX9_town 190 = .ok (.aload_n 0, 1) := by decide +kernel
theorem dX9_town_191 : decode cX9_town 191 = .ok (.getfield 7, 3) := by decide +kernel
theorem dX9_town_194 : decode cX9_town 194 = .ok (.bipush 8, 2) := by decide +kernel
theorem dX9_town_196 : decode cX9_town 196 = .ok (.iload_n 1, 1) := by decide +kernel
theorem dX9_town_197 : decode cX9_town 197 = .ok (.iadd, 1) := by decide +kernel
theorem dX9_town_198 : decode cX9_town 198 = .ok (.aload_n 0, 1) := by decide +kernel
theorem dX9_town_199 : decode cX9_town 199 = .ok (.getfield 20, 3) := by decide +kernel
theorem dX9_town_202 : decode cX9_town 202 = .ok (.iload_n 1, 1) := by decide +kernel
theorem dX9_town_203 : decode cX9_town 203 = .ok (.iaload, 1) := by decide +kernel
theorem dX9_town_204 : decode cX9_town 204 = .ok (.iastore, 1) := by decide +kernel
theorem dX9_town_205 : decode cX9_town 205 = .ok (.iinc 1 1, 3) := by decide +kernel
theorem dX9_town_208 : decode cX9_town 208 = .ok (.goto (-81), 3) := by decide +kernel
theorem dX9_town_211 : decode cX9_town 211 = .ok (.iconst 0, 1) := by decide +kernel
theorem dX9_town_212 : decode cX9_town 212 = .ok (.istore_n 1, 1) := by decide +kernel
theorem dX9_town_213 : decode cX9_town 213 = .ok (.iload_n 1, 1) := by decide +kernel
theorem dX9_town_214 : decode cX9_town 214 = .ok (.bipush 10, 2) := by decide +kernel
theorem dX9_town_216 : decode cX9_town 216 = .ok (.if_icmp .ge 69, 3) := by decide +kernel
theorem dX9_town_219 : decode cX9_town 219 = .ok (.aload_n 0, 1) := by decide +kernel
theorem dX9_town_220 : decode cX9_town 220 = .ok (.getfield 26, 3) := by decide +kernel
theorem dX9_town_223 : decode cX9_town 223 = .ok (.iload_n 1, 1) := by decide +kernel
theorem dX9_town_224 : decode cX9_town 224 = .ok (.aload_n 0, 1) := by decide +kernel
theorem dX9_town_225 : decode cX9_town 225 = .ok (.getfield 26, 3) := by decide +kernel
theorem dX9_town_228 : decode cX9_town 228 = .ok (.bipush 10, 2) := by decide +kernel
theorem dX9_town_230 : decode cX9_town 230 = .ok (.iload_n 1, 1) := by decide +kernel
theorem dX9_town_231 : decode cX9_town 231 = .ok (.iadd, 1) := by decide +kernel
theorem dX9_town_232 : decode cX9_town 232 = .ok (.iaload, 1) := by decide +kernel
theorem dX9_town_233 : decode cX9_town 233 = .ok (.iastore, 1) := by decide +kernel
theorem dX9_town_234 : decode cX9_town 234 = .ok (.aload_n 0, 1) := by decide +kernel
theorem dX9_town_235 : decode cX9_town 235 = .ok (.getfield 29, 3) := by decide +kernel
theorem dX9_town_238 : decode cX9_town 238 = .ok (.iload_n 1, 1) := by decide +kernel
theorem dX9_town_239 : decode cX9_town 239 = .ok (.aload_n 0, 1) := by decide +kernel
theorem dX9_town_240 : decode cX9_town 240 = .ok (.getfield 29, 3) := by decide +kernel
theorem dX9_town_243 : decode cX9_town 243 = .ok (.bipush 10, 2) := by decide +kernel
theorem dX9_town_245 : decode cX9_town 245 = .ok (.iload_n 1, 1) := by decide +kernel
theorem dX9_town_246 : decode cX9_town 246 = .ok (.iadd, 1) := by decide +kernel
theorem dX9_town_247 : decode cX9_town 247 = .ok (.iaload, 1) := by decide +kernel
theorem dX9_town_248 : decode cX9_town 248 = .ok (.iastore, 1) := by decide +kernel
theorem dX9_town_249 : decode cX9_town 249 = .ok (.aload_n 0, 1) := by decide +kernel
theorem dX9_town_250 : decode cX9_town 250 = .ok (.getfield 32, 3) := by decide +kernel
theorem dX9_town_253 : decode cX9_town 253 = .ok (.iload_n 1, 1) := by decide +kernel
theorem dX9_town_254 : decode cX9_town 254 = .ok (.aload_n 0, 1) := by decide +kernel
theorem dX9_town_255 : decode cX9_town 255 = .ok (.getfield 32, 3) := by decide +kernel
theorem dX9_town_258 : decode cX9_town 258 = .ok (.bipush 10, 2) := by decide +kernel
theorem dX9_town_260 : decode cX9_town 260 = .ok (.iload_n 1, 1) := by decide +kernel
theorem dX9_town_261 : decode cX9_town 261 = .ok (.iadd, 1) := by decide +kernel
theorem dX9_town_262 : decode cX9_town 262 = .ok (.iaload, 1) := by decide +kernel
theorem dX9_town_263 : decode cX9_town 263 = .ok (.iastore, 1) := by decide +kernel
theorem dX9_town_264 : decode cX9_town 264 = .ok (.aload_n 0, 1) := by decide +kernel
theorem dX9_town_265 : decode cX9_town 265 = .ok (.getfield 35, 3) := by decide +kernel
theorem dX9_town_268 : decode cX9_town 268 = .ok (.iload_n 1, 1) := by decide +kernel
theorem dX9_town_269 : decode cX9_town 269 = .ok (.aload_n 0, 1) := by decide +kernel
theorem dX9_town_270 : decode cX9_town 270 = .ok (.getfield 35, 3) := by decide +kernel
theorem dX9_town_273 : decode cX9_town 273 = .ok (.bipush 10, 2) := by decide +kernel
theorem dX9_town_275 : decode cX9_town 275 = .ok (.iload_n 1, 1) := by decide +kernel
theorem dX9_town_276 : decode cX9_town 276 = .ok (.iadd, 1) := by decide +kernel
theorem dX9_town_277 : decode cX9_town 277 = .ok (.iaload, 1) := by decide +kernel
theorem dX9_town_278 : decode cX9_town 278 = .ok (.iastore, 1) := by decide +kernel
theorem dX9_town_279 : decode cX9_town 279 = .ok (.iinc 1 1, 3) := by decide +kernel
theorem dX9_town_282 : decode cX9_town 282 = .ok (.goto (-69), 3) := by decide +kernel
theorem dX9_town_285 : decode cX9_town 285 = .ok (.iconst 0, 1) := by decide +kernel
theorem dX9_town_286 : decode cX9_town 286 = .ok (.istore_n 1, 1) := by decide +kernel
theorem dX9_town_287 : decode cX9_town 287 = .ok (.iload_n 1, 1) := by decide +kernel
theorem dX9_town_288 : decode cX9_town 288 = .ok (.bipush 64, 2) := by decide +kernel
theorem dX9_town_290 : decode cX9_town 290 = .ok (.if_icmp .ge 24, 3) := by decide +kernel
theorem dX9_town_293 : decode cX9_town 293 = .ok (.aload_n 0, 1) := by decide +kernel
theorem dX9_town_294 : decode cX9_town 294 = .ok (.getfield 38, 3) := by decide +kernel
theorem dX9_town_297 : decode cX9_town 297 = .ok (.iload_n 1, 1) := by decide +kernel
theorem dX9_town_298 : decode cX9_town 298 = .ok (.aload_n 0, 1) := by decide +kernel
theorem dX9_town_299 : decode cX9_town 299 = .ok (.getfield 38, 3) := by decide +kernel
theorem dX9_town_302 : decode cX9_town 302 = .ok (.bipush 64, 2) := by decide +kernel
theorem dX9_town_304 : decode cX9_town 304 = .ok (.iload_n 1, 1) := by decide +kernel
theorem dX9_town_305 : decode cX9_town 305 = .ok (.iadd, 1) := by decide +kernel
theorem dX9_town_306 : decode cX9_town 306 = .ok (.iaload, 1) := by decide +kernel
theorem dX9_town_307 : decode cX9_town 307 = .ok (.iastore, 1) := by decide +kernel
theorem dX9_town_308 : decode cX9_town 308 = .ok (.iinc 1 1, 3) := by decide +kernel
theorem dX9_town_311 : decode cX9_town 311 = .ok (.goto (-24), 3) := by decide +kernel
theorem dX9_town_314 : decode cX9_town 314 = .ok (.aload_n 0, 1) := by decide +kernel
theorem dX9_town_315 : decode cX9_town 315 = .ok (.getfield 7, 3) := by decide +kernel
theorem dX9_town_318 : decode cX9_town 318 = .ok (.bipush 16, 2) := by decide +kernel
theorem dX9_town_320 : decode cX9_town 320 = .ok (.iconst 0, 1) := by decide +kernel
theorem dX9_town_321 : decode cX9_town 321 = .ok (.iastore, 1) := by decide +kernel
theorem dX9_town_322 : decode cX9_town 322 = .ok (.aload_n 0, 1) := by decide +kernel
theorem dX9_town_323 : decode cX9_town 323 = .ok (.getfield 7, 3) := by decide +kernel
theorem dX9_town_326 : decode cX9_town 326 = .ok (.bipush 17, 2) := by decide +kernel
theorem dX9_town_328 : decode cX9_town 328 = .ok (.aload_n 0, 1) := by decide +kernel
theorem dX9_town_329 : decode cX9_town 329 = .ok (.getfield 145, 3) := by decide +kernel
theorem dX9_town_332 : decode cX9_town 332 = .ok (.iastore, 1) := by decide +kernel
theorem dX9_town_333 : decode cX9_town 333 = .ok (.aload_n 0, 1) := by decide +kernel
theorem dX9_town_334 : decode cX9_town 334 = .ok (.iconst 0, 1) := by decide +kernel
theorem dX9_town_335 : decode cX9_town 335 = .ok (.putfield 154, 3) := by decide +kernel
theorem dX9_town_338 : decode cX9_town 338 = .ok (.aload_n 0, 1) := by decide +kernel
theorem dX9_town_339 : decode cX9_town 339 = .ok (.iconst 0, 1) := by decide +kernel
theorem dX9_town_340 : decode cX9_town 340 = .ok (.putfield 157, 3) := by decide +kernel
theorem dX9_town_343 : decode cX9_town 343 = .ok (.aload_n 0, 1) := by decide +kernel
theorem dX9_town_344 : decode cX9_town 344 = .ok (.getfield 13, 3) := by decide +kernel
theorem dX9_town_347 : decode cX9_town 347 = .ok (.iconst 0, 1) := by decide +kernel
theorem dX9_town_348 : decode cX9_town 348 = .ok (.iconst 0, 1) := by decide +kernel
theorem dX9_town_349 : decode cX9_town 349 = .ok (.bastore, 1) := by decide +kernel
theorem dX9_town_350 : decode cX9_town 350 = .ok (.aload_n 0, 1) := by decide +kernel
theorem dX9_town_351 : decode cX9_town 351 = .ok (.getfield 13, 3) := by decide +kernel
theorem dX9_town_354 : decode cX9_town 354 = .ok (.iconst 1, 1) := by decide +kernel
theorem dX9_town_355 : decode cX9_town 355 = .ok (.iconst 0, 1) := by decide +kernel
theorem dX9_town_356 : decode cX9_town 356 = .ok (.bastore, 1) := by decide +kernel
theorem dX9_town_357 : decode cX9_town 357 = .ok (.aload_n 0, 1) := by decide +kernel
theorem dX9_town_358 : decode cX9_town 358 = .ok (.getfield 44, 3) := by decide +kernel
theorem dX9_town_361 : decode cX9_town 361 = .ok (.iconst 1, 1) := by decide +kernel
theorem dX9_town_362 : decode cX9_town 362 = .ok (.iaload, 1) := by decide +kernel
theorem dX9_town_363 : decode cX9_town 363 = .ok (.ireturn, 1) := by decide +kernel
theorem dX9_fault_0 : decode cX9_fault 0 = .ok (.aload_n 0, 1) := by decide +kernel
theorem dX9_fault_1 : decode cX9_fault 1 = .ok (.getfield 50, 3) := by decide +kernel
theorem dX9_fault_4 : decode cX9_fault 4 = .ok (.ireturn, 1) := by decide +kernel
theorem dX9_isPerson_0 : decode cX9_isPerson 0 = .ok (.iload_n 1, 1) := by decide +kernel
theorem dX9_isPerson_1 : decode cX9_isPerson 1 = .ok (.i2l, 1) := by decide +kernel
theorem dX9_isPerson_2 : decode cX9_isPerson 2 = .ok (.lconst 0, 1) := by decide +kernel
theorem dX9_isPerson_3 : decode cX9_isPerson 3 = .ok (.aload_n 0, 1) := by decide +kernel
theorem dX9_isPerson_4 : decode cX9_isPerson 4 = .ok (.getfield 44, 3) := by decide +kernel
theorem dX9_isPerson_7 : decode cX9_isPerson 7 = .ok (.iconst 0, 1) := by decide +kernel
theorem dX9_isPerson_8 : decode cX9_isPerson 8 = .ok (.iaload, 1) := by decide +kernel
theorem dX9_isPerson_9 : decode cX9_isPerson 9 = .ok (.iconst 1, 1) := by decide +kernel
theorem dX9_isPerson_10 : decode cX9_isPerson 10 = .ok (.isub, 1) := by decide +kernel
theorem dX9_isPerson_11 : decode cX9_isPerson 11 = .ok (.i2l, 1) := by decide +kernel
theorem dX9_isPerson_12 : decode cX9_isPerson 12 = .ok (.invokestatic 71, 3) := by decide +kernel
theorem dX9_isPerson_15 : decode cX9_isPerson 15 = .ok (.ireturn, 1) := by decide +kernel
theorem dX9_isCoat_0 : decode cX9_isCoat 0 = .ok (.iload_n 1, 1) := by decide +kernel
theorem dX9_isCoat_1 : decode cX9_isCoat 1 = .ok (.i2l, 1) := by decide +kernel
theorem dX9_isCoat_2 : decode cX9_isCoat 2 = .ok (.lconst 0, 1) := by decide +kernel
theorem dX9_isCoat_3 : decode cX9_isCoat 3 = .ok (.aload_n 0, 1) := by decide +kernel
theorem dX9_isCoat_4 : decode cX9_isCoat 4 = .ok (.getfield 44, 3) := by decide +kernel
theorem dX9_isCoat_7 : decode cX9_isCoat 7 = .ok (.iconst 1, 1) := by decide +kernel
theorem dX9_isCoat_8 : decode cX9_isCoat 8 = .ok (.iaload, 1) := by decide +kernel
theorem dX9_isCoat_9 : decode cX9_isCoat 9 = .ok (.iconst 1, 1) := by decide +kernel
theorem dX9_isCoat_10 : decode cX9_isCoat 10 = .ok (.isub, 1) := by decide +kernel
theorem dX9_isCoat_11 : decode cX9_isCoat 11 = .ok (.i2l, 1) := by decide +kernel
theorem dX9_isCoat_12 : decode cX9_isCoat 12 = .ok (.invokestatic 71, 3) := by decide +kernel
theorem dX9_isCoat_15 : decode cX9_isCoat 15 = .ok (.ireturn, 1) := by decide +kernel
theorem dX9_isCut_0 : decode cX9_isCut 0 = .ok (.aload_n 0, 1) := by decide +kernel
theorem dX9_isCut_1 : decode cX9_isCut 1 = .ok (.getfield 7, 3) := by decide +kernel
theorem dX9_isCut_4 : decode cX9_isCut 4 = .ok (.bipush 16, 2) := by decide +kernel
theorem dX9_isCut_6 : decode cX9_isCut 6 = .ok (.iaload, 1) := by decide +kernel
theorem dX9_isCut_7 : decode cX9_isCut 7 = .ok (.iload_n 1, 1) := by decide +kernel
theorem dX9_isCut_8 : decode cX9_isCut 8 = .ok (.invokestatic 160, 3) := by decide +kernel
theorem dX9_isCut_11 : decode cX9_isCut 11 = .ok (.ireturn, 1) := by decide +kernel
theorem dX9_whereBy_0 : decode cX9_whereBy 0 = .ok (.iconst 0, 1) := by decide +kernel
theorem dX9_whereBy_1 : decode cX9_whereBy 1 = .ok (.istore 4, 2) := by decide +kernel
theorem dX9_whereBy_3 : decode cX9_whereBy 3 = .ok (.iload 4, 2) := by decide +kernel
theorem dX9_whereBy_5 : decode cX9_whereBy 5 = .ok (.aload_n 0, 1) := by decide +kernel
theorem dX9_whereBy_6 : decode cX9_whereBy 6 = .ok (.getfield 44, 3) := by decide +kernel
theorem dX9_whereBy_9 : decode cX9_whereBy 9 = .ok (.iconst 2, 1) := by decide +kernel
theorem dX9_whereBy_10 : decode cX9_whereBy 10 = .ok (.iaload, 1) := by decide +kernel
theorem dX9_whereBy_11 : decode cX9_whereBy 11 = .ok (.if_icmp .ge 61, 3) := by decide +kernel
theorem dX9_whereBy_14 : decode cX9_whereBy 14 = .ok (.iload_n 3, 1) := by decide +kernel
theorem dX9_whereBy_15 : decode cX9_whereBy 15 = .ok (.iload 4, 2) := by decide +kernel
theorem dX9_whereBy_17 : decode cX9_whereBy 17 = .ok (.invokestatic 160, 3) := by decide +kernel
theorem dX9_whereBy_20 : decode cX9_whereBy 20 = .ok (.ifCond .eq 46, 3) := by decide +kernel
theorem dX9_whereBy_23 : decode cX9_whereBy 23 = .ok (.aload_n 0, 1) := by decide +kernel
theorem dX9_whereBy_24 : decode cX9_whereBy 24 = .ok (.getfield 26, 3) := by decide +kernel
theorem dX9_whereBy_27 : decode cX9_whereBy 27 = .ok (.iload 4, 2) := by decide +kernel
theorem dX9_whereBy_29 : decode cX9_whereBy 29 = .ok (.iaload, 1) := by decide +kernel
theorem dX9_whereBy_30 : decode cX9_whereBy 30 = .ok (.iload_n 1, 1) := by decide +kernel
theorem dX9_whereBy_31 : decode cX9_whereBy 31 = .ok (.if_icmp .ne 35, 3) := by decide +kernel
theorem dX9_whereBy_34 : decode cX9_whereBy 34 = .ok (.iload_n 2, 1) := by decide +kernel
theorem dX9_whereBy_35 : decode cX9_whereBy 35 = .ok (.i2l, 1) := by decide +kernel
theorem dX9_whereBy_36 : decode cX9_whereBy 36 = .ok (.aload_n 0, 1) := by decide +kernel
theorem dX9_whereBy_37 : decode cX9_whereBy 37 = .ok (.getfield 32, 3) := by decide +kernel
theorem dX9_whereBy_40 : decode cX9_whereBy 40 = .ok (.iload 4, 2) := by decide +kernel
theorem dX9_whereBy_42 : decode cX9_whereBy 42 = .ok (.iaload, 1) := by decide +kernel
theorem dX9_whereBy_43 : decode cX9_whereBy 43 = .ok (.i2l, 1) := by decide +kernel
theorem dX9_whereBy_44 : decode cX9_whereBy 44 = .ok (.aload_n 0, 1) := by decide +kernel
theorem dX9_whereBy_45 : decode cX9_whereBy 45 = .ok (.getfield 35, 3) := by decide +kernel
theorem dX9_whereBy_48 : decode cX9_whereBy 48 = .ok (.iload 4, 2) := by decide +kernel
theorem dX9_whereBy_50 : decode cX9_whereBy 50 = .ok (.iaload, 1) := by decide +kernel
theorem dX9_whereBy_51 : decode cX9_whereBy 51 = .ok (.i2l, 1) := by decide +kernel
theorem dX9_whereBy_52 : decode cX9_whereBy 52 = .ok (.invokestatic 71, 3) := by decide +kernel
theorem dX9_whereBy_55 : decode cX9_whereBy 55 = .ok (.ifCond .eq 11, 3) := by decide +kernel
theorem dX9_whereBy_58 : decode cX9_whereBy 58 = .ok (.aload_n 0, 1) := by decide +kernel
theorem dX9_whereBy_59 : decode cX9_whereBy 59 = .ok (.getfield 29, 3) := by decide +kernel
theorem dX9_whereBy_62 : decode cX9_whereBy 62 = .ok (.iload 4, 2) := by decide +kernel
theorem dX9_whereBy_64 : decode cX9_whereBy 64 = .ok (.iaload, 1) := by decide +kernel
theorem dX9_whereBy_65 : decode cX9_whereBy 65 = .ok (.ireturn, 1) := by decide +kernel
theorem dX9_whereBy_66 : decode cX9_whereBy 66 = .ok (.iinc 4 1, 3) := by decide +kernel
theorem dX9_whereBy_69 : decode cX9_whereBy 69 = .ok (.goto (-66), 3) := by decide +kernel
theorem dX9_whereBy_72 : decode cX9_whereBy 72 = .ok (.iconst (-1), 1) := by decide +kernel
theorem dX9_whereBy_73 : decode cX9_whereBy 73 = .ok (.ireturn, 1) := by decide +kernel
theorem dX9_whereIs_0 : decode cX9_whereIs 0 = .ok (.aload_n 0, 1) := by decide +kernel
theorem dX9_whereIs_1 : decode cX9_whereIs 1 = .ok (.iload_n 1, 1) := by decide +kernel
theorem dX9_whereIs_2 : decode cX9_whereIs 2 = .ok (.iload_n 2, 1) := by decide +kernel
theorem dX9_whereIs_3 : decode cX9_whereIs 3 = .ok (.iconst 1, 1) := by decide +kernel
theorem dX9_whereIs_4 : decode cX9_whereIs 4 = .ok (.aload_n 0, 1) := by decide +kernel
theorem dX9_whereIs_5 : decode cX9_whereIs 5 = .ok (.getfield 44, 3) := by decide +kernel
theorem dX9_whereIs_8 : decode cX9_whereIs 8 = .ok (.iconst 2, 1) := by decide +kernel
theorem dX9_whereIs_9 : decode cX9_whereIs 9 = .ok (.iaload, 1) := by decide +kernel
theorem dX9_whereIs_10 : decode cX9_whereIs 10 = .ok (.ishl, 1) := by decide +kernel
theorem dX9_whereIs_11 : decode cX9_whereIs 11 = .ok (.iconst 1, 1) := by decide +kernel
theorem dX9_whereIs_12 : decode cX9_whereIs 12 = .ok (.isub, 1) := by decide +kernel
theorem dX9_whereIs_13 : decode cX9_whereIs 13 = .ok (.invokevirtual 164, 3) := by decide +kernel
theorem dX9_whereIs_16 : decode cX9_whereIs 16 = .ok (.ireturn, 1) := by decide +kernel
theorem dX9_isOut_0 : decode cX9_isOut 0 = .ok (.aload_n 0, 1) := by decide +kernel
theorem dX9_isOut_1 : decode cX9_isOut 1 = .ok (.iload_n 1, 1) := by decide +kernel
theorem dX9_isOut_2 : decode cX9_isOut 2 = .ok (.iload_n 2, 1) := by decide +kernel
theorem dX9_isOut_3 : decode cX9_isOut 3 = .ok (.invokevirtual 168, 3) := by decide +kernel
theorem dX9_isOut_6 : decode cX9_isOut 6 = .ok (.ifCond .lt 7, 3) := by decide +kernel
theorem dX9_isOut_9 : decode cX9_isOut 9 = .ok (.iconst 1, 1) := by decide +kernel
theorem dX9_isOut_10 : decode cX9_isOut 10 = .ok (.goto 4, 3) := by decide +kernel
theorem dX9_isOut_13 : decode cX9_isOut 13 = .ok (.iconst 0, 1) := by decide +kernel
theorem dX9_isOut_14 : decode cX9_isOut 14 = .ok (.ireturn, 1) := by decide +kernel
theorem dX9_told_0 : decode cX9_told 0 = .ok (.iload_n 1, 1) := by decide +kernel
theorem dX9_told_1 : decode cX9_told 1 = .ok (.tableswitch 117 0 9 #[55, 62, 69, 76, 81, 89, 97, 102, 107, 112], 55) := by decide +kernel
theorem dX9_told_56 : decode cX9_told 56 = .ok (.aload_n 0, 1) := by decide +kernel
theorem dX9_told_57 : decode cX9_told 57 = .ok (.getfield 44, 3) := by decide +kernel
theorem dX9_told_60 : decode cX9_told 60 = .ok (.iconst 0, 1) := by decide +kernel
theorem dX9_told_61 : decode cX9_told 61 = .ok (.iaload, 1) := by decide +kernel
theorem dX9_told_62 : decode cX9_told 62 = .ok (.ireturn, 1) := by decide +kernel
theorem dX9_told_63 : decode cX9_told 63 = .ok (.aload_n 0, 1) := by decide +kernel
theorem dX9_told_64 : decode cX9_told 64 = .ok (.getfield 44, 3) := by decide +kernel
theorem dX9_told_67 : decode cX9_told 67 = .ok (.iconst 1, 1) := by decide +kernel
theorem dX9_told_68 : decode cX9_told 68 = .ok (.iaload, 1) := by decide +kernel
theorem dX9_told_69 : decode cX9_told 69 = .ok (.ireturn, 1) := by decide +kernel
theorem dX9_told_70 : decode cX9_told 70 = .ok (.aload_n 0, 1) := by decide +kernel
theorem dX9_told_71 : decode cX9_told 71 = .ok (.getfield 44, 3) := by decide +kernel
theorem dX9_told_74 : decode cX9_told 74 = .ok (.iconst 2, 1) := by decide +kernel
theorem dX9_told_75 : decode cX9_told 75 = .ok (.iaload, 1) := by decide +kernel
theorem dX9_told_76 : decode cX9_told 76 = .ok (.ireturn, 1) := by decide +kernel
theorem dX9_told_77 : decode cX9_told 77 = .ok (.aload_n 0, 1) := by decide +kernel
theorem dX9_told_78 : decode cX9_told 78 = .ok (.getfield 76, 3) := by decide +kernel
theorem dX9_told_81 : decode cX9_told 81 = .ok (.ireturn, 1) := by decide +kernel
theorem dX9_told_82 : decode cX9_told 82 = .ok (.aload_n 0, 1) := by decide +kernel
theorem dX9_told_83 : decode cX9_told 83 = .ok (.getfield 7, 3) := by decide +kernel
theorem dX9_told_86 : decode cX9_told 86 = .ok (.bipush 17, 2) := by decide +kernel
theorem dX9_told_88 : decode cX9_told 88 = .ok (.iaload, 1) := by decide +kernel
theorem dX9_told_89 : decode cX9_told 89 = .ok (.ireturn, 1) := by decide +kernel
theorem dX9_told_90 : decode cX9_told 90 = .ok (.aload_n 0, 1) := by decide +kernel
theorem dX9_told_91 : decode cX9_told 91 = .ok (.getfield 7, 3) := by decide +kernel
theorem dX9_told_94 : decode cX9_told 94 = .ok (.bipush 16, 2) := by decide +kernel
theorem dX9_told_96 : decode cX9_told 96 = .ok (.iaload, 1) := by decide +kernel
theorem dX9_told_97 : decode cX9_told 97 = .ok (.ireturn, 1) := by decide +kernel
theorem dX9_told_98 : decode cX9_told 98 = .ok (.aload_n 0, 1) := by decide +kernel
theorem dX9_told_99 : decode cX9_told 99 = .ok (.getfield 154, 3) := by decide +kernel
theorem dX9_told_102 : decode cX9_told 102 = .ok (.ireturn, 1) := by decide +kernel
theorem dX9_told_103 : decode cX9_told 103 = .ok (.aload_n 0, 1) := by decide +kernel
theorem dX9_told_104 : decode cX9_told 104 = .ok (.getfield 157, 3) := by decide +kernel
theorem dX9_told_107 : decode cX9_told 107 = .ok (.ireturn, 1) := by decide +kernel
theorem dX9_told_108 : decode cX9_told 108 = .ok (.aload_n 0, 1) := by decide +kernel
theorem dX9_told_109 : decode cX9_told 109 = .ok (.invokevirtual 171, 3) := by decide +kernel
theorem dX9_told_112 : decode cX9_told 112 = .ok (.ireturn, 1) := by decide +kernel
theorem dX9_told_113 : decode cX9_told 113 = .ok (.aload_n 0, 1) := by decide +kernel
theorem dX9_told_114 : decode cX9_told 114 = .ok (.invokevirtual 174, 3) := by decide +kernel
theorem dX9_told_117 : decode cX9_told 117 = .ok (.ireturn, 1) := by decide +kernel
theorem dX9_told_118 : decode cX9_told 118 = .ok (.ldc 75, 2) := by decide +kernel
theorem dX9_told_120 : decode cX9_told 120 = .ok (.ireturn, 1) := by decide +kernel
theorem dX9_coat_0 : decode cX9_coat 0 = .ok (.aload_n 0, 1) := by decide +kernel
theorem dX9_coat_1 : decode cX9_coat 1 = .ok (.iload_n 1, 1) := by decide +kernel
theorem dX9_coat_2 : decode cX9_coat 2 = .ok (.invokevirtual 177, 3) := by decide +kernel
theorem dX9_coat_5 : decode cX9_coat 5 = .ok (.ifCond .ne 6, 3) := by decide +kernel
theorem dX9_coat_8 : decode cX9_coat 8 = .ok (.ldc 181, 2) := by decide +kernel
theorem dX9_coat_10 : decode cX9_coat 10 = .ok (.ireturn, 1) := by decide +kernel
theorem dX9_coat_11 : decode cX9_coat 11 = .ok (.iload_n 2, 1) := by decide +kernel
theorem dX9_coat_12 : decode cX9_coat 12 = .ok (.ifCond .ne 12, 3) := by decide +kernel
theorem dX9_coat_15 : decode cX9_coat 15 = .ok (.aload_n 0, 1) := by decide +kernel
theorem dX9_coat_16 : decode cX9_coat 16 = .ok (.getfield 7, 3) := by decide +kernel
theorem dX9_coat_19 : decode cX9_coat 19 = .ok (.iload_n 1, 1) := by decide +kernel
theorem dX9_coat_20 : decode cX9_coat 20 = .ok (.iaload, 1) := by decide +kernel
theorem dX9_coat_21 : decode cX9_coat 21 = .ok (.goto 52, 3) := by decide +kernel
theorem dX9_coat_24 : decode cX9_coat 24 = .ok (.iload_n 2, 1) := by decide +kernel
theorem dX9_coat_25 : decode cX9_coat 25 = .ok (.iconst 1, 1) := by decide +kernel
theorem dX9_coat_26 : decode cX9_coat 26 = .ok (.if_icmp .ne 15, 3) := by decide +kernel
theorem dX9_coat_29 : decode cX9_coat 29 = .ok (.aload_n 0, 1) := by decide +kernel
theorem dX9_coat_30 : decode cX9_coat 30 = .ok (.getfield 7, 3) := by decide +kernel
theorem dX9_coat_33 : decode cX9_coat 33 = .ok (.bipush 8, 2) := by decide +kernel
theorem dX9_coat_35 : decode cX9_coat 35 = .ok (.iload_n 1, 1) := by decide +kernel
theorem dX9_coat_36 : decode cX9_coat 36 = .ok (.iadd, 1) := by decide +kernel
theorem dX9_coat_37 : decode cX9_coat 37 = .ok (.iaload, 1) := by decide +kernel
theorem dX9_coat_38 : decode cX9_coat 38 = .ok (.goto 35, 3) := by decide +kernel
theorem dX9_coat_41 : decode cX9_coat 41 = .ok (.iload_n 2, 1) := by decide +kernel
theorem dX9_coat_42 : decode cX9_coat 42 = .ok (.iconst 2, 1) := by decide +kernel
theorem dX9_coat_43 : decode cX9_coat 43 = .ok (.if_icmp .ne 12, 3) := by decide +kernel
theorem dX9_coat_46 : decode cX9_coat 46 = .ok (.aload_n 0, 1) := by decide +kernel
theorem dX9_coat_47 : decode cX9_coat 47 = .ok (.getfield 23, 3) := by decide +kernel
theorem dX9_coat_50 : decode cX9_coat 50 = .ok (.iload_n 1, 1) := by decide +kernel
theorem dX9_coat_51 : decode cX9_coat 51 = .ok (.iaload, 1) := by decide +kernel
theorem dX9_coat_52 : decode cX9_coat 52 = .ok (.goto 21, 3) := by decide +kernel
theorem dX9_coat_55 : decode cX9_coat 55 = .ok (.iload_n 2, 1) := by decide +kernel
theorem dX9_coat_56 : decode cX9_coat 56 = .ok (.iconst 3, 1) := by decide +kernel
theorem dX9_coat_57 : decode cX9_coat 57 = .ok (.if_icmp .ne 14, 3) := by decide +kernel
theorem dX9_coat_60 : decode cX9_coat 60 = .ok (.aload_n 0, 1) := by decide +kernel
theorem dX9_coat_61 : decode cX9_coat 61 = .ok (.iload_n 1, 1) := by decide +kernel
theorem dX9_coat_62 : decode cX9_coat 62 = .ok (.invokevirtual 182, 3) := by decide +kernel
theorem dX9_coat_65 : decode cX9_coat 65 = .ok (.invokestatic 185, 3) := by decide +kernel
theorem dX9_coat_68 : decode cX9_coat 68 = .ok (.goto 5, 3) := by decide +kernel
theorem dX9_coat_71 : decode cX9_coat 71 = .ok (.ldc 75, 2) := by decide +kernel
theorem dX9_coat_73 : decode cX9_coat 73 = .ok (.ireturn, 1) := by decide +kernel
theorem dX9_errand_0 : decode cX9_errand 0 = .ok (.iload_n 1, 1) := by decide +kernel
theorem dX9_errand_1 : decode cX9_errand 1 = .ok (.i2l, 1) := by decide +kernel
theorem dX9_errand_2 : decode cX9_errand 2 = .ok (.lconst 0, 1) := by decide +kernel
theorem dX9_errand_3 : decode cX9_errand 3 = .ok (.aload_n 0, 1) := by decide +kernel
theorem dX9_errand_4 : decode cX9_errand 4 = .ok (.getfield 44, 3) := by decide +kernel
theorem dX9_errand_7 : decode cX9_errand 7 = .ok (.iconst 2, 1) := by decide +kernel
theorem dX9_errand_8 : decode cX9_errand 8 = .ok (.iaload, 1) := by decide +kernel
theorem dX9_errand_9 : decode cX9_errand 9 = .ok (.iconst 1, 1) := by decide +kernel
theorem dX9_errand_10 : decode cX9_errand 10 = .ok (.isub, 1) := by decide +kernel
theorem dX9_errand_11 : decode cX9_errand 11 = .ok (.i2l, 1) := by decide +kernel
theorem dX9_errand_12 : decode cX9_errand 12 = .ok (.invokestatic 71, 3) := by decide +kernel
theorem dX9_errand_15 : decode cX9_errand 15 = .ok (.ifCond .ne 6, 3) := by decide +kernel
theorem dX9_errand_18 : decode cX9_errand 18 = .ok (.ldc 181, 2) := by decide +kernel
theorem dX9_errand_20 : decode cX9_errand 20 = .ok (.ireturn, 1) := by decide +kernel
theorem dX9_errand_21 : decode cX9_errand 21 = .ok (.iload_n 2, 1) := by decide +kernel
theorem dX9_errand_22 : decode cX9_errand 22 = .ok (.ifCond .ne 12, 3) := by decide +kernel
theorem dX9_errand_25 : decode cX9_errand 25 = .ok (.aload_n 0, 1) := by decide +kernel
theorem dX9_errand_26 : decode cX9_errand 26 = .ok (.getfield 26, 3) := by decide +kernel
theorem dX9_errand_29 : decode cX9_errand 29 = .ok (.iload_n 1, 1) := by decide +kernel
theorem dX9_errand_30 : decode cX9_errand 30 = .ok (.iaload, 1) := by decide +kernel
theorem dX9_errand_31 : decode cX9_errand 31 = .ok (.goto 47, 3) := by decide +kernel
theorem dX9_errand_34 : decode cX9_errand 34 = .ok (.iload_n 2, 1) := by decide +kernel
theorem dX9_errand_35 : decode cX9_errand 35 = .ok (.iconst 1, 1) := by decide +kernel
theorem dX9_errand_36 : decode cX9_errand 36 = .ok (.if_icmp .ne 12, 3) := by decide +kernel
theorem dX9_errand_39 : decode cX9_errand 39 = .ok (.aload_n 0, 1) := by decide +kernel
theorem dX9_errand_40 : decode cX9_errand 40 = .ok (.getfield 29, 3) := by decide +kernel
theorem dX9_errand_43 : decode cX9_errand 43 = .ok (.iload_n 1, 1) := by decide +kernel
theorem dX9_errand_44 : decode cX9_errand 44 = .ok (.iaload, 1) := by decide +kernel
theorem dX9_errand_45 : decode cX9_errand 45 = .ok (.goto 33, 3) := by decide +kernel
theorem dX9_errand_48 : decode cX9_errand 48 = .ok (.iload_n 2, 1) := by decide +kernel
theorem dX9_errand_49 : decode cX9_errand 49 = .ok (.iconst 2, 1) := by decide +kernel
theorem dX9_errand_50 : decode cX9_errand 50 = .ok (.if_icmp .ne 12, 3) := by decide +kernel
theorem dX9_errand_53 : decode cX9_errand 53 = .ok (.aload_n 0, 1) := by decide +kernel
theorem dX9_errand_54 : decode cX9_errand 54 = .ok (.getfield 32, 3) := by decide +kernel
theorem dX9_errand_57 : decode cX9_errand 57 = .ok (.iload_n 1, 1) := by decide +kernel
theorem dX9_errand_58 : decode cX9_errand 58 = .ok (.iaload, 1) := by decide +kernel
theorem dX9_errand_59 : decode cX9_errand 59 = .ok (.goto 19, 3) := by decide +kernel
theorem dX9_errand_62 : decode cX9_errand 62 = .ok (.iload_n 2, 1) := by decide +kernel
theorem dX9_errand_63 : decode cX9_errand 63 = .ok (.iconst 3, 1) := by decide +kernel
theorem dX9_errand_64 : decode cX9_errand 64 = .ok (.if_icmp .ne 12, 3) := by decide +kernel
theorem dX9_errand_67 : decode cX9_errand 67 = .ok (.aload_n 0, 1) := by decide +kernel
theorem dX9_errand_68 : decode cX9_errand 68 = .ok (.getfield 35, 3) := by decide +kernel
theorem dX9_errand_71 : decode cX9_errand 71 = .ok (.iload_n 1, 1) := by decide +kernel
theorem dX9_errand_72 : decode cX9_errand 72 = .ok (.iaload, 1) := by decide +kernel
theorem dX9_errand_73 : decode cX9_errand 73 = .ok (.goto 5, 3) := by decide +kernel
theorem dX9_errand_76 : decode cX9_errand 76 = .ok (.ldc 75, 2) := by decide +kernel
theorem dX9_errand_78 : decode cX9_errand 78 = .ok (.ireturn, 1) := by decide +kernel
theorem dX9_where_0 : decode cX9_where 0 = .ok (.aload_n 0, 1) := by decide +kernel
theorem dX9_where_1 : decode cX9_where 1 = .ok (.iload_n 1, 1) := by decide +kernel
theorem dX9_where_2 : decode cX9_where 2 = .ok (.invokevirtual 189, 3) := by decide +kernel
theorem dX9_where_5 : decode cX9_where 5 = .ok (.ifCond .ne 6, 3) := by decide +kernel
theorem dX9_where_8 : decode cX9_where 8 = .ok (.ldc 181, 2) := by decide +kernel
theorem dX9_where_10 : decode cX9_where 10 = .ok (.ireturn, 1) := by decide +kernel
theorem dX9_where_11 : decode cX9_where 11 = .ok (.iload_n 2, 1) := by decide +kernel
theorem dX9_where_12 : decode cX9_where 12 = .ok (.i2l, 1) := by decide +kernel
theorem dX9_where_13 : decode cX9_where 13 = .ok (.lconst 0, 1) := by decide +kernel
theorem dX9_where_14 : decode cX9_where 14 = .ok (.ldc2_w 192, 3) := by decide +kernel
theorem dX9_where_17 : decode cX9_where 17 = .ok (.invokestatic 71, 3) := by decide +kernel
theorem dX9_where_20 : decode cX9_where 20 = .ok (.ifCond .eq 12, 3) := by decide +kernel
theorem dX9_where_23 : decode cX9_where 23 = .ok (.aload_n 0, 1) := by decide +kernel
theorem dX9_where_24 : decode cX9_where 24 = .ok (.iload_n 1, 1) := by decide +kernel
theorem dX9_where_25 : decode cX9_where 25 = .ok (.iload_n 2, 1) := by decide +kernel
theorem dX9_where_26 : decode cX9_where 26 = .ok (.invokevirtual 168, 3) := by decide +kernel
theorem dX9_where_29 : decode cX9_where 29 = .ok (.goto 5, 3) := by decide +kernel
theorem dX9_where_32 : decode cX9_where 32 = .ok (.ldc 75, 2) := by decide +kernel
theorem dX9_where_34 : decode cX9_where 34 = .ok (.ireturn, 1) := by decide +kernel
theorem dX9_likes_0 : decode cX9_likes 0 = .ok (.aload_n 0, 1) := by decide +kernel
theorem dX9_likes_1 : decode cX9_likes 1 = .ok (.iload_n 1, 1) := by decide +kernel
theorem dX9_likes_2 : decode cX9_likes 2 = .ok (.invokevirtual 189, 3) := by decide +kernel
theorem dX9_likes_5 : decode cX9_likes 5 = .ok (.ifCond .eq 30, 3) := by decide +kernel
theorem dX9_likes_8 : decode cX9_likes 8 = .ok (.aload_n 0, 1) := by decide +kernel
theorem dX9_likes_9 : decode cX9_likes 9 = .ok (.iload_n 2, 1) := by decide +kernel
theorem dX9_likes_10 : decode cX9_likes 10 = .ok (.invokevirtual 189, 3) := by decide +kernel
theorem dX9_likes_13 : decode cX9_likes 13 = .ok (.ifCond .eq 22, 3) := by decide +kernel
theorem dX9_likes_16 : decode cX9_likes 16 = .ok (.iload_n 1, 1) := by decide +kernel
theorem dX9_likes_17 : decode cX9_likes 17 = .ok (.iload_n 2, 1) := by decide +kernel
theorem dX9_likes_18 : decode cX9_likes 18 = .ok (.if_icmp .eq 17, 3) := by decide +kernel
theorem dX9_likes_21 : decode cX9_likes 21 = .ok (.aload_n 0, 1) := by decide +kernel
theorem dX9_likes_22 : decode cX9_likes 22 = .ok (.getfield 38, 3) := by decide +kernel
theorem dX9_likes_25 : decode cX9_likes 25 = .ok (.bipush 8, 2) := by decide +kernel
theorem dX9_likes_27 : decode cX9_likes 27 = .ok (.iload_n 1, 1) := by decide +kernel
theorem dX9_likes_28 : decode cX9_likes 28 = .ok (.imul, 1) := by decide +kernel
theorem dX9_likes_29 : decode cX9_likes 29 = .ok (.iload_n 2, 1) := by decide +kernel
theorem dX9_likes_30 : decode cX9_likes 30 = .ok (.iadd, 1) := by decide +kernel
theorem dX9_likes_31 : decode cX9_likes 31 = .ok (.iaload, 1) := by decide +kernel
theorem dX9_likes_32 : decode cX9_likes 32 = .ok (.goto 5, 3) := by decide +kernel
theorem dX9_likes_35 : decode cX9_likes 35 = .ok (.ldc 181, 2) := by decide +kernel
theorem dX9_likes_37 : decode cX9_likes 37 = .ok (.ireturn, 1) := by decide +kernel
theorem dX9_netOf_0 : decode cX9_netOf 0 = .ok (.iconst 1, 1) := by decide +kernel
theorem dX9_netOf_1 : decode cX9_netOf 1 = .ok (.iload_n 1, 1) := by decide +kernel
theorem dX9_netOf_2 : decode cX9_netOf 2 = .ok (.ishl, 1) := by decide +kernel
theorem dX9_netOf_3 : decode cX9_netOf 3 = .ok (.istore_n 2, 1) := by decide +kernel
theorem dX9_netOf_4 : decode cX9_netOf 4 = .ok (.iconst 0, 1) := by decide +kernel
theorem dX9_netOf_5 : decode cX9_netOf 5 = .ok (.istore_n 3, 1) := by decide +kernel
theorem dX9_netOf_6 : decode cX9_netOf 6 = .ok (.iload_n 2, 1) := by decide +kernel
theorem dX9_netOf_7 : decode cX9_netOf 7 = .ok (.iload_n 3, 1) := by decide +kernel
theorem dX9_netOf_8 : decode cX9_netOf 8 = .ok (.if_icmp .eq 77, 3) := by decide +kernel
theorem dX9_netOf_11 : decode cX9_netOf 11 = .ok (.iload_n 2, 1) := by decide +kernel
theorem dX9_netOf_12 : decode cX9_netOf 12 = .ok (.istore_n 3, 1) := by decide +kernel
theorem dX9_netOf_13 : decode cX9_netOf 13 = .ok (.iconst 0, 1) := by decide +kernel
theorem dX9_netOf_14 : decode cX9_netOf 14 = .ok (.istore 4, 2) := by decide +kernel
theorem dX9_netOf_16 : decode cX9_netOf 16 = .ok (.iload 4, 2) := by decide +kernel
theorem dX9_netOf_18 : decode cX9_netOf 18 = .ok (.aload_n 0, 1) := by decide +kernel
theorem dX9_netOf_19 : decode cX9_netOf 19 = .ok (.getfield 44, 3) := by decide +kernel
theorem dX9_netOf_22 : decode cX9_netOf 22 = .ok (.iconst 1, 1) := by decide +kernel
theorem dX9_netOf_23 : decode cX9_netOf 23 = .ok (.iaload, 1) := by decide +kernel
theorem dX9_netOf_24 : decode cX9_netOf 24 = .ok (.if_icmp .ge 58, 3) := by decide +kernel
theorem dX9_netOf_27 : decode cX9_netOf 27 = .ok (.iconst 1, 1) := by decide +kernel
theorem dX9_netOf_28 : decode cX9_netOf 28 = .ok (.aload_n 0, 1) := by decide +kernel
theorem dX9_netOf_29 : decode cX9_netOf 29 = .ok (.getfield 7, 3) := by decide +kernel
theorem dX9_netOf_32 : decode cX9_netOf 32 = .ok (.iload 4, 2) := by decide +kernel
theorem dX9_netOf_34 : decode cX9_netOf 34 = .ok (.iaload, 1) := by decide +kernel
theorem dX9_netOf_35 : decode cX9_netOf 35 = .ok (.ishl, 1) := by decide +kernel
theorem dX9_netOf_36 : decode cX9_netOf 36 = .ok (.iconst 1, 1) := by decide +kernel
theorem dX9_netOf_37 : decode cX9_netOf 37 = .ok (.aload_n 0, 1) := by decide +kernel
theorem dX9_netOf_38 : decode cX9_netOf 38 = .ok (.getfield 7, 3) := by decide +kernel
theorem dX9_netOf_41 : decode cX9_netOf 41 = .ok (.bipush 8, 2) := by decide +kernel
theorem dX9_netOf_43 : decode cX9_netOf 43 = .ok (.iload 4, 2) := by decide +kernel
theorem dX9_netOf_45 : decode cX9_netOf 45 = .ok (.iadd, 1) := by decide +kernel
theorem dX9_netOf_46 : decode cX9_netOf 46 = .ok (.iaload, 1) := by decide +kernel
theorem dX9_netOf_47 : decode cX9_netOf 47 = .ok (.ishl, 1) := by decide +kernel
theorem dX9_netOf_48 : decode cX9_netOf 48 = .ok (.ior, 1) := by decide +kernel
theorem dX9_netOf_49 : decode cX9_netOf 49 = .ok (.istore 5, 2) := by decide +kernel
theorem dX9_netOf_51 : decode cX9_netOf 51 = .ok (.iload_n 2, 1) := by decide +kernel
theorem dX9_netOf_52 : decode cX9_netOf 52 = .ok (.aload_n 0, 1) := by decide +kernel
theorem dX9_netOf_53 : decode cX9_netOf 53 = .ok (.iload 4, 2) := by decide +kernel
theorem dX9_netOf_55 : decode cX9_netOf 55 = .ok (.invokevirtual 182, 3) := by decide +kernel
theorem dX9_netOf_58 : decode cX9_netOf 58 = .ok (.ifCond .ne 15, 3) := by decide +kernel
theorem dX9_netOf_61 : decode cX9_netOf 61 = .ok (.iload_n 2, 1) := by decide +kernel
theorem dX9_netOf_62 : decode cX9_netOf 62 = .ok (.iload 5, 2) := by decide +kernel
theorem dX9_netOf_64 : decode cX9_netOf 64 = .ok (.iand, 1) := by decide +kernel
theorem dX9_netOf_65 : decode cX9_netOf 65 = .ok (.ifCond .eq 8, 3) := by decide +kernel
theorem dX9_netOf_68 : decode cX9_netOf 68 = .ok (.iload 5, 2) := by decide +kernel
theorem dX9_netOf_70 : decode cX9_netOf 70 = .ok (.goto 4, 3) := by decide +kernel
theorem dX9_netOf_73 : decode cX9_netOf 73 = .ok (.iconst 0, 1) := by decide +kernel
theorem dX9_netOf_74 : decode cX9_netOf 74 = .ok (.ior, 1) := by decide +kernel
theorem dX9_netOf_75 : decode cX9_netOf 75 = .ok (.istore_n 2, 1) := by decide +kernel
theorem dX9_netOf_76 : decode cX9_netOf 76 = .ok (.iinc 4 1, 3) := by decide +kernel
theorem dX9_netOf_79 : decode cX9_netOf 79 = .ok (.goto (-63), 3) := by decide +kernel
theorem dX9_netOf_82 : decode cX9_netOf 82 = .ok (.goto (-76), 3) := by decide +kernel
theorem dX9_netOf_85 : decode cX9_netOf 85 = .ok (.iload_n 2, 1) := by decide +kernel
theorem dX9_netOf_86 : decode cX9_netOf 86 = .ok (.ireturn, 1) := by decide +kernel
theorem dX9_netMany_0 : decode cX9_netMany 0 = .ok (.iconst 0, 1) := by decide +kernel
theorem dX9_netMany_1 : decode cX9_netMany 1 = .ok (.istore_n 1, 1) := by decide +kernel
theorem dX9_netMany_2 : decode cX9_netMany 2 = .ok (.iconst 1, 1) := by decide +kernel
theorem dX9_netMany_3 : decode cX9_netMany 3 = .ok (.aload_n 0, 1) := by decide +kernel
theorem dX9_netMany_4 : decode cX9_netMany 4 = .ok (.getfield 44, 3) := by decide +kernel
theorem dX9_netMany_7 : decode cX9_netMany 7 = .ok (.iconst 0, 1) := by decide +kernel
theorem dX9_netMany_8 : decode cX9_netMany 8 = .ok (.iaload, 1) := by decide +kernel
theorem dX9_netMany_9 : decode cX9_netMany 9 = .ok (.ishl, 1) := by decide +kernel
theorem dX9_netMany_10 : decode cX9_netMany 10 = .ok (.iconst 1, 1) := by decide +kernel
theorem dX9_netMany_11 : decode cX9_netMany 11 = .ok (.isub, 1) := by decide +kernel
theorem dX9_netMany_12 : decode cX9_netMany 12 = .ok (.istore_n 2, 1) := by decide +kernel
theorem dX9_netMany_13 : decode cX9_netMany 13 = .ok (.iconst 0, 1) := by decide +kernel
theorem dX9_netMany_14 : decode cX9_netMany 14 = .ok (.istore_n 3, 1) := by decide +kernel
theorem dX9_netMany_15 : decode cX9_netMany 15 = .ok (.iload_n 3, 1) := by decide +kernel
theorem dX9_netMany_16 : decode cX9_netMany 16 = .ok (.aload_n 0, 1) := by decide +kernel
theorem dX9_netMany_17 : decode cX9_netMany 17 = .ok (.getfield 44, 3) := by decide +kernel
theorem dX9_netMany_20 : decode cX9_netMany 20 = .ok (.iconst 0, 1) := by decide +kernel
theorem dX9_netMany_21 : decode cX9_netMany 21 = .ok (.iaload, 1) := by decide +kernel
theorem dX9_netMany_22 : decode cX9_netMany 22 = .ok (.if_icmp .ge 42, 3) := by decide +kernel
theorem dX9_netMany_25 : decode cX9_netMany 25 = .ok (.iload_n 1, 1) := by decide +kernel
theorem dX9_netMany_26 : decode cX9_netMany 26 = .ok (.iload_n 2, 1) := by decide +kernel
theorem dX9_netMany_27 : decode cX9_netMany 27 = .ok (.iload_n 3, 1) := by decide +kernel
theorem dX9_netMany_28 : decode cX9_netMany 28 = .ok (.invokestatic 160, 3) := by decide +kernel
theorem dX9_netMany_31 : decode cX9_netMany 31 = .ok (.invokestatic 185, 3) := by decide +kernel
theorem dX9_netMany_34 : decode cX9_netMany 34 = .ok (.iadd, 1) := by decide +kernel
theorem dX9_netMany_35 : decode cX9_netMany 35 = .ok (.istore_n 1, 1) := by decide +kernel
theorem dX9_netMany_36 : decode cX9_netMany 36 = .ok (.iload_n 2, 1) := by decide +kernel
theorem dX9_netMany_37 : decode cX9_netMany 37 = .ok (.iload_n 2, 1) := by decide +kernel
theorem dX9_netMany_38 : decode cX9_netMany 38 = .ok (.iload_n 3, 1) := by decide +kernel
theorem dX9_netMany_39 : decode cX9_netMany 39 = .ok (.invokestatic 160, 3) := by decide +kernel
theorem dX9_netMany_42 : decode cX9_netMany 42 = .ok (.ifCond .eq 13, 3) := by decide +kernel
theorem dX9_netMany_45 : decode cX9_netMany 45 = .ok (.aload_n 0, 1) := by decide +kernel
theorem dX9_netMany_46 : decode cX9_netMany 46 = .ok (.iload_n 3, 1) := by decide +kernel
theorem dX9_netMany_47 : decode cX9_netMany 47 = .ok (.invokevirtual 194, 3) := by decide +kernel
theorem dX9_netMany_50 : decode cX9_netMany 50 = .ok (.iconst (-1), 1) := by decide +kernel
theorem dX9_netMany_51 : decode cX9_netMany 51 = .ok (.ixor, 1) := by decide +kernel
theorem dX9_netMany_52 : decode cX9_netMany 52 = .ok (.goto 4, 3) := by decide +kernel
theorem dX9_netMany_55 : decode cX9_netMany 55 = .ok (.iconst (-1), 1) := by decide +kernel
theorem dX9_netMany_56 : decode cX9_netMany 56 = .ok (.iand, 1) := by decide +kernel
theorem dX9_netMany_57 : decode cX9_netMany 57 = .ok (.istore_n 2, 1) := by decide +kernel
theorem dX9_netMany_58 : decode cX9_netMany 58 = .ok (.iinc 3 1, 3) := by decide +kernel
theorem dX9_netMany_61 : decode cX9_netMany 61 = .ok (.goto (-46), 3) := by decide +kernel
theorem dX9_netMany_64 : decode cX9_netMany 64 = .ok (.iload_n 1, 1) := by decide +kernel
theorem dX9_netMany_65 : decode cX9_netMany 65 = .ok (.ireturn, 1) := by decide +kernel
theorem dX9_coatsIn_0 : decode cX9_coatsIn 0 = .ok (.iconst 0, 1) := by decide +kernel
theorem dX9_coatsIn_1 : decode cX9_coatsIn 1 = .ok (.istore_n 2, 1) := by decide +kernel
theorem dX9_coatsIn_2 : decode cX9_coatsIn 2 = .ok (.iconst 0, 1) := by decide +kernel
theorem dX9_coatsIn_3 : decode cX9_coatsIn 3 = .ok (.istore_n 3, 1) := by decide +kernel
theorem dX9_coatsIn_4 : decode cX9_coatsIn 4 = .ok (.iload_n 3, 1) := by decide +kernel
theorem dX9_coatsIn_5 : decode cX9_coatsIn 5 = .ok (.aload_n 0, 1) := by decide +kernel
theorem dX9_coatsIn_6 : decode cX9_coatsIn 6 = .ok (.getfield 44, 3) := by decide +kernel
theorem dX9_coatsIn_9 : decode cX9_coatsIn 9 = .ok (.iconst 1, 1) := by decide +kernel
theorem dX9_coatsIn_10 : decode cX9_coatsIn 10 = .ok (.iaload, 1) := by decide +kernel
theorem dX9_coatsIn_11 : decode cX9_coatsIn 11 = .ok (.if_icmp .ge 43, 3) := by decide +kernel
theorem dX9_coatsIn_14 : decode cX9_coatsIn 14 = .ok (.iload_n 2, 1) := by decide +kernel
theorem dX9_coatsIn_15 : decode cX9_coatsIn 15 = .ok (.aload_n 0, 1) := by decide +kernel
theorem dX9_coatsIn_16 : decode cX9_coatsIn 16 = .ok (.iload_n 3, 1) := by decide +kernel
theorem dX9_coatsIn_17 : decode cX9_coatsIn 17 = .ok (.invokevirtual 182, 3) := by decide +kernel
theorem dX9_coatsIn_20 : decode cX9_coatsIn 20 = .ok (.ifCond .ne 20, 3) := by decide +kernel
theorem dX9_coatsIn_23 : decode cX9_coatsIn 23 = .ok (.iload_n 1, 1) := by decide +kernel
theorem dX9_coatsIn_24 : decode cX9_coatsIn 24 = .ok (.aload_n 0, 1) := by decide +kernel
theorem dX9_coatsIn_25 : decode cX9_coatsIn 25 = .ok (.getfield 7, 3) := by decide +kernel
theorem dX9_coatsIn_28 : decode cX9_coatsIn 28 = .ok (.iload_n 3, 1) := by decide +kernel
theorem dX9_coatsIn_29 : decode cX9_coatsIn 29 = .ok (.iaload, 1) := by decide +kernel
theorem dX9_coatsIn_30 : decode cX9_coatsIn 30 = .ok (.invokestatic 160, 3) := by decide +kernel
theorem dX9_coatsIn_33 : decode cX9_coatsIn 33 = .ok (.ifCond .eq 7, 3) := by decide +kernel
theorem dX9_coatsIn_36 : decode cX9_coatsIn 36 = .ok (.iconst 1, 1) := by decide +kernel
theorem dX9_coatsIn_37 : decode cX9_coatsIn 37 = .ok (.goto 4, 3) := by decide +kernel
theorem dX9_coatsIn_40 : decode cX9_coatsIn 40 = .ok (.iconst 0, 1) := by decide +kernel
theorem dX9_coatsIn_41 : decode cX9_coatsIn 41 = .ok (.invokestatic 185, 3) := by decide +kernel
theorem dX9_coatsIn_44 : decode cX9_coatsIn 44 = .ok (.iload_n 3, 1) := by decide +kernel
theorem dX9_coatsIn_45 : decode cX9_coatsIn 45 = .ok (.ishl, 1) := by decide +kernel
theorem dX9_coatsIn_46 : decode cX9_coatsIn 46 = .ok (.ior, 1) := by decide +kernel
theorem dX9_coatsIn_47 : decode cX9_coatsIn 47 = .ok (.istore_n 2, 1) := by decide +kernel
theorem dX9_coatsIn_48 : decode cX9_coatsIn 48 = .ok (.iinc 3 1, 3) := by decide +kernel
theorem dX9_coatsIn_51 : decode cX9_coatsIn 51 = .ok (.goto (-47), 3) := by decide +kernel
theorem dX9_coatsIn_54 : decode cX9_coatsIn 54 = .ok (.iload_n 2, 1) := by decide +kernel
theorem dX9_coatsIn_55 : decode cX9_coatsIn 55 = .ok (.ireturn, 1) := by decide +kernel
theorem dX9_coatsOf_0 : decode cX9_coatsOf 0 = .ok (.iconst 0, 1) := by decide +kernel
theorem dX9_coatsOf_1 : decode cX9_coatsOf 1 = .ok (.istore_n 2, 1) := by decide +kernel
theorem dX9_coatsOf_2 : decode cX9_coatsOf 2 = .ok (.iconst 0, 1) := by decide +kernel
theorem dX9_coatsOf_3 : decode cX9_coatsOf 3 = .ok (.istore_n 3, 1) := by decide +kernel
theorem dX9_coatsOf_4 : decode cX9_coatsOf 4 = .ok (.iload_n 3, 1) := by decide +kernel
theorem dX9_coatsOf_5 : decode cX9_coatsOf 5 = .ok (.aload_n 0, 1) := by decide +kernel
theorem dX9_coatsOf_6 : decode cX9_coatsOf 6 = .ok (.getfield 44, 3) := by decide +kernel
theorem dX9_coatsOf_9 : decode cX9_coatsOf 9 = .ok (.iconst 1, 1) := by decide +kernel
theorem dX9_coatsOf_10 : decode cX9_coatsOf 10 = .ok (.iaload, 1) := by decide +kernel
theorem dX9_coatsOf_11 : decode cX9_coatsOf 11 = .ok (.if_icmp .ge 51, 3) := by decide +kernel
theorem dX9_coatsOf_14 : decode cX9_coatsOf 14 = .ok (.iload_n 2, 1) := by decide +kernel
theorem dX9_coatsOf_15 : decode cX9_coatsOf 15 = .ok (.aload_n 0, 1) := by decide +kernel
theorem dX9_coatsOf_16 : decode cX9_coatsOf 16 = .ok (.iload_n 3, 1) := by decide +kernel
theorem dX9_coatsOf_17 : decode cX9_coatsOf 17 = .ok (.invokevirtual 182, 3) := by decide +kernel
theorem dX9_coatsOf_20 : decode cX9_coatsOf 20 = .ok (.ifCond .ne 30, 3) := by decide +kernel
theorem dX9_coatsOf_23 : decode cX9_coatsOf 23 = .ok (.aload_n 0, 1) := by decide +kernel
theorem dX9_coatsOf_24 : decode cX9_coatsOf 24 = .ok (.getfield 7, 3) := by decide +kernel
theorem dX9_coatsOf_27 : decode cX9_coatsOf 27 = .ok (.iload_n 3, 1) := by decide +kernel
theorem dX9_coatsOf_28 : decode cX9_coatsOf 28 = .ok (.iaload, 1) := by decide +kernel
theorem dX9_coatsOf_29 : decode cX9_coatsOf 29 = .ok (.iload_n 1, 1) := by decide +kernel
theorem dX9_coatsOf_30 : decode cX9_coatsOf 30 = .ok (.if_icmp .eq 16, 3) := by decide +kernel
theorem dX9_coatsOf_33 : decode cX9_coatsOf 33 = .ok (.aload_n 0, 1) := by decide +kernel
theorem dX9_coatsOf_34 : decode cX9_coatsOf 34 = .ok (.getfield 7, 3) := by decide +kernel
theorem dX9_coatsOf_37 : decode cX9_coatsOf 37 = .ok (.bipush 8, 2) := by decide +kernel
theorem dX9_coatsOf_39 : decode cX9_coatsOf 39 = .ok (.iload_n 3, 1) := by decide +kernel
theorem dX9_coatsOf_40 : decode cX9_coatsOf 40 = .ok (.iadd, 1) := by decide +kernel
theorem dX9_coatsOf_41 : decode cX9_coatsOf 41 = .ok (.iaload, 1) := by decide +kernel
theorem dX9_coatsOf_42 : decode cX9_coatsOf 42 = .ok (.iload_n 1, 1) := by decide +kernel
theorem dX9_coatsOf_43 : decode cX9_coatsOf 43 = .ok (.if_icmp .ne 7, 3) := by decide +kernel
theorem dX9_coatsOf_46 : decode cX9_coatsOf 46 = .ok (.iconst 1, 1) := by decide +kernel
theorem dX9_coatsOf_47 : decode cX9_coatsOf 47 = .ok (.goto 4, 3) := by decide +kernel
theorem dX9_coatsOf_50 : decode cX9_coatsOf 50 = .ok (.iconst 0, 1) := by decide +kernel
theorem dX9_coatsOf_51 : decode cX9_coatsOf 51 = .ok (.invokestatic 185, 3) := by decide +kernel
theorem dX9_coatsOf_54 : decode cX9_coatsOf 54 = .ok (.iadd, 1) := by decide +kernel
theorem dX9_coatsOf_55 : decode cX9_coatsOf 55 = .ok (.istore_n 2, 1) := by decide +kernel
theorem dX9_coatsOf_56 : decode cX9_coatsOf 56 = .ok (.iinc 3 1, 3) := by decide +kernel
theorem dX9_coatsOf_59 : decode cX9_coatsOf 59 = .ok (.goto (-55), 3) := by decide +kernel
theorem dX9_coatsOf_62 : decode cX9_coatsOf 62 = .ok (.iload_n 2, 1) := by decide +kernel
theorem dX9_coatsOf_63 : decode cX9_coatsOf 63 = .ok (.ireturn, 1) := by decide +kernel
theorem dX9_kindOf_0 : decode cX9_kindOf 0 = .ok (.iload_n 1, 1) := by decide +kernel
theorem dX9_kindOf_1 : decode cX9_kindOf 1 = .ok (.invokestatic 198, 3) := by decide +kernel
theorem dX9_kindOf_4 : decode cX9_kindOf 4 = .ok (.istore_n 2, 1) := by decide +kernel
theorem dX9_kindOf_5 : decode cX9_kindOf 5 = .ok (.aload_n 0, 1) := by decide +kernel
theorem dX9_kindOf_6 : decode cX9_kindOf 6 = .ok (.iload_n 1, 1) := by decide +kernel
theorem dX9_kindOf_7 : decode cX9_kindOf 7 = .ok (.invokevirtual 201, 3) := by decide +kernel
theorem dX9_kindOf_10 : decode cX9_kindOf 10 = .ok (.invokestatic 198, 3) := by decide +kernel
theorem dX9_kindOf_13 : decode cX9_kindOf 13 = .ok (.istore_n 3, 1) := by decide +kernel
theorem dX9_kindOf_14 : decode cX9_kindOf 14 = .ok (.iconst 1, 1) := by decide +kernel
theorem dX9_kindOf_15 : decode cX9_kindOf 15 = .ok (.istore 4, 2) := by decide +kernel
theorem dX9_kindOf_17 : decode cX9_kindOf 17 = .ok (.iconst 1, 1) := by decide +kernel
theorem dX9_kindOf_18 : decode cX9_kindOf 18 = .ok (.istore 5, 2) := by decide +kernel
theorem dX9_kindOf_20 : decode cX9_kindOf 20 = .ok (.iconst 0, 1) := by decide +kernel
theorem dX9_kindOf_21 : decode cX9_kindOf 21 = .ok (.istore 6, 2) := by decide +kernel
theorem dX9_kindOf_23 : decode cX9_kindOf 23 = .ok (.iload 6, 2) := by decide +kernel
theorem dX9_kindOf_25 : decode cX9_kindOf 25 = .ok (.aload_n 0, 1) := by decide +kernel
theorem dX9_kindOf_26 : decode cX9_kindOf 26 = .ok (.getfield 44, 3) := by decide +kernel
theorem dX9_kindOf_29 : decode cX9_kindOf 29 = .ok (.iconst 0, 1) := by decide +kernel
theorem dX9_kindOf_30 : decode cX9_kindOf 30 = .ok (.iaload, 1) := by decide +kernel
theorem dX9_kindOf_31 : decode cX9_kindOf 31 = .ok (.if_icmp .ge 71, 3) := by decide +kernel
theorem dX9_kindOf_34 : decode cX9_kindOf 34 = .ok (.iload 4, 2) := by decide +kernel
theorem dX9_kindOf_36 : decode cX9_kindOf 36 = .ok (.ifCond .eq 26, 3) := by decide +kernel
theorem dX9_kindOf_39 : decode cX9_kindOf 39 = .ok (.iload_n 1, 1) := by decide +kernel
theorem dX9_kindOf_40 : decode cX9_kindOf 40 = .ok (.iload 6, 2) := by decide +kernel
theorem dX9_kindOf_42 : decode cX9_kindOf 42 = .ok (.invokestatic 160, 3) := by decide +kernel
theorem dX9_kindOf_45 : decode cX9_kindOf 45 = .ok (.ifCond .eq 13, 3) := by decide +kernel
theorem dX9_kindOf_48 : decode cX9_kindOf 48 = .ok (.aload_n 0, 1) := by decide +kernel
theorem dX9_kindOf_49 : decode cX9_kindOf 49 = .ok (.iload 6, 2) := by decide +kernel
theorem dX9_kindOf_51 : decode cX9_kindOf 51 = .ok (.invokevirtual 204, 3) := by decide +kernel
theorem dX9_kindOf_54 : decode cX9_kindOf 54 = .ok (.iconst 2, 1) := by decide +kernel
theorem dX9_kindOf_55 : decode cX9_kindOf 55 = .ok (.if_icmp .gt 7, 3) := by decide +kernel
theorem dX9_kindOf_58 : decode cX9_kindOf 58 = .ok (.iconst 1, 1) := by decide +kernel
theorem dX9_kindOf_59 : decode cX9_kindOf 59 = .ok (.goto 4, 3) := by decide +kernel
theorem dX9_kindOf_62 : decode cX9_kindOf 62 = .ok (.iconst 0, 1) := by decide +kernel
theorem dX9_kindOf_63 : decode cX9_kindOf 63 = .ok (.istore 4, 2) := by decide +kernel
theorem dX9_kindOf_65 : decode cX9_kindOf 65 = .ok (.iload 5, 2) := by decide +kernel
theorem dX9_kindOf_67 : decode cX9_kindOf 67 = .ok (.ifCond .eq 26, 3) := by decide +kernel
theorem dX9_kindOf_70 : decode cX9_kindOf 70 = .ok (.iload_n 1, 1) := by decide +kernel
theorem dX9_kindOf_71 : decode cX9_kindOf 71 = .ok (.iload 6, 2) := by decide +kernel
theorem dX9_kindOf_73 : decode cX9_kindOf 73 = .ok (.invokestatic 160, 3) := by decide +kernel
theorem dX9_kindOf_76 : decode cX9_kindOf 76 = .ok (.ifCond .eq 13, 3) := by decide +kernel
theorem dX9_kindOf_79 : decode cX9_kindOf 79 = .ok (.aload_n 0, 1) := by decide +kernel
theorem dX9_kindOf_80 : decode cX9_kindOf 80 = .ok (.iload 6, 2) := by decide +kernel
theorem dX9_kindOf_82 : decode cX9_kindOf 82 = .ok (.invokevirtual 204, 3) := by decide +kernel
theorem dX9_kindOf_85 : decode cX9_kindOf 85 = .ok (.iconst 2, 1) := by decide +kernel
theorem dX9_kindOf_86 : decode cX9_kindOf 86 = .ok (.if_icmp .ne 7, 3) := by decide +kernel
theorem dX9_kindOf_89 : decode cX9_kindOf 89 = .ok (.iconst 1, 1) := by decide +kernel
theorem dX9_kindOf_90 : decode cX9_kindOf 90 = .ok (.goto 4, 3) := by decide +kernel
theorem dX9_kindOf_93 : decode cX9_kindOf 93 = .ok (.iconst 0, 1) := by decide +kernel
theorem dX9_kindOf_94 : decode cX9_kindOf 94 = .ok (.istore 5, 2) := by decide +kernel
theorem dX9_kindOf_96 : decode cX9_kindOf 96 = .ok (.iinc 6 1, 3) := by decide +kernel
theorem dX9_kindOf_99 : decode cX9_kindOf 99 = .ok (.goto (-76), 3) := by decide +kernel
theorem dX9_kindOf_102 : decode cX9_kindOf 102 = .ok (.iload_n 3, 1) := by decide +kernel
theorem dX9_kindOf_103 : decode cX9_kindOf 103 = .ok (.iload_n 2, 1) := by decide +kernel
theorem dX9_kindOf_104 : decode cX9_kindOf 104 = .ok (.iconst 1, 1) := by decide +kernel
theorem dX9_kindOf_105 : decode cX9_kindOf 105 = .ok (.isub, 1) := by decide +kernel
theorem dX9_kindOf_106 : decode cX9_kindOf 106 = .ok (.if_icmp .ne 12, 3) := by decide +kernel
theorem dX9_kindOf_109 : decode cX9_kindOf 109 = .ok (.iload 4, 2) := by decide +kernel
theorem dX9_kindOf_111 : decode cX9_kindOf 111 = .ok (.ifCond .eq 7, 3) := by decide +kernel
theorem dX9_kindOf_114 : decode cX9_kindOf 114 = .ok (.iconst 0, 1) := by decide +kernel
theorem dX9_kindOf_115 : decode cX9_kindOf 115 = .ok (.goto 23, 3) := by decide +kernel
theorem dX9_kindOf_118 : decode cX9_kindOf 118 = .ok (.iload_n 2, 1) := by decide +kernel
theorem dX9_kindOf_119 : decode cX9_kindOf 119 = .ok (.iconst 2, 1) := by decide +kernel
theorem dX9_kindOf_120 : decode cX9_kindOf 120 = .ok (.if_icmp .le 17, 3) := by decide +kernel
theorem dX9_kindOf_123 : decode cX9_kindOf 123 = .ok (.iload_n 3, 1) := by decide +kernel
theorem dX9_kindOf_124 : decode cX9_kindOf 124 = .ok (.iload_n 2, 1) := by decide +kernel
theorem dX9_kindOf_125 : decode cX9_kindOf 125 = .ok (.if_icmp .ne 12, 3) := by decide +kernel
theorem dX9_kindOf_128 : decode cX9_kindOf 128 = .ok (.iload 5, 2) := by decide +kernel
theorem dX9_kindOf_130 : decode cX9_kindOf 130 = .ok (.ifCond .eq 7, 3) := by decide +kernel
theorem dX9_kindOf_133 : decode cX9_kindOf 133 = .ok (.iconst 1, 1) := by decide +kernel
theorem dX9_kindOf_134 : decode cX9_kindOf 134 = .ok (.goto 4, 3) := by decide +kernel
theorem dX9_kindOf_137 : decode cX9_kindOf 137 = .ok (.iconst 2, 1) := by decide +kernel
theorem dX9_kindOf_138 : decode cX9_kindOf 138 = .ok (.ireturn, 1) := by decide +kernel
theorem dX9_net_0 : decode cX9_net 0 = .ok (.aload_n 0, 1) := by decide +kernel
theorem dX9_net_1 : decode cX9_net 1 = .ok (.iload_n 1, 1) := by decide +kernel
theorem dX9_net_2 : decode cX9_net 2 = .ok (.invokevirtual 189, 3) := by decide +kernel
theorem dX9_net_5 : decode cX9_net 5 = .ok (.ifCond .ne 6, 3) := by decide +kernel
theorem dX9_net_8 : decode cX9_net 8 = .ok (.ldc 181, 2) := by decide +kernel
theorem dX9_net_10 : decode cX9_net 10 = .ok (.ireturn, 1) := by decide +kernel
theorem dX9_net_11 : decode cX9_net 11 = .ok (.aload_n 0, 1) := by decide +kernel
theorem dX9_net_12 : decode cX9_net 12 = .ok (.iload_n 1, 1) := by decide +kernel
theorem dX9_net_13 : decode cX9_net 13 = .ok (.invokevirtual 194, 3) := by decide +kernel
theorem dX9_net_16 : decode cX9_net 16 = .ok (.istore_n 3, 1) := by decide +kernel
theorem dX9_net_17 : decode cX9_net 17 = .ok (.aload_n 0, 1) := by decide +kernel
theorem dX9_net_18 : decode cX9_net 18 = .ok (.iload_n 3, 1) := by decide +kernel
theorem dX9_net_19 : decode cX9_net 19 = .ok (.invokevirtual 207, 3) := by decide +kernel
theorem dX9_net_22 : decode cX9_net 22 = .ok (.istore 4, 2) := by decide +kernel
theorem dX9_net_24 : decode cX9_net 24 = .ok (.iload_n 2, 1) := by decide +kernel
theorem dX9_net_25 : decode cX9_net 25 = .ok (.tableswitch 85 0 3 #[31, 33, 39, 42], 31) := by decide +kernel
theorem dX9_net_56 : decode cX9_net 56 = .ok (.iload_n 3, 1) := by decide +kernel
theorem dX9_net_57 : decode cX9_net 57 = .ok (.ireturn, 1) := by decide +kernel
theorem dX9_net_58 : decode cX9_net 58 = .ok (.aload_n 0, 1) := by decide +kernel
theorem dX9_net_59 : decode cX9_net 59 = .ok (.iload_n 3, 1) := by decide +kernel
theorem dX9_net_60 : decode cX9_net 60 = .ok (.invokevirtual 201, 3) := by decide +kernel
theorem dX9_net_63 : decode cX9_net 63 = .ok (.ireturn, 1) := by decide +kernel
theorem dX9_net_64 : decode cX9_net 64 = .ok (.iload 4, 2) := by decide +kernel
theorem dX9_net_66 : decode cX9_net 66 = .ok (.ireturn, 1) := by decide +kernel
theorem dX9_net_67 : decode cX9_net 67 = .ok (.iload 4, 2) := by decide +kernel
theorem dX9_net_69 : decode cX9_net 69 = .ok (.ifCond .ne 14, 3) := by decide +kernel
theorem dX9_net_72 : decode cX9_net 72 = .ok (.iload_n 3, 1) := by decide +kernel
theorem dX9_net_73 : decode cX9_net 73 = .ok (.invokestatic 198, 3) := by decide +kernel
theorem dX9_net_76 : decode cX9_net 76 = .ok (.iconst 1, 1) := by decide +kernel
theorem dX9_net_77 : decode cX9_net 77 = .ok (.iadd, 1) := by decide +kernel
theorem dX9_net_78 : decode cX9_net 78 = .ok (.iconst 2, 1) := by decide +kernel
theorem dX9_net_79 : decode cX9_net 79 = .ok (.idiv, 1) := by decide +kernel
theorem dX9_net_80 : decode cX9_net 80 = .ok (.goto 29, 3) := by decide +kernel
theorem dX9_net_83 : decode cX9_net 83 = .ok (.iload 4, 2) := by decide +kernel
theorem dX9_net_85 : decode cX9_net 85 = .ok (.iconst 1, 1) := by decide +kernel
theorem dX9_net_86 : decode cX9_net 86 = .ok (.if_icmp .ne 10, 3) := by decide +kernel
theorem dX9_net_89 : decode cX9_net 89 = .ok (.iload_n 3, 1) := by decide +kernel
theorem dX9_net_90 : decode cX9_net 90 = .ok (.invokestatic 198, 3) := by decide +kernel
theorem dX9_net_93 : decode cX9_net 93 = .ok (.goto 16, 3) := by decide +kernel
theorem dX9_net_96 : decode cX9_net 96 = .ok (.iload_n 3, 1) := by decide +kernel
theorem dX9_net_97 : decode cX9_net 97 = .ok (.invokestatic 198, 3) := by decide +kernel
theorem dX9_net_100 : decode cX9_net 100 = .ok (.aload_n 0, 1) := by decide +kernel
theorem dX9_net_101 : decode cX9_net 101 = .ok (.iload_n 3, 1) := by decide +kernel
theorem dX9_net_102 : decode cX9_net 102 = .ok (.invokevirtual 201, 3) := by decide +kernel
theorem dX9_net_105 : decode cX9_net 105 = .ok (.invokestatic 198, 3) := by decide +kernel
theorem dX9_net_108 : decode cX9_net 108 = .ok (.iadd, 1) := by decide +kernel
theorem dX9_net_109 : decode cX9_net 109 = .ok (.ireturn, 1) := by decide +kernel
theorem dX9_net_110 : decode cX9_net 110 = .ok (.ldc 75, 2) := by decide +kernel
theorem dX9_net_112 : decode cX9_net 112 = .ok (.ireturn, 1) := by decide +kernel
theorem dX9_canBuy_0 : decode cX9_canBuy 0 = .ok (.aload_n 0, 1) := by decide +kernel
theorem dX9_canBuy_1 : decode cX9_canBuy 1 = .ok (.iload_n 1, 1) := by decide +kernel
theorem dX9_canBuy_2 : decode cX9_canBuy 2 = .ok (.invokevirtual 182, 3) := by decide +kernel
theorem dX9_canBuy_5 : decode cX9_canBuy 5 = .ok (.ifCond .ne 30, 3) := by decide +kernel
theorem dX9_canBuy_8 : decode cX9_canBuy 8 = .ok (.aload_n 0, 1) := by decide +kernel
theorem dX9_canBuy_9 : decode cX9_canBuy 9 = .ok (.getfield 7, 3) := by decide +kernel
theorem dX9_canBuy_12 : decode cX9_canBuy 12 = .ok (.iload_n 1, 1) := by decide +kernel
theorem dX9_canBuy_13 : decode cX9_canBuy 13 = .ok (.iaload, 1) := by decide +kernel
theorem dX9_canBuy_14 : decode cX9_canBuy 14 = .ok (.iload_n 2, 1) := by decide +kernel
theorem dX9_canBuy_15 : decode cX9_canBuy 15 = .ok (.if_icmp .eq 20, 3) := by decide +kernel
theorem dX9_canBuy_18 : decode cX9_canBuy 18 = .ok (.aload_n 0, 1) := by decide +kernel
theorem dX9_canBuy_19 : decode cX9_canBuy 19 = .ok (.getfield 7, 3) := by decide +kernel
theorem dX9_canBuy_22 : decode cX9_canBuy 22 = .ok (.bipush 8, 2) := by decide +kernel
theorem dX9_canBuy_24 : decode cX9_canBuy 24 = .ok (.iload_n 1, 1) := by decide +kernel
theorem dX9_canBuy_25 : decode cX9_canBuy 25 = .ok (.iadd, 1) := by decide +kernel
theorem dX9_canBuy_26 : decode cX9_canBuy 26 = .ok (.iaload, 1) := by decide +kernel
theorem dX9_canBuy_27 : decode cX9_canBuy 27 = .ok (.iload_n 2, 1) := by decide +kernel
theorem dX9_canBuy_28 : decode cX9_canBuy 28 = .ok (.if_icmp .eq 7, 3) := by decide +kernel
theorem dX9_canBuy_31 : decode cX9_canBuy 31 = .ok (.iconst 1, 1) := by decide +kernel
theorem dX9_canBuy_32 : decode cX9_canBuy 32 = .ok (.goto 4, 3) := by decide +kernel
theorem dX9_canBuy_35 : decode cX9_canBuy 35 = .ok (.iconst 0, 1) := by decide +kernel
theorem dX9_canBuy_36 : decode cX9_canBuy 36 = .ok (.ireturn, 1) := by decide +kernel
theorem dX9_sell_0 : decode cX9_sell 0 = .ok (.aload_n 0, 1) := by decide +kernel
theorem dX9_sell_1 : decode cX9_sell 1 = .ok (.iload_n 1, 1) := by decide +kernel
theorem dX9_sell_2 : decode cX9_sell 2 = .ok (.invokevirtual 177, 3) := by decide +kernel
theorem dX9_sell_5 : decode cX9_sell 5 = .ok (.ifCond .eq 11, 3) := by decide +kernel
theorem dX9_sell_8 : decode cX9_sell 8 = .ok (.aload_n 0, 1) := by decide +kernel
theorem dX9_sell_9 : decode cX9_sell 9 = .ok (.iload_n 3, 1) := by decide +kernel
theorem dX9_sell_10 : decode cX9_sell 10 = .ok (.invokevirtual 189, 3) := by decide +kernel
theorem dX9_sell_13 : decode cX9_sell 13 = .ok (.ifCond .ne 6, 3) := by decide +kernel
theorem dX9_sell_16 : decode cX9_sell 16 = .ok (.ldc 181, 2) := by decide +kernel
theorem dX9_sell_18 : decode cX9_sell 18 = .ok (.ireturn, 1) := by decide +kernel
theorem dX9_sell_19 : decode cX9_sell 19 = .ok (.iload_n 2, 1) := by decide +kernel
theorem dX9_sell_20 : decode cX9_sell 20 = .ok (.i2l, 1) := by decide +kernel
theorem dX9_sell_21 : decode cX9_sell 21 = .ok (.lconst 0, 1) := by decide +kernel
theorem dX9_sell_22 : decode cX9_sell 22 = .ok (.lconst 1, 1) := by decide +kernel
theorem dX9_sell_23 : decode cX9_sell 23 = .ok (.invokestatic 71, 3) := by decide +kernel
theorem dX9_sell_26 : decode cX9_sell 26 = .ok (.ifCond .ne 6, 3) := by decide +kernel
theorem dX9_sell_29 : decode cX9_sell 29 = .ok (.ldc 75, 2) := by decide +kernel
theorem dX9_sell_31 : decode cX9_sell 31 = .ok (.ireturn, 1) := by decide +kernel
theorem dX9_sell_32 : decode cX9_sell 32 = .ok (.aload_n 0, 1) := by decide +kernel
theorem dX9_sell_33 : decode cX9_sell 33 = .ok (.iload_n 1, 1) := by decide +kernel
theorem dX9_sell_34 : decode cX9_sell 34 = .ok (.iload_n 3, 1) := by decide +kernel
theorem dX9_sell_35 : decode cX9_sell 35 = .ok (.invokevirtual 210, 3) := by decide +kernel
theorem dX9_sell_38 : decode cX9_sell 38 = .ok (.ifCond .ne 6, 3) := by decide +kernel
theorem dX9_sell_41 : decode cX9_sell 41 = .ok (.ldc 213, 2) := by decide +kernel
theorem dX9_sell_43 : decode cX9_sell 43 = .ok (.ireturn, 1) := by decide +kernel
theorem dX9_sell_44 : decode cX9_sell 44 = .ok (.bipush 8, 2) := by decide +kernel
theorem dX9_sell_46 : decode cX9_sell 46 = .ok (.iload_n 2, 1) := by decide +kernel
theorem dX9_sell_47 : decode cX9_sell 47 = .ok (.imul, 1) := by decide +kernel
theorem dX9_sell_48 : decode cX9_sell 48 = .ok (.iload_n 1, 1) := by decide +kernel
theorem dX9_sell_49 : decode cX9_sell 49 = .ok (.iadd, 1) := by decide +kernel
theorem dX9_sell_50 : decode cX9_sell 50 = .ok (.istore 4, 2) := by decide +kernel
theorem dX9_sell_52 : decode cX9_sell 52 = .ok (.aload_n 0, 1) := by decide +kernel
theorem dX9_sell_53 : decode cX9_sell 53 = .ok (.getfield 7, 3) := by decide +kernel
theorem dX9_sell_56 : decode cX9_sell 56 = .ok (.iload 4, 2) := by decide +kernel
theorem dX9_sell_58 : decode cX9_sell 58 = .ok (.iaload, 1) := by decide +kernel
theorem dX9_sell_59 : decode cX9_sell 59 = .ok (.istore 5, 2) := by decide +kernel
theorem dX9_sell_61 : decode cX9_sell 61 = .ok (.aload_n 0, 1) := by decide +kernel
theorem dX9_sell_62 : decode cX9_sell 62 = .ok (.getfield 7, 3) := by decide +kernel
theorem dX9_sell_65 : decode cX9_sell 65 = .ok (.iload 4, 2) := by decide +kernel
theorem dX9_sell_67 : decode cX9_sell 67 = .ok (.iload_n 3, 1) := by decide +kernel
theorem dX9_sell_68 : decode cX9_sell 68 = .ok (.iastore, 1) := by decide +kernel
theorem dX9_sell_69 : decode cX9_sell 69 = .ok (.iload 5, 2) := by decide +kernel
theorem dX9_sell_71 : decode cX9_sell 71 = .ok (.ireturn, 1) := by decide +kernel
theorem dX9_cut_0 : decode cX9_cut 0 = .ok (.aload_n 0, 1) := by decide +kernel
theorem dX9_cut_1 : decode cX9_cut 1 = .ok (.iload_n 1, 1) := by decide +kernel
theorem dX9_cut_2 : decode cX9_cut 2 = .ok (.invokevirtual 177, 3) := by decide +kernel
theorem dX9_cut_5 : decode cX9_cut 5 = .ok (.ifCond .ne 6, 3) := by decide +kernel
theorem dX9_cut_8 : decode cX9_cut 8 = .ok (.ldc 181, 2) := by decide +kernel
theorem dX9_cut_10 : decode cX9_cut 10 = .ok (.ireturn, 1) := by decide +kernel
theorem dX9_cut_11 : decode cX9_cut 11 = .ok (.aload_n 0, 1) := by decide +kernel
theorem dX9_cut_12 : decode cX9_cut 12 = .ok (.iload_n 1, 1) := by decide +kernel
theorem dX9_cut_13 : decode cX9_cut 13 = .ok (.invokevirtual 182, 3) := by decide +kernel
theorem dX9_cut_16 : decode cX9_cut 16 = .ok (.ifCond .eq 6, 3) := by decide +kernel
theorem dX9_cut_19 : decode cX9_cut 19 = .ok (.ldc 213, 2) := by decide +kernel
theorem dX9_cut_21 : decode cX9_cut 21 = .ok (.ireturn, 1) := by decide +kernel
theorem dX9_cut_22 : decode cX9_cut 22 = .ok (.aload_n 0, 1) := by decide +kernel
theorem dX9_cut_23 : decode cX9_cut 23 = .ok (.getfield 7, 3) := by decide +kernel
theorem dX9_cut_26 : decode cX9_cut 26 = .ok (.bipush 16, 2) := by decide +kernel
theorem dX9_cut_28 : decode cX9_cut 28 = .ok (.dup2, 1) := by decide +kernel
theorem dX9_cut_29 : decode cX9_cut 29 = .ok (.iaload, 1) := by decide +kernel
theorem dX9_cut_30 : decode cX9_cut 30 = .ok (.iconst 1, 1) := by decide +kernel
theorem dX9_cut_31 : decode cX9_cut 31 = .ok (.iload_n 1, 1) := by decide +kernel
theorem dX9_cut_32 : decode cX9_cut 32 = .ok (.ishl, 1) := by decide +kernel
theorem dX9_cut_33 : decode cX9_cut 33 = .ok (.ior, 1) := by decide +kernel
theorem dX9_cut_34 : decode cX9_cut 34 = .ok (.iastore, 1) := by decide +kernel
theorem dX9_cut_35 : decode cX9_cut 35 = .ok (.iconst 1, 1) := by decide +kernel
theorem dX9_cut_36 : decode cX9_cut 36 = .ok (.ireturn, 1) := by decide +kernel
theorem dX9_frost_0 : decode cX9_frost 0 = .ok (.iload_n 1, 1) := by decide +kernel
theorem dX9_frost_1 : decode cX9_frost 1 = .ok (.i2l, 1) := by decide +kernel
theorem dX9_frost_2 : decode cX9_frost 2 = .ok (.lconst 0, 1) := by decide +kernel
theorem dX9_frost_3 : decode cX9_frost 3 = .ok (.ldc2_w 214, 3) := by decide +kernel
theorem dX9_frost_6 : decode cX9_frost 6 = .ok (.invokestatic 71, 3) := by decide +kernel
theorem dX9_frost_9 : decode cX9_frost 9 = .ok (.ifCond .ne 6, 3) := by decide +kernel
theorem dX9_frost_12 : decode cX9_frost 12 = .ok (.ldc 75, 2) := by decide +kernel
theorem dX9_frost_14 : decode cX9_frost 14 = .ok (.ireturn, 1) := by decide +kernel
theorem dX9_frost_15 : decode cX9_frost 15 = .ok (.aload_n 0, 1) := by decide +kernel
theorem dX9_frost_16 : decode cX9_frost 16 = .ok (.getfield 7, 3) := by decide +kernel
theorem dX9_frost_19 : decode cX9_frost 19 = .ok (.bipush 17, 2) := by decide +kernel
theorem dX9_frost_21 : decode cX9_frost 21 = .ok (.iaload, 1) := by decide +kernel
theorem dX9_frost_22 : decode cX9_frost 22 = .ok (.istore_n 2, 1) := by decide +kernel
theorem dX9_frost_23 : decode cX9_frost 23 = .ok (.aload_n 0, 1) := by decide +kernel
theorem dX9_frost_24 : decode cX9_frost 24 = .ok (.getfield 7, 3) := by decide +kernel
theorem dX9_frost_27 : decode cX9_frost 27 = .ok (.bipush 17, 2) := by decide +kernel
theorem dX9_frost_29 : decode cX9_frost 29 = .ok (.iload_n 1, 1) := by decide +kernel
theorem dX9_frost_30 : decode cX9_frost 30 = .ok (.iastore, 1) := by decide +kernel
theorem dX9_frost_31 : decode cX9_frost 31 = .ok (.iload_n 2, 1) := by decide +kernel
theorem dX9_frost_32 : decode cX9_frost 32 = .ok (.ireturn, 1) := by decide +kernel
theorem dX9_saving_0 : decode cX9_saving 0 = .ok (.iload_n 1, 1) := by decide +kernel
theorem dX9_saving_1 : decode cX9_saving 1 = .ok (.aload_n 0, 1) := by decide +kernel
theorem dX9_saving_2 : decode cX9_saving 2 = .ok (.getfield 7, 3) := by decide +kernel
theorem dX9_saving_5 : decode cX9_saving 5 = .ok (.bipush 17, 2) := by decide +kernel
theorem dX9_saving_7 : decode cX9_saving 7 = .ok (.iaload, 1) := by decide +kernel
theorem dX9_saving_8 : decode cX9_saving 8 = .ok (.if_icmp .ge 7, 3) := by decide +kernel
theorem dX9_saving_11 : decode cX9_saving 11 = .ok (.iload_n 1, 1) := by decide +kernel
theorem dX9_saving_12 : decode cX9_saving 12 = .ok (.goto 10, 3) := by decide +kernel
theorem dX9_saving_15 : decode cX9_saving 15 = .ok (.aload_n 0, 1) := by decide +kernel
theorem dX9_saving_16 : decode cX9_saving 16 = .ok (.getfield 7, 3) := by decide +kernel
theorem dX9_saving_19 : decode cX9_saving 19 = .ok (.bipush 17, 2) := by decide +kernel
theorem dX9_saving_21 : decode cX9_saving 21 = .ok (.iaload, 1) := by decide +kernel
theorem dX9_saving_22 : decode cX9_saving 22 = .ok (.ireturn, 1) := by decide +kernel
theorem dX9_cladBy_0 : decode cX9_cladBy 0 = .ok (.aload_n 0, 1) := by decide +kernel
theorem dX9_cladBy_1 : decode cX9_cladBy 1 = .ok (.getfield 7, 3) := by decide +kernel
theorem dX9_cladBy_4 : decode cX9_cladBy 4 = .ok (.iload_n 2, 1) := by decide +kernel
theorem dX9_cladBy_5 : decode cX9_cladBy 5 = .ok (.iaload, 1) := by decide +kernel
theorem dX9_cladBy_6 : decode cX9_cladBy 6 = .ok (.istore 4, 2) := by decide +kernel
theorem dX9_cladBy_8 : decode cX9_cladBy 8 = .ok (.aload_n 0, 1) := by decide +kernel
theorem dX9_cladBy_9 : decode cX9_cladBy 9 = .ok (.getfield 7, 3) := by decide +kernel
theorem dX9_cladBy_12 : decode cX9_cladBy 12 = .ok (.bipush 8, 2) := by decide +kernel
theorem dX9_cladBy_14 : decode cX9_cladBy 14 = .ok (.iload_n 2, 1) := by decide +kernel
theorem dX9_cladBy_15 : decode cX9_cladBy 15 = .ok (.iadd, 1) := by decide +kernel
theorem dX9_cladBy_16 : decode cX9_cladBy 16 = .ok (.iaload, 1) := by decide +kernel
theorem dX9_cladBy_17 : decode cX9_cladBy 17 = .ok (.istore 5, 2) := by decide +kernel
theorem dX9_cladBy_19 : decode cX9_cladBy 19 = .ok (.iload_n 3, 1) := by decide +kernel
theorem dX9_cladBy_20 : decode cX9_cladBy 20 = .ok (.iconst 1, 1) := by decide +kernel
theorem dX9_cladBy_21 : decode cX9_cladBy 21 = .ok (.if_icmp .eq 8, 3) := by decide +kernel
theorem dX9_cladBy_24 : decode cX9_cladBy 24 = .ok (.iload_n 3, 1) := by decide +kernel
theorem dX9_cladBy_25 : decode cX9_cladBy 25 = .ok (.iconst 3, 1) := by decide +kernel
theorem dX9_cladBy_26 : decode cX9_cladBy 26 = .ok (.if_icmp .ne 7, 3) := by decide +kernel
theorem dX9_cladBy_29 : decode cX9_cladBy 29 = .ok (.iconst 1, 1) := by decide +kernel
theorem dX9_cladBy_30 : decode cX9_cladBy 30 = .ok (.goto 4, 3) := by decide +kernel
theorem dX9_cladBy_33 : decode cX9_cladBy 33 = .ok (.iconst 0, 1) := by decide +kernel
theorem dX9_cladBy_34 : decode cX9_cladBy 34 = .ok (.istore 6, 2) := by decide +kernel
theorem dX9_cladBy_36 : decode cX9_cladBy 36 = .ok (.iload_n 3, 1) := by decide +kernel
theorem dX9_cladBy_37 : decode cX9_cladBy 37 = .ok (.iconst 2, 1) := by decide +kernel
theorem dX9_cladBy_38 : decode cX9_cladBy 38 = .ok (.if_icmp .lt 7, 3) := by decide +kernel
theorem dX9_cladBy_41 : decode cX9_cladBy 41 = .ok (.iconst 1, 1) := by decide +kernel
theorem dX9_cladBy_42 : decode cX9_cladBy 42 = .ok (.goto 4, 3) := by decide +kernel
theorem dX9_cladBy_45 : decode cX9_cladBy 45 = .ok (.iconst 0, 1) := by decide +kernel
theorem dX9_cladBy_46 : decode cX9_cladBy 46 = .ok (.istore 7, 2) := by decide +kernel
theorem dX9_cladBy_48 : decode cX9_cladBy 48 = .ok (.iload 6, 2) := by decide +kernel
theorem dX9_cladBy_50 : decode cX9_cladBy 50 = .ok (.ifCond .eq 13, 3) := by decide +kernel
theorem dX9_cladBy_53 : decode cX9_cladBy 53 = .ok (.aload_n 0, 1) := by decide +kernel
theorem dX9_cladBy_54 : decode cX9_cladBy 54 = .ok (.iload 4, 2) := by decide +kernel
theorem dX9_cladBy_56 : decode cX9_cladBy 56 = .ok (.iload_n 1, 1) := by decide +kernel
theorem dX9_cladBy_57 : decode cX9_cladBy 57 = .ok (.invokevirtual 216, 3) := by decide +kernel
theorem dX9_cladBy_60 : decode cX9_cladBy 60 = .ok (.ifCond .eq 48, 3) := by decide +kernel
theorem dX9_cladBy_63 : decode cX9_cladBy 63 = .ok (.iload 7, 2) := by decide +kernel
theorem dX9_cladBy_65 : decode cX9_cladBy 65 = .ok (.ifCond .eq 13, 3) := by decide +kernel
theorem dX9_cladBy_68 : decode cX9_cladBy 68 = .ok (.aload_n 0, 1) := by decide +kernel
theorem dX9_cladBy_69 : decode cX9_cladBy 69 = .ok (.iload 5, 2) := by decide +kernel
theorem dX9_cladBy_71 : decode cX9_cladBy 71 = .ok (.iload_n 1, 1) := by decide +kernel
theorem dX9_cladBy_72 : decode cX9_cladBy 72 = .ok (.invokevirtual 216, 3) := by decide +kernel
theorem dX9_cladBy_75 : decode cX9_cladBy 75 = .ok (.ifCond .eq 33, 3) := by decide +kernel
theorem dX9_cladBy_78 : decode cX9_cladBy 78 = .ok (.iload_n 3, 1) := by decide +kernel
theorem dX9_cladBy_79 : decode cX9_cladBy 79 = .ok (.iconst 3, 1) := by decide +kernel
theorem dX9_cladBy_80 : decode cX9_cladBy 80 = .ok (.if_icmp .ne 30, 3) := by decide +kernel
theorem dX9_cladBy_83 : decode cX9_cladBy 83 = .ok (.aload_n 0, 1) := by decide +kernel
theorem dX9_cladBy_84 : decode cX9_cladBy 84 = .ok (.iload_n 2, 1) := by decide +kernel
theorem dX9_cladBy_85 : decode cX9_cladBy 85 = .ok (.invokevirtual 182, 3) := by decide +kernel
theorem dX9_cladBy_88 : decode cX9_cladBy 88 = .ok (.ifCond .ne 22, 3) := by decide +kernel
theorem dX9_cladBy_91 : decode cX9_cladBy 91 = .ok (.aload_n 0, 1) := by decide +kernel
theorem dX9_cladBy_92 : decode cX9_cladBy 92 = .ok (.iload 4, 2) := by decide +kernel
theorem dX9_cladBy_94 : decode cX9_cladBy 94 = .ok (.iload_n 1, 1) := by decide +kernel
theorem dX9_cladBy_95 : decode cX9_cladBy 95 = .ok (.invokevirtual 168, 3) := by decide +kernel
theorem dX9_cladBy_98 : decode cX9_cladBy 98 = .ok (.aload_n 0, 1) := by decide +kernel
theorem dX9_cladBy_99 : decode cX9_cladBy 99 = .ok (.iload 5, 2) := by decide +kernel
theorem dX9_cladBy_101 : decode cX9_cladBy 101 = .ok (.iload_n 1, 1) := by decide +kernel
theorem dX9_cladBy_102 : decode cX9_cladBy 102 = .ok (.invokevirtual 168, 3) := by decide +kernel
theorem dX9_cladBy_105 : decode cX9_cladBy 105 = .ok (.if_icmp .eq 5, 3) := by decide +kernel
theorem dX9_cladBy_108 : decode cX9_cladBy 108 = .ok (.iconst (-1), 1) := by decide +kernel
theorem dX9_cladBy_109 : decode cX9_cladBy 109 = .ok (.ireturn, 1) := by decide +kernel
theorem dX9_cladBy_110 : decode cX9_cladBy 110 = .ok (.iload 6, 2) := by decide +kernel
theorem dX9_cladBy_112 : decode cX9_cladBy 112 = .ok (.invokestatic 185, 3) := by decide +kernel
theorem dX9_cladBy_115 : decode cX9_cladBy 115 = .ok (.iload 4, 2) := by decide +kernel
theorem dX9_cladBy_117 : decode cX9_cladBy 117 = .ok (.ishl, 1) := by decide +kernel
theorem dX9_cladBy_118 : decode cX9_cladBy 118 = .ok (.iload 7, 2) := by decide +kernel
theorem dX9_cladBy_120 : decode cX9_cladBy 120 = .ok (.invokestatic 185, 3) := by decide +kernel
theorem dX9_cladBy_123 : decode cX9_cladBy 123 = .ok (.iload 5, 2) := by decide +kernel
theorem dX9_cladBy_125 : decode cX9_cladBy 125 = .ok (.ishl, 1) := by decide +kernel
theorem dX9_cladBy_126 : decode cX9_cladBy 126 = .ok (.ior, 1) := by decide +kernel
theorem dX9_cladBy_127 : decode cX9_cladBy 127 = .ok (.ireturn, 1) := by decide +kernel
theorem dX9_savedBy_0 : decode cX9_savedBy 0 = .ok (.aload_n 0, 1) := by decide +kernel
theorem dX9_savedBy_1 : decode cX9_savedBy 1 = .ok (.iload_n 1, 1) := by decide +kernel
theorem dX9_savedBy_2 : decode cX9_savedBy 2 = .ok (.invokevirtual 182, 3) := by decide +kernel
theorem dX9_savedBy_5 : decode cX9_savedBy 5 = .ok (.ifCond .ne 8, 3) := by decide +kernel
theorem dX9_savedBy_8 : decode cX9_savedBy 8 = .ok (.iload_n 2, 1) := by decide +kernel
theorem dX9_savedBy_9 : decode cX9_savedBy 9 = .ok (.iconst 3, 1) := by decide +kernel
theorem dX9_savedBy_10 : decode cX9_savedBy 10 = .ok (.if_icmp .ne 7, 3) := by decide +kernel
theorem dX9_savedBy_13 : decode cX9_savedBy 13 = .ok (.iconst 1, 1) := by decide +kernel
theorem dX9_savedBy_14 : decode cX9_savedBy 14 = .ok (.goto 4, 3) := by decide +kernel
theorem dX9_savedBy_17 : decode cX9_savedBy 17 = .ok (.iconst 0, 1) := by decide +kernel
theorem dX9_savedBy_18 : decode cX9_savedBy 18 = .ok (.istore_n 3, 1) := by decide +kernel
theorem dX9_savedBy_19 : decode cX9_savedBy 19 = .ok (.aload_n 0, 1) := by decide +kernel
theorem dX9_savedBy_20 : decode cX9_savedBy 20 = .ok (.iload_n 3, 1) := by decide +kernel
theorem dX9_savedBy_21 : decode cX9_savedBy 21 = .ok (.ifCond .eq 14, 3) := by decide +kernel
theorem dX9_savedBy_24 : decode cX9_savedBy 24 = .ok (.aload_n 0, 1) := by decide +kernel
theorem dX9_savedBy_25 : decode cX9_savedBy 25 = .ok (.getfield 23, 3) := by decide +kernel
theorem dX9_savedBy_28 : decode cX9_savedBy 28 = .ok (.iload_n 1, 1) := by decide +kernel
theorem dX9_savedBy_29 : decode cX9_savedBy 29 = .ok (.iaload, 1) := by decide +kernel
theorem dX9_savedBy_30 : decode cX9_savedBy 30 = .ok (.iconst 2, 1) := by decide +kernel
theorem dX9_savedBy_31 : decode cX9_savedBy 31 = .ok (.idiv, 1) := by decide +kernel
theorem dX9_savedBy_32 : decode cX9_savedBy 32 = .ok (.goto 9, 3) := by decide +kernel
theorem dX9_savedBy_35 : decode cX9_savedBy 35 = .ok (.aload_n 0, 1) := by decide +kernel
theorem dX9_savedBy_36 : decode cX9_savedBy 36 = .ok (.getfield 23, 3) := by decide +kernel
theorem dX9_savedBy_39 : decode cX9_savedBy 39 = .ok (.iload_n 1, 1) := by decide +kernel
theorem dX9_savedBy_40 : decode cX9_savedBy 40 = .ok (.iaload, 1) := by decide +kernel
theorem dX9_savedBy_41 : decode cX9_savedBy 41 = .ok (.invokevirtual 219, 3) := by decide +kernel
theorem dX9_savedBy_44 : decode cX9_savedBy 44 = .ok (.istore 4, 2) := by decide +kernel
theorem dX9_savedBy_46 : decode cX9_savedBy 46 = .ok (.iload_n 2, 1) := by decide +kernel
theorem dX9_savedBy_47 : decode cX9_savedBy 47 = .ok (.ifCond .ne 7, 3) := by decide +kernel
theorem dX9_savedBy_50 : decode cX9_savedBy 50 = .ok (.iconst 0, 1) := by decide +kernel
theorem dX9_savedBy_51 : decode cX9_savedBy 51 = .ok (.goto 17, 3) := by decide +kernel
theorem dX9_savedBy_54 : decode cX9_savedBy 54 = .ok (.iload_n 2, 1) := by decide +kernel
theorem dX9_savedBy_55 : decode cX9_savedBy 55 = .ok (.iconst 3, 1) := by decide +kernel
theorem dX9_savedBy_56 : decode cX9_savedBy 56 = .ok (.if_icmp .ne 10, 3) := by decide +kernel
theorem dX9_savedBy_59 : decode cX9_savedBy 59 = .ok (.iconst 2, 1) := by decide +kernel
theorem dX9_savedBy_60 : decode cX9_savedBy 60 = .ok (.iload 4, 2) := by decide +kernel
theorem dX9_savedBy_62 : decode cX9_savedBy 62 = .ok (.imul, 1) := by decide +kernel
theorem dX9_savedBy_63 : decode cX9_savedBy 63 = .ok (.goto 5, 3) := by decide +kernel
theorem dX9_savedBy_66 : decode cX9_savedBy 66 = .ok (.iload 4, 2) := by decide +kernel
theorem dX9_savedBy_68 : decode cX9_savedBy 68 = .ok (.ireturn, 1) := by decide +kernel
theorem dX9_findWearing_0 : decode cX9_findWearing 0 = .ok (.iconst 0, 1) := by decide +kernel
theorem dX9_findWearing_1 : decode cX9_findWearing 1 = .ok (.istore_n 2, 1) := by decide +kernel
theorem dX9_findWearing_2 : decode cX9_findWearing 2 = .ok (.iload_n 2, 1) := by decide +kernel
theorem dX9_findWearing_3 : decode cX9_findWearing 3 = .ok (.sipush 256, 3) := by decide +kernel
theorem dX9_findWearing_6 : decode cX9_findWearing 6 = .ok (.if_icmp .ge 27, 3) := by decide +kernel
theorem dX9_findWearing_9 : decode cX9_findWearing 9 = .ok (.aload_n 0, 1) := by decide +kernel
theorem dX9_findWearing_10 : decode cX9_findWearing 10 = .ok (.getfield 54, 3) := by decide +kernel
theorem dX9_findWearing_13 : decode cX9_findWearing 13 = .ok (.sipush 256, 3) := by decide +kernel
theorem dX9_findWearing_16 : decode cX9_findWearing 16 = .ok (.aload_n 0, 1) := by decide +kernel
theorem dX9_findWearing_17 : decode cX9_findWearing 17 = .ok (.getfield 44, 3) := by decide +kernel
theorem dX9_findWearing_20 : decode cX9_findWearing 20 = .ok (.iconst 1, 1) := by decide +kernel
theorem dX9_findWearing_21 : decode cX9_findWearing 21 = .ok (.iaload, 1) := by decide +kernel
theorem dX9_findWearing_22 : decode cX9_findWearing 22 = .ok (.imul, 1) := by decide +kernel
theorem dX9_findWearing_23 : decode cX9_findWearing 23 = .ok (.iload_n 2, 1) := by decide +kernel
theorem dX9_findWearing_24 : decode cX9_findWearing 24 = .ok (.iadd, 1) := by decide +kernel
theorem dX9_findWearing_25 : decode cX9_findWearing 25 = .ok (.iconst 0, 1) := by decide +kernel
theorem dX9_findWearing_26 : decode cX9_findWearing 26 = .ok (.iastore, 1) := by decide +kernel
theorem dX9_findWearing_27 : decode cX9_findWearing 27 = .ok (.iinc 2 1, 3) := by decide +kernel
theorem dX9_findWearing_30 : decode cX9_findWearing 30 = .ok (.goto (-28), 3) := by decide +kernel
theorem dX9_findWearing_33 : decode cX9_findWearing 33 = .ok (.aload_n 0, 1) := by decide +kernel
theorem dX9_findWearing_34 : decode cX9_findWearing 34 = .ok (.getfield 44, 3) := by decide +kernel
theorem dX9_findWearing_37 : decode cX9_findWearing 37 = .ok (.iconst 1, 1) := by decide +kernel
theorem dX9_findWearing_38 : decode cX9_findWearing 38 = .ok (.iaload, 1) := by decide +kernel
theorem dX9_findWearing_39 : decode cX9_findWearing 39 = .ok (.iconst 1, 1) := by decide +kernel
theorem dX9_findWearing_40 : decode cX9_findWearing 40 = .ok (.isub, 1) := by decide +kernel
theorem dX9_findWearing_41 : decode cX9_findWearing 41 = .ok (.istore_n 2, 1) := by decide +kernel
theorem dX9_findWearing_42 : decode cX9_findWearing 42 = .ok (.iload_n 2, 1) := by decide +kernel
theorem dX9_findWearing_43 : decode cX9_findWearing 43 = .ok (.ifCond .lt 121, 3) := by decide +kernel
theorem dX9_findWearing_46 : decode cX9_findWearing 46 = .ok (.iconst 0, 1) := by decide +kernel
theorem dX9_findWearing_47 : decode cX9_findWearing 47 = .ok (.istore_n 3, 1) := by decide +kernel
theorem dX9_findWearing_48 : decode cX9_findWearing 48 = .ok (.iload_n 3, 1) := by decide +kernel
theorem dX9_findWearing_49 : decode cX9_findWearing 49 = .ok (.sipush 256, 3) := by decide +kernel
theorem dX9_findWearing_52 : decode cX9_findWearing 52 = .ok (.if_icmp .ge 106, 3) := by decide +kernel
theorem dX9_findWearing_55 : decode cX9_findWearing 55 = .ok (.iconst 0, 1) := by decide +kernel
theorem dX9_findWearing_56 : decode cX9_findWearing 56 = .ok (.istore 4, 2) := by decide +kernel
theorem dX9_findWearing_58 : decode cX9_findWearing 58 = .ok (.iconst 0, 1) := by decide +kernel
theorem dX9_findWearing_59 : decode cX9_findWearing 59 = .ok (.istore 5, 2) := by decide +kernel
theorem dX9_findWearing_61 : decode cX9_findWearing 61 = .ok (.iload 5, 2) := by decide +kernel
theorem dX9_findWearing_63 : decode cX9_findWearing 63 = .ok (.iconst 4, 1) := by decide +kernel
theorem dX9_findWearing_64 : decode cX9_findWearing 64 = .ok (.if_icmp .ge 74, 3) := by decide +kernel
theorem dX9_findWearing_67 : decode cX9_findWearing 67 = .ok (.aload_n 0, 1) := by decide +kernel
theorem dX9_findWearing_68 : decode cX9_findWearing 68 = .ok (.iload_n 1, 1) := by decide +kernel
theorem dX9_findWearing_69 : decode cX9_findWearing 69 = .ok (.iload_n 2, 1) := by decide +kernel
theorem dX9_findWearing_70 : decode cX9_findWearing 70 = .ok (.iload 5, 2) := by decide +kernel
theorem dX9_findWearing_72 : decode cX9_findWearing 72 = .ok (.invokevirtual 222, 3) := by decide +kernel
theorem dX9_findWearing_75 : decode cX9_findWearing 75 = .ok (.istore 6, 2) := by decide +kernel
theorem dX9_findWearing_77 : decode cX9_findWearing 77 = .ok (.iload 6, 2) := by decide +kernel
theorem dX9_findWearing_79 : decode cX9_findWearing 79 = .ok (.ifCond .lt 53, 3) := by decide +kernel
theorem dX9_findWearing_82 : decode cX9_findWearing 82 = .ok (.iload 6, 2) := by decide +kernel
theorem dX9_findWearing_84 : decode cX9_findWearing 84 = .ok (.iload_n 3, 1) := by decide +kernel
theorem dX9_findWearing_85 : decode cX9_findWearing 85 = .ok (.iand, 1) := by decide +kernel
theorem dX9_findWearing_86 : decode cX9_findWearing 86 = .ok (.ifCond .ne 46, 3) := by decide +kernel
theorem dX9_findWearing_89 : decode cX9_findWearing 89 = .ok (.aload_n 0, 1) := by decide +kernel
theorem dX9_findWearing_90 : decode cX9_findWearing 90 = .ok (.iload_n 2, 1) := by decide +kernel
theorem dX9_findWearing_91 : decode cX9_findWearing 91 = .ok (.iload 5, 2) := by decide +kernel
theorem dX9_findWearing_93 : decode cX9_findWearing 93 = .ok (.invokevirtual 225, 3) := by decide +kernel
theorem dX9_findWearing_96 : decode cX9_findWearing 96 = .ok (.aload_n 0, 1) := by decide +kernel
theorem dX9_findWearing_97 : decode cX9_findWearing 97 = .ok (.getfield 54, 3) := by decide +kernel
theorem dX9_findWearing_100 : decode cX9_findWearing 100 = .ok (.sipush 256, 3) := by decide +kernel
theorem dX9_findWearing_103 : decode cX9_findWearing 103 = .ok (.iload_n 2, 1) := by decide +kernel
theorem dX9_findWearing_104 : decode cX9_findWearing 104 = .ok (.iconst 1, 1) := by decide +kernel
theorem dX9_findWearing_105 : decode cX9_findWearing 105 = .ok (.iadd, 1) := by decide +kernel
theorem dX9_findWearing_106 : decode cX9_findWearing 106 = .ok (.imul, 1) := by decide +kernel
theorem dX9_findWearing_107 : decode cX9_findWearing 107 = .ok (.iload_n 3, 1) := by decide +kernel
theorem dX9_findWearing_108 : decode cX9_findWearing 108 = .ok (.iload 6, 2) := by decide +kernel
theorem dX9_findWearing_110 : decode cX9_findWearing 110 = .ok (.ior, 1) := by decide +kernel
theorem dX9_findWearing_111 : decode cX9_findWearing 111 = .ok (.iadd, 1) := by decide +kernel
theorem dX9_findWearing_112 : decode cX9_findWearing 112 = .ok (.iaload, 1) := by decide +kernel
theorem dX9_findWearing_113 : decode cX9_findWearing 113 = .ok (.iadd, 1) := by decide +kernel
theorem dX9_findWearing_114 : decode cX9_findWearing 114 = .ok (.istore 7, 2) := by decide +kernel
theorem dX9_findWearing_116 : decode cX9_findWearing 116 = .ok (.iload 7, 2) := by decide +kernel
theorem dX9_findWearing_118 : decode cX9_findWearing 118 = .ok (.iload 4, 2) := by decide +kernel
theorem dX9_findWearing_120 : decode cX9_findWearing 120 = .ok (.if_icmp .le 8, 3) := by decide +kernel
theorem dX9_findWearing_123 : decode cX9_findWearing 123 = .ok (.iload 7, 2) := by decide +kernel
theorem dX9_findWearing_125 : decode cX9_findWearing 125 = .ok (.goto 5, 3) := by decide +kernel
theorem dX9_findWearing_128 : decode cX9_findWearing 128 = .ok (.iload 4, 2) := by decide +kernel
theorem dX9_findWearing_130 : decode cX9_findWearing 130 = .ok (.istore 4, 2) := by decide +kernel
theorem dX9_findWearing_132 : decode cX9_findWearing 132 = .ok (.iinc 5 1, 3) := by decide +kernel
theorem dX9_findWearing_135 : decode cX9_findWearing 135 = .ok (.goto (-74), 3) := by decide +kernel
theorem dX9_findWearing_138 : decode cX9_findWearing 138 = .ok (.aload_n 0, 1) := by decide +kernel
theorem dX9_findWearing_139 : decode cX9_findWearing 139 = .ok (.getfield 54, 3) := by decide +kernel
theorem dX9_findWearing_142 : decode cX9_findWearing 142 = .ok (.sipush 256, 3) := by decide +kernel
theorem dX9_findWearing_145 : decode cX9_findWearing 145 = .ok (.iload_n 2, 1) := by decide +kernel
theorem dX9_findWearing_146 : decode cX9_findWearing 146 = .ok (.imul, 1) := by decide +kernel
theorem dX9_findWearing_147 : decode cX9_findWearing 147 = .ok (.iload_n 3, 1) := by decide +kernel
theorem dX9_findWearing_148 : decode cX9_findWearing 148 = .ok (.iadd, 1) := by decide +kernel
theorem dX9_findWearing_149 : decode cX9_findWearing 149 = .ok (.iload 4, 2) := by decide +kernel
theorem dX9_findWearing_151 : decode cX9_findWearing 151 = .ok (.iastore, 1) := by decide +kernel
theorem dX9_findWearing_152 : decode cX9_findWearing 152 = .ok (.iinc 3 1, 3) := by decide +kernel
theorem dX9_findWearing_155 : decode cX9_findWearing 155 = .ok (.goto (-107), 3) := by decide +kernel
theorem dX9_findWearing_158 : decode cX9_findWearing 158 = .ok (.iinc 2 (-1), 3) := by decide +kernel
theorem dX9_findWearing_161 : decode cX9_findWearing 161 = .ok (.goto (-119), 3) := by decide +kernel
theorem dX9_findWearing_164 : decode cX9_findWearing 164 = .ok (.return_, 1) := by decide +kernel
theorem dX9_outMany_0 : decode cX9_outMany 0 = .ok (.iconst 0, 1) := by decide +kernel
theorem dX9_outMany_1 : decode cX9_outMany 1 = .ok (.istore_n 2, 1) := by decide +kernel
theorem dX9_outMany_2 : decode cX9_outMany 2 = .ok (.iconst 0, 1) := by decide +kernel
theorem dX9_outMany_3 : decode cX9_outMany 3 = .ok (.istore_n 3, 1) := by decide +kernel
theorem dX9_outMany_4 : decode cX9_outMany 4 = .ok (.iload_n 3, 1) := by decide +kernel
theorem dX9_outMany_5 : decode cX9_outMany 5 = .ok (.aload_n 0, 1) := by decide +kernel
theorem dX9_outMany_6 : decode cX9_outMany 6 = .ok (.getfield 44, 3) := by decide +kernel
theorem dX9_outMany_9 : decode cX9_outMany 9 = .ok (.iconst 0, 1) := by decide +kernel
theorem dX9_outMany_10 : decode cX9_outMany 10 = .ok (.iaload, 1) := by decide +kernel
theorem dX9_outMany_11 : decode cX9_outMany 11 = .ok (.if_icmp .ge 21, 3) := by decide +kernel
theorem dX9_outMany_14 : decode cX9_outMany 14 = .ok (.iload_n 2, 1) := by decide +kernel
theorem dX9_outMany_15 : decode cX9_outMany 15 = .ok (.aload_n 0, 1) := by decide +kernel
theorem dX9_outMany_16 : decode cX9_outMany 16 = .ok (.iload_n 3, 1) := by decide +kernel
theorem dX9_outMany_17 : decode cX9_outMany 17 = .ok (.iload_n 1, 1) := by decide +kernel
theorem dX9_outMany_18 : decode cX9_outMany 18 = .ok (.invokevirtual 216, 3) := by decide +kernel
theorem dX9_outMany_21 : decode cX9_outMany 21 = .ok (.invokestatic 185, 3) := by decide +kernel
theorem dX9_outMany_24 : decode cX9_outMany 24 = .ok (.iadd, 1) := by decide +kernel
theorem dX9_outMany_25 : decode cX9_outMany 25 = .ok (.istore_n 2, 1) := by decide +kernel
theorem dX9_outMany_26 : decode cX9_outMany 26 = .ok (.iinc 3 1, 3) := by decide +kernel
theorem dX9_outMany_29 : decode cX9_outMany 29 = .ok (.goto (-25), 3) := by decide +kernel
theorem dX9_outMany_32 : decode cX9_outMany 32 = .ok (.iload_n 2, 1) := by decide +kernel
theorem dX9_outMany_33 : decode cX9_outMany 33 = .ok (.ireturn, 1) := by decide +kernel
theorem dX9_hourChill_0 : decode cX9_hourChill 0 = .ok (.aload_n 0, 1) := by decide +kernel
theorem dX9_hourChill_1 : decode cX9_hourChill 1 = .ok (.iload_n 1, 1) := by decide +kernel
theorem dX9_hourChill_2 : decode cX9_hourChill 2 = .ok (.invokevirtual 228, 3) := by decide +kernel
theorem dX9_hourChill_5 : decode cX9_hourChill 5 = .ok (.ifCond .ne 5, 3) := by decide +kernel
theorem dX9_hourChill_8 : decode cX9_hourChill 8 = .ok (.iconst 0, 1) := by decide +kernel
theorem dX9_hourChill_9 : decode cX9_hourChill 9 = .ok (.ireturn, 1) := by decide +kernel
theorem dX9_hourChill_10 : decode cX9_hourChill 10 = .ok (.aload_n 0, 1) := by decide +kernel
theorem dX9_hourChill_11 : decode cX9_hourChill 11 = .ok (.iload_n 1, 1) := by decide +kernel
theorem dX9_hourChill_12 : decode cX9_hourChill 12 = .ok (.invokevirtual 231, 3) := by decide +kernel
theorem dX9_hourChill_15 : decode cX9_hourChill 15 = .ok (.aload_n 0, 1) := by decide +kernel
theorem dX9_hourChill_16 : decode cX9_hourChill 16 = .ok (.iload_n 1, 1) := by decide +kernel
theorem dX9_hourChill_17 : decode cX9_hourChill 17 = .ok (.invokevirtual 228, 3) := by decide +kernel
theorem dX9_hourChill_20 : decode cX9_hourChill 20 = .ok (.aload_n 0, 1) := by decide +kernel
theorem dX9_hourChill_21 : decode cX9_hourChill 21 = .ok (.getfield 7, 3) := by decide +kernel
theorem dX9_hourChill_24 : decode cX9_hourChill 24 = .ok (.bipush 17, 2) := by decide +kernel
theorem dX9_hourChill_26 : decode cX9_hourChill 26 = .ok (.iaload, 1) := by decide +kernel
theorem dX9_hourChill_27 : decode cX9_hourChill 27 = .ok (.imul, 1) := by decide +kernel
theorem dX9_hourChill_28 : decode cX9_hourChill 28 = .ok (.aload_n 0, 1) := by decide +kernel
theorem dX9_hourChill_29 : decode cX9_hourChill 29 = .ok (.getfield 54, 3) := by decide +kernel
theorem dX9_hourChill_32 : decode cX9_hourChill 32 = .ok (.iconst 0, 1) := by decide +kernel
theorem dX9_hourChill_33 : decode cX9_hourChill 33 = .ok (.iaload, 1) := by decide +kernel
theorem dX9_hourChill_34 : decode cX9_hourChill 34 = .ok (.isub, 1) := by decide +kernel
theorem dX9_hourChill_35 : decode cX9_hourChill 35 = .ok (.ireturn, 1) := by decide +kernel
theorem dX9_dayChill_0 : decode cX9_dayChill 0 = .ok (.iconst 0, 1) := by decide +kernel
theorem dX9_dayChill_1 : decode cX9_dayChill 1 = .ok (.istore_n 1, 1) := by decide +kernel
theorem dX9_dayChill_2 : decode cX9_dayChill 2 = .ok (.iconst 0, 1) := by decide +kernel
theorem dX9_dayChill_3 : decode cX9_dayChill 3 = .ok (.istore_n 2, 1) := by decide +kernel
theorem dX9_dayChill_4 : decode cX9_dayChill 4 = .ok (.iload_n 2, 1) := by decide +kernel
theorem dX9_dayChill_5 : decode cX9_dayChill 5 = .ok (.bipush 24, 2) := by decide +kernel
theorem dX9_dayChill_7 : decode cX9_dayChill 7 = .ok (.if_icmp .ge 17, 3) := by decide +kernel
theorem dX9_dayChill_10 : decode cX9_dayChill 10 = .ok (.iload_n 1, 1) := by decide +kernel
theorem dX9_dayChill_11 : decode cX9_dayChill 11 = .ok (.aload_n 0, 1) := by decide +kernel
theorem dX9_dayChill_12 : decode cX9_dayChill 12 = .ok (.iload_n 2, 1) := by decide +kernel
theorem dX9_dayChill_13 : decode cX9_dayChill 13 = .ok (.invokevirtual 235, 3) := by decide +kernel
theorem dX9_dayChill_16 : decode cX9_dayChill 16 = .ok (.iadd, 1) := by decide +kernel
theorem dX9_dayChill_17 : decode cX9_dayChill 17 = .ok (.istore_n 1, 1) := by decide +kernel
theorem dX9_dayChill_18 : decode cX9_dayChill 18 = .ok (.iinc 2 1, 3) := by decide +kernel
theorem dX9_dayChill_21 : decode cX9_dayChill 21 = .ok (.goto (-17), 3) := by decide +kernel
theorem dX9_dayChill_24 : decode cX9_dayChill 24 = .ok (.iload_n 1, 1) := by decide +kernel
theorem dX9_dayChill_25 : decode cX9_dayChill 25 = .ok (.ireturn, 1) := by decide +kernel
theorem dX9_chooseWearing_0 : decode cX9_chooseWearing 0 = .ok (.aload_n 0, 1) := by decide +kernel
theorem dX9_chooseWearing_1 : decode cX9_chooseWearing 1 = .ok (.iload_n 1, 1) := by decide +kernel
theorem dX9_chooseWearing_2 : decode cX9_chooseWearing 2 = .ok (.invokevirtual 231, 3) := by decide +kernel
theorem dX9_chooseWearing_5 : decode cX9_chooseWearing 5 = .ok (.iconst 0, 1) := by decide +kernel
theorem dX9_chooseWearing_6 : decode cX9_chooseWearing 6 = .ok (.istore_n 2, 1) := by decide +kernel
theorem dX9_chooseWearing_7 : decode cX9_chooseWearing 7 = .ok (.iconst 0, 1) := by decide +kernel
theorem dX9_chooseWearing_8 : decode cX9_chooseWearing 8 = .ok (.istore_n 3, 1) := by decide +kernel
theorem dX9_chooseWearing_9 : decode cX9_chooseWearing 9 = .ok (.iload_n 3, 1) := by decide +kernel
theorem dX9_chooseWearing_10 : decode cX9_chooseWearing 10 = .ok (.aload_n 0, 1) := by decide +kernel
theorem dX9_chooseWearing_11 : decode cX9_chooseWearing 11 = .ok (.getfield 44, 3) := by decide +kernel
theorem dX9_chooseWearing_14 : decode cX9_chooseWearing 14 = .ok (.iconst 1, 1) := by decide +kernel
theorem dX9_chooseWearing_15 : decode cX9_chooseWearing 15 = .ok (.iaload, 1) := by decide +kernel
theorem dX9_chooseWearing_16 : decode cX9_chooseWearing 16 = .ok (.if_icmp .ge 132, 3) := by decide +kernel
theorem dX9_chooseWearing_19 : decode cX9_chooseWearing 19 = .ok (.iconst 0, 1) := by decide +kernel
theorem dX9_chooseWearing_20 : decode cX9_chooseWearing 20 = .ok (.istore 4, 2) := by decide +kernel
theorem dX9_chooseWearing_22 : decode cX9_chooseWearing 22 = .ok (.iconst 0, 1) := by decide +kernel
theorem dX9_chooseWearing_23 : decode cX9_chooseWearing 23 = .ok (.istore 5, 2) := by decide +kernel
theorem dX9_chooseWearing_25 : decode cX9_chooseWearing 25 = .ok (.iload 5, 2) := by decide +kernel
theorem dX9_chooseWearing_27 : decode cX9_chooseWearing 27 = .ok (.ifCond .ne 107, 3) := by decide +kernel
theorem dX9_chooseWearing_30 : decode cX9_chooseWearing 30 = .ok (.aload_n 0, 1) := by decide +kernel
theorem dX9_chooseWearing_31 : decode cX9_chooseWearing 31 = .ok (.iload_n 1, 1) := by decide +kernel
theorem dX9_chooseWearing_32 : decode cX9_chooseWearing 32 = .ok (.iload_n 3, 1) := by decide +kernel
theorem dX9_chooseWearing_33 : decode cX9_chooseWearing 33 = .ok (.iload 4, 2) := by decide +kernel
theorem dX9_chooseWearing_35 : decode cX9_chooseWearing 35 = .ok (.invokevirtual 222, 3) := by decide +kernel
theorem dX9_chooseWearing_38 : decode cX9_chooseWearing 38 = .ok (.istore 6, 2) := by decide +kernel
theorem dX9_chooseWearing_40 : decode cX9_chooseWearing 40 = .ok (.iload 6, 2) := by decide +kernel
theorem dX9_chooseWearing_42 : decode cX9_chooseWearing 42 = .ok (.ifCond .lt 54, 3) := by decide +kernel
theorem dX9_chooseWearing_45 : decode cX9_chooseWearing 45 = .ok (.iload 6, 2) := by decide +kernel
theorem dX9_chooseWearing_47 : decode cX9_chooseWearing 47 = .ok (.iload_n 2, 1) := by decide +kernel
theorem dX9_chooseWearing_48 : decode cX9_chooseWearing 48 = .ok (.iand, 1) := by decide +kernel
theorem dX9_chooseWearing_49 : decode cX9_chooseWearing 49 = .ok (.ifCond .ne 47, 3) := by decide +kernel
theorem dX9_chooseWearing_52 : decode cX9_chooseWearing 52 = .ok (.aload_n 0, 1) := by decide +kernel
theorem dX9_chooseWearing_53 : decode cX9_chooseWearing 53 = .ok (.iload_n 3, 1) := by decide +kernel
theorem dX9_chooseWearing_54 : decode cX9_chooseWearing 54 = .ok (.iload 4, 2) := by decide +kernel
theorem dX9_chooseWearing_56 : decode cX9_chooseWearing 56 = .ok (.invokevirtual 225, 3) := by decide +kernel
theorem dX9_chooseWearing_59 : decode cX9_chooseWearing 59 = .ok (.aload_n 0, 1) := by decide +kernel
theorem dX9_chooseWearing_60 : decode cX9_chooseWearing 60 = .ok (.getfield 54, 3) := by decide +kernel
theorem dX9_chooseWearing_63 : decode cX9_chooseWearing 63 = .ok (.sipush 256, 3) := by decide +kernel
theorem dX9_chooseWearing_66 : decode cX9_chooseWearing 66 = .ok (.iload_n 3, 1) := by decide +kernel
theorem dX9_chooseWearing_67 : decode cX9_chooseWearing 67 = .ok (.iconst 1, 1) := by decide +kernel
theorem dX9_chooseWearing_68 : decode cX9_chooseWearing 68 = .ok (.iadd, 1) := by decide +kernel
theorem dX9_chooseWearing_69 : decode cX9_chooseWearing 69 = .ok (.imul, 1) := by decide +kernel
theorem dX9_chooseWearing_70 : decode cX9_chooseWearing 70 = .ok (.iload_n 2, 1) := by decide +kernel
theorem dX9_chooseWearing_71 : decode cX9_chooseWearing 71 = .ok (.iload 6, 2) := by decide +kernel
theorem dX9_chooseWearing_73 : decode cX9_chooseWearing 73 = .ok (.ior, 1) := by decide +kernel
theorem dX9_chooseWearing_74 : decode cX9_chooseWearing 74 = .ok (.iadd, 1) := by decide +kernel
theorem dX9_chooseWearing_75 : decode cX9_chooseWearing 75 = .ok (.iaload, 1) := by decide +kernel
theorem dX9_chooseWearing_76 : decode cX9_chooseWearing 76 = .ok (.iadd, 1) := by decide +kernel
theorem dX9_chooseWearing_77 : decode cX9_chooseWearing 77 = .ok (.aload_n 0, 1) := by decide +kernel
theorem dX9_chooseWearing_78 : decode cX9_chooseWearing 78 = .ok (.getfield 54, 3) := by decide +kernel
theorem dX9_chooseWearing_81 : decode cX9_chooseWearing 81 = .ok (.sipush 256, 3) := by decide +kernel
theorem dX9_chooseWearing_84 : decode cX9_chooseWearing 84 = .ok (.iload_n 3, 1) := by decide +kernel
theorem dX9_chooseWearing_85 : decode cX9_chooseWearing 85 = .ok (.imul, 1) := by decide +kernel
theorem dX9_chooseWearing_86 : decode cX9_chooseWearing 86 = .ok (.iload_n 2, 1) := by decide +kernel
theorem dX9_chooseWearing_87 : decode cX9_chooseWearing 87 = .ok (.iadd, 1) := by decide +kernel
theorem dX9_chooseWearing_88 : decode cX9_chooseWearing 88 = .ok (.iaload, 1) := by decide +kernel
theorem dX9_chooseWearing_89 : decode cX9_chooseWearing 89 = .ok (.if_icmp .ne 7, 3) := by decide +kernel
theorem dX9_chooseWearing_92 : decode cX9_chooseWearing 92 = .ok (.iconst 1, 1) := by decide +kernel
theorem dX9_chooseWearing_93 : decode cX9_chooseWearing 93 = .ok (.goto 4, 3) := by decide +kernel
theorem dX9_chooseWearing_96 : decode cX9_chooseWearing 96 = .ok (.iconst 0, 1) := by decide +kernel
theorem dX9_chooseWearing_97 : decode cX9_chooseWearing 97 = .ok (.istore 5, 2) := by decide +kernel
theorem dX9_chooseWearing_99 : decode cX9_chooseWearing 99 = .ok (.iload_n 2, 1) := by decide +kernel
theorem dX9_chooseWearing_100 : decode cX9_chooseWearing 100 = .ok (.iload 5, 2) := by decide +kernel
theorem dX9_chooseWearing_102 : decode cX9_chooseWearing 102 = .ok (.ifCond .eq 8, 3) := by decide +kernel
theorem dX9_chooseWearing_105 : decode cX9_chooseWearing 105 = .ok (.iload 6, 2) := by decide +kernel
theorem dX9_chooseWearing_107 : decode cX9_chooseWearing 107 = .ok (.goto 4, 3) := by decide +kernel
theorem dX9_chooseWearing_110 : decode cX9_chooseWearing 110 = .ok (.iconst 0, 1) := by decide +kernel
theorem dX9_chooseWearing_111 : decode cX9_chooseWearing 111 = .ok (.ior, 1) := by decide +kernel
theorem dX9_chooseWearing_112 : decode cX9_chooseWearing 112 = .ok (.istore_n 2, 1) := by decide +kernel
theorem dX9_chooseWearing_113 : decode cX9_chooseWearing 113 = .ok (.iload 4, 2) := by decide +kernel
theorem dX9_chooseWearing_115 : decode cX9_chooseWearing 115 = .ok (.iload 5, 2) := by decide +kernel
theorem dX9_chooseWearing_117 : decode cX9_chooseWearing 117 = .ok (.ifCond .ne 7, 3) := by decide +kernel
theorem dX9_chooseWearing_120 : decode cX9_chooseWearing 120 = .ok (.iconst 1, 1) := by decide +kernel
theorem dX9_chooseWearing_121 : decode cX9_chooseWearing 121 = .ok (.goto 4, 3) := by decide +kernel
theorem dX9_chooseWearing_124 : decode cX9_chooseWearing 124 = .ok (.iconst 0, 1) := by decide +kernel
theorem dX9_chooseWearing_125 : decode cX9_chooseWearing 125 = .ok (.invokestatic 185, 3) := by decide +kernel
theorem dX9_chooseWearing_128 : decode cX9_chooseWearing 128 = .ok (.iadd, 1) := by decide +kernel
theorem dX9_chooseWearing_129 : decode cX9_chooseWearing 129 = .ok (.istore 4, 2) := by decide +kernel
theorem dX9_chooseWearing_131 : decode cX9_chooseWearing 131 = .ok (.goto (-106), 3) := by decide +kernel
theorem dX9_chooseWearing_134 : decode cX9_chooseWearing 134 = .ok (.aload_n 0, 1) := by decide +kernel
theorem dX9_chooseWearing_135 : decode cX9_chooseWearing 135 = .ok (.getfield 57, 3) := by decide +kernel
theorem dX9_chooseWearing_138 : decode cX9_chooseWearing 138 = .ok (.iload_n 3, 1) := by decide +kernel
theorem dX9_chooseWearing_139 : decode cX9_chooseWearing 139 = .ok (.iload 4, 2) := by decide +kernel
theorem dX9_chooseWearing_141 : decode cX9_chooseWearing 141 = .ok (.iastore, 1) := by decide +kernel
theorem dX9_chooseWearing_142 : decode cX9_chooseWearing 142 = .ok (.iinc 3 1, 3) := by decide +kernel
theorem dX9_chooseWearing_145 : decode cX9_chooseWearing 145 = .ok (.goto (-136), 3) := by decide +kernel
theorem dX9_chooseWearing_148 : decode cX9_chooseWearing 148 = .ok (.return_, 1) := by decide +kernel
theorem dX9_worn_0 : decode cX9_worn 0 = .ok (.iload_n 2, 1) := by decide +kernel
theorem dX9_worn_1 : decode cX9_worn 1 = .ok (.iconst (-1), 1) := by decide +kernel
theorem dX9_worn_2 : decode cX9_worn 2 = .ok (.if_icmp .eq 14, 3) := by decide +kernel
theorem dX9_worn_5 : decode cX9_worn 5 = .ok (.aload_n 0, 1) := by decide +kernel
theorem dX9_worn_6 : decode cX9_worn 6 = .ok (.iload_n 2, 1) := by decide +kernel
theorem dX9_worn_7 : decode cX9_worn 7 = .ok (.invokevirtual 177, 3) := by decide +kernel
theorem dX9_worn_10 : decode cX9_worn 10 = .ok (.ifCond .ne 6, 3) := by decide +kernel
theorem dX9_worn_13 : decode cX9_worn 13 = .ok (.ldc 181, 2) := by decide +kernel
theorem dX9_worn_15 : decode cX9_worn 15 = .ok (.ireturn, 1) := by decide +kernel
theorem dX9_worn_16 : decode cX9_worn 16 = .ok (.iload_n 1, 1) := by decide +kernel
theorem dX9_worn_17 : decode cX9_worn 17 = .ok (.i2l, 1) := by decide +kernel
theorem dX9_worn_18 : decode cX9_worn 18 = .ok (.lconst 0, 1) := by decide +kernel
theorem dX9_worn_19 : decode cX9_worn 19 = .ok (.ldc2_w 192, 3) := by decide +kernel
theorem dX9_worn_22 : decode cX9_worn 22 = .ok (.invokestatic 71, 3) := by decide +kernel
theorem dX9_worn_25 : decode cX9_worn 25 = .ok (.ifCond .ne 6, 3) := by decide +kernel
theorem dX9_worn_28 : decode cX9_worn 28 = .ok (.ldc 75, 2) := by decide +kernel
theorem dX9_worn_30 : decode cX9_worn 30 = .ok (.ireturn, 1) := by decide +kernel
theorem dX9_worn_31 : decode cX9_worn 31 = .ok (.iload_n 2, 1) := by decide +kernel
theorem dX9_worn_32 : decode cX9_worn 32 = .ok (.ifCond .ge 9, 3) := by decide +kernel
theorem dX9_worn_35 : decode cX9_worn 35 = .ok (.aload_n 0, 1) := by decide +kernel
theorem dX9_worn_36 : decode cX9_worn 36 = .ok (.iload_n 1, 1) := by decide +kernel
theorem dX9_worn_37 : decode cX9_worn 37 = .ok (.invokevirtual 235, 3) := by decide +kernel
theorem dX9_worn_40 : decode cX9_worn 40 = .ok (.ireturn, 1) := by decide +kernel
theorem dX9_worn_41 : decode cX9_worn 41 = .ok (.aload_n 0, 1) := by decide +kernel
theorem dX9_worn_42 : decode cX9_worn 42 = .ok (.iload_n 1, 1) := by decide +kernel
theorem dX9_worn_43 : decode cX9_worn 43 = .ok (.invokevirtual 238, 3) := by decide +kernel
theorem dX9_worn_46 : decode cX9_worn 46 = .ok (.aload_n 0, 1) := by decide +kernel
theorem dX9_worn_47 : decode cX9_worn 47 = .ok (.getfield 57, 3) := by decide +kernel
theorem dX9_worn_50 : decode cX9_worn 50 = .ok (.iload_n 2, 1) := by decide +kernel
theorem dX9_worn_51 : decode cX9_worn 51 = .ok (.iaload, 1) := by decide +kernel
theorem dX9_worn_52 : decode cX9_worn 52 = .ok (.ireturn, 1) := by decide +kernel
theorem dX9_chill_0 : decode cX9_chill 0 = .ok (.aload_n 0, 1) := by decide +kernel
theorem dX9_chill_1 : decode cX9_chill 1 = .ok (.iload_n 1, 1) := by decide +kernel
theorem dX9_chill_2 : decode cX9_chill 2 = .ok (.invokevirtual 189, 3) := by decide +kernel
theorem dX9_chill_5 : decode cX9_chill 5 = .ok (.ifCond .ne 6, 3) := by decide +kernel
theorem dX9_chill_8 : decode cX9_chill 8 = .ok (.ldc 181, 2) := by decide +kernel
theorem dX9_chill_10 : decode cX9_chill 10 = .ok (.ireturn, 1) := by decide +kernel
theorem dX9_chill_11 : decode cX9_chill 11 = .ok (.iload_n 2, 1) := by decide +kernel
theorem dX9_chill_12 : decode cX9_chill 12 = .ok (.i2l, 1) := by decide +kernel
theorem dX9_chill_13 : decode cX9_chill 13 = .ok (.lconst 0, 1) := by decide +kernel
theorem dX9_chill_14 : decode cX9_chill 14 = .ok (.ldc2_w 192, 3) := by decide +kernel
theorem dX9_chill_17 : decode cX9_chill 17 = .ok (.invokestatic 71, 3) := by decide +kernel
theorem dX9_chill_20 : decode cX9_chill 20 = .ok (.ifCond .ne 6, 3) := by decide +kernel
theorem dX9_chill_23 : decode cX9_chill 23 = .ok (.ldc 75, 2) := by decide +kernel
theorem dX9_chill_25 : decode cX9_chill 25 = .ok (.ireturn, 1) := by decide +kernel
theorem dX9_chill_26 : decode cX9_chill 26 = .ok (.aload_n 0, 1) := by decide +kernel
theorem dX9_chill_27 : decode cX9_chill 27 = .ok (.iload_n 1, 1) := by decide +kernel
theorem dX9_chill_28 : decode cX9_chill 28 = .ok (.iload_n 2, 1) := by decide +kernel
theorem dX9_chill_29 : decode cX9_chill 29 = .ok (.invokevirtual 216, 3) := by decide +kernel
theorem dX9_chill_32 : decode cX9_chill 32 = .ok (.ifCond .ne 5, 3) := by decide +kernel
theorem dX9_chill_35 : decode cX9_chill 35 = .ok (.iconst 0, 1) := by decide +kernel
theorem dX9_chill_36 : decode cX9_chill 36 = .ok (.ireturn, 1) := by decide +kernel
theorem dX9_chill_37 : decode cX9_chill 37 = .ok (.aload_n 0, 1) := by decide +kernel
theorem dX9_chill_38 : decode cX9_chill 38 = .ok (.iload_n 2, 1) := by decide +kernel
theorem dX9_chill_39 : decode cX9_chill 39 = .ok (.invokevirtual 238, 3) := by decide +kernel
theorem dX9_chill_42 : decode cX9_chill 42 = .ok (.aload_n 0, 1) := by decide +kernel
theorem dX9_chill_43 : decode cX9_chill 43 = .ok (.getfield 7, 3) := by decide +kernel
theorem dX9_chill_46 : decode cX9_chill 46 = .ok (.bipush 17, 2) := by decide +kernel
theorem dX9_chill_48 : decode cX9_chill 48 = .ok (.iaload, 1) := by decide +kernel
theorem dX9_chill_49 : decode cX9_chill 49 = .ok (.istore_n 3, 1) := by decide +kernel
theorem dX9_chill_50 : decode cX9_chill 50 = .ok (.iconst 0, 1) := by decide +kernel
theorem dX9_chill_51 : decode cX9_chill 51 = .ok (.istore 4, 2) := by decide +kernel
theorem dX9_chill_53 : decode cX9_chill 53 = .ok (.iload 4, 2) := by decide +kernel
theorem dX9_chill_55 : decode cX9_chill 55 = .ok (.aload_n 0, 1) := by decide +kernel
theorem dX9_chill_56 : decode cX9_chill 56 = .ok (.getfield 44, 3) := by decide +kernel
theorem dX9_chill_59 : decode cX9_chill 59 = .ok (.iconst 1, 1) := by decide +kernel
theorem dX9_chill_60 : decode cX9_chill 60 = .ok (.iaload, 1) := by decide +kernel
theorem dX9_chill_61 : decode cX9_chill 61 = .ok (.if_icmp .ge 141, 3) := by decide +kernel
theorem dX9_chill_64 : decode cX9_chill 64 = .ok (.aload_n 0, 1) := by decide +kernel
theorem dX9_chill_65 : decode cX9_chill 65 = .ok (.getfield 7, 3) := by decide +kernel
theorem dX9_chill_68 : decode cX9_chill 68 = .ok (.iload 4, 2) := by decide +kernel
theorem dX9_chill_70 : decode cX9_chill 70 = .ok (.iaload, 1) := by decide +kernel
theorem dX9_chill_71 : decode cX9_chill 71 = .ok (.iload_n 1, 1) := by decide +kernel
theorem dX9_chill_72 : decode cX9_chill 72 = .ok (.if_icmp .ne 25, 3) := by decide +kernel
theorem dX9_chill_75 : decode cX9_chill 75 = .ok (.aload_n 0, 1) := by decide +kernel
theorem dX9_chill_76 : decode cX9_chill 76 = .ok (.getfield 57, 3) := by decide +kernel
theorem dX9_chill_79 : decode cX9_chill 79 = .ok (.iload 4, 2) := by decide +kernel
theorem dX9_chill_81 : decode cX9_chill 81 = .ok (.iaload, 1) := by decide +kernel
theorem dX9_chill_82 : decode cX9_chill 82 = .ok (.iconst 1, 1) := by decide +kernel
theorem dX9_chill_83 : decode cX9_chill 83 = .ok (.if_icmp .eq 39, 3) := by decide +kernel
theorem dX9_chill_86 : decode cX9_chill 86 = .ok (.aload_n 0, 1) := by decide +kernel
theorem dX9_chill_87 : decode cX9_chill 87 = .ok (.getfield 57, 3) := by decide +kernel
theorem dX9_chill_90 : decode cX9_chill 90 = .ok (.iload 4, 2) := by decide +kernel
theorem dX9_chill_92 : decode cX9_chill 92 = .ok (.iaload, 1) := by decide +kernel
theorem dX9_chill_93 : decode cX9_chill 93 = .ok (.iconst 3, 1) := by decide +kernel
theorem dX9_chill_94 : decode cX9_chill 94 = .ok (.if_icmp .eq 28, 3) := by decide +kernel
theorem dX9_chill_97 : decode cX9_chill 97 = .ok (.aload_n 0, 1) := by decide +kernel
theorem dX9_chill_98 : decode cX9_chill 98 = .ok (.getfield 7, 3) := by decide +kernel
theorem dX9_chill_101 : decode cX9_chill 101 = .ok (.bipush 8, 2) := by decide +kernel
theorem dX9_chill_103 : decode cX9_chill 103 = .ok (.iload 4, 2) := by decide +kernel
theorem dX9_chill_105 : decode cX9_chill 105 = .ok (.iadd, 1) := by decide +kernel
theorem dX9_chill_106 : decode cX9_chill 106 = .ok (.iaload, 1) := by decide +kernel
theorem dX9_chill_107 : decode cX9_chill 107 = .ok (.iload_n 1, 1) := by decide +kernel
theorem dX9_chill_108 : decode cX9_chill 108 = .ok (.if_icmp .ne 18, 3) := by decide +kernel
theorem dX9_chill_111 : decode cX9_chill 111 = .ok (.aload_n 0, 1) := by decide +kernel
theorem dX9_chill_112 : decode cX9_chill 112 = .ok (.getfield 57, 3) := by decide +kernel
theorem dX9_chill_115 : decode cX9_chill 115 = .ok (.iload 4, 2) := by decide +kernel
theorem dX9_chill_117 : decode cX9_chill 117 = .ok (.iaload, 1) := by decide +kernel
theorem dX9_chill_118 : decode cX9_chill 118 = .ok (.iconst 2, 1) := by decide +kernel
theorem dX9_chill_119 : decode cX9_chill 119 = .ok (.if_icmp .lt 7, 3) := by decide +kernel
theorem dX9_chill_122 : decode cX9_chill 122 = .ok (.iconst 1, 1) := by decide +kernel
theorem dX9_chill_123 : decode cX9_chill 123 = .ok (.goto 4, 3) := by decide +kernel
theorem dX9_chill_126 : decode cX9_chill 126 = .ok (.iconst 0, 1) := by decide +kernel
theorem dX9_chill_127 : decode cX9_chill 127 = .ok (.istore 5, 2) := by decide +kernel
theorem dX9_chill_129 : decode cX9_chill 129 = .ok (.aload_n 0, 1) := by decide +kernel
theorem dX9_chill_130 : decode cX9_chill 130 = .ok (.iload 4, 2) := by decide +kernel
theorem dX9_chill_132 : decode cX9_chill 132 = .ok (.invokevirtual 182, 3) := by decide +kernel
theorem dX9_chill_135 : decode cX9_chill 135 = .ok (.ifCond .ne 14, 3) := by decide +kernel
theorem dX9_chill_138 : decode cX9_chill 138 = .ok (.aload_n 0, 1) := by decide +kernel
theorem dX9_chill_139 : decode cX9_chill 139 = .ok (.getfield 57, 3) := by decide +kernel
theorem dX9_chill_142 : decode cX9_chill 142 = .ok (.iload 4, 2) := by decide +kernel
theorem dX9_chill_144 : decode cX9_chill 144 = .ok (.iaload, 1) := by decide +kernel
theorem dX9_chill_145 : decode cX9_chill 145 = .ok (.iconst 3, 1) := by decide +kernel
theorem dX9_chill_146 : decode cX9_chill 146 = .ok (.if_icmp .ne 7, 3) := by decide +kernel
theorem dX9_chill_149 : decode cX9_chill 149 = .ok (.iconst 1, 1) := by decide +kernel
theorem dX9_chill_150 : decode cX9_chill 150 = .ok (.goto 4, 3) := by decide +kernel
theorem dX9_chill_153 : decode cX9_chill 153 = .ok (.iconst 0, 1) := by decide +kernel
theorem dX9_chill_154 : decode cX9_chill 154 = .ok (.istore 6, 2) := by decide +kernel
theorem dX9_chill_156 : decode cX9_chill 156 = .ok (.iload_n 3, 1) := by decide +kernel
theorem dX9_chill_157 : decode cX9_chill 157 = .ok (.iload 5, 2) := by decide +kernel
theorem dX9_chill_159 : decode cX9_chill 159 = .ok (.ifCond .eq 34, 3) := by decide +kernel
theorem dX9_chill_162 : decode cX9_chill 162 = .ok (.aload_n 0, 1) := by decide +kernel
theorem dX9_chill_163 : decode cX9_chill 163 = .ok (.iload 6, 2) := by decide +kernel
theorem dX9_chill_165 : decode cX9_chill 165 = .ok (.ifCond .eq 15, 3) := by decide +kernel
theorem dX9_chill_168 : decode cX9_chill 168 = .ok (.aload_n 0, 1) := by decide +kernel
theorem dX9_chill_169 : decode cX9_chill 169 = .ok (.getfield 23, 3) := by decide +kernel
theorem dX9_chill_172 : decode cX9_chill 172 = .ok (.iload 4, 2) := by decide +kernel
theorem dX9_chill_174 : decode cX9_chill 174 = .ok (.iaload, 1) := by decide +kernel
theorem dX9_chill_175 : decode cX9_chill 175 = .ok (.iconst 2, 1) := by decide +kernel
theorem dX9_chill_176 : decode cX9_chill 176 = .ok (.idiv, 1) := by decide +kernel
theorem dX9_chill_177 : decode cX9_chill 177 = .ok (.goto 10, 3) := by decide +kernel
theorem dX9_chill_180 : decode cX9_chill 180 = .ok (.aload_n 0, 1) := by decide +kernel
theorem dX9_chill_181 : decode cX9_chill 181 = .ok (.getfield 23, 3) := by decide +kernel
theorem dX9_chill_184 : decode cX9_chill 184 = .ok (.iload 4, 2) := by decide +kernel
theorem dX9_chill_186 : decode cX9_chill 186 = .ok (.iaload, 1) := by decide +kernel
theorem dX9_chill_187 : decode cX9_chill 187 = .ok (.invokevirtual 219, 3) := by decide +kernel
theorem dX9_chill_190 : decode cX9_chill 190 = .ok (.goto 4, 3) := by decide +kernel
theorem dX9_chill_193 : decode cX9_chill 193 = .ok (.iconst 0, 1) := by decide +kernel
theorem dX9_chill_194 : decode cX9_chill 194 = .ok (.isub, 1) := by decide +kernel
theorem dX9_chill_195 : decode cX9_chill 195 = .ok (.istore_n 3, 1) := by decide +kernel
theorem dX9_chill_196 : decode cX9_chill 196 = .ok (.iinc 4 1, 3) := by decide +kernel
theorem dX9_chill_199 : decode cX9_chill 199 = .ok (.goto (-146), 3) := by decide +kernel
theorem dX9_chill_202 : decode cX9_chill 202 = .ok (.iload_n 3, 1) := by decide +kernel
theorem dX9_chill_203 : decode cX9_chill 203 = .ok (.ireturn, 1) := by decide +kernel
theorem dX9_fair_0 : decode cX9_fair 0 = .ok (.aload_n 0, 1) := by decide +kernel
theorem dX9_fair_1 : decode cX9_fair 1 = .ok (.iload_n 1, 1) := by decide +kernel
theorem dX9_fair_2 : decode cX9_fair 2 = .ok (.invokevirtual 177, 3) := by decide +kernel
theorem dX9_fair_5 : decode cX9_fair 5 = .ok (.ifCond .ne 6, 3) := by decide +kernel
theorem dX9_fair_8 : decode cX9_fair 8 = .ok (.ldc 181, 2) := by decide +kernel
theorem dX9_fair_10 : decode cX9_fair 10 = .ok (.ireturn, 1) := by decide +kernel
theorem dX9_fair_11 : decode cX9_fair 11 = .ok (.iload_n 2, 1) := by decide +kernel
theorem dX9_fair_12 : decode cX9_fair 12 = .ok (.i2l, 1) := by decide +kernel
theorem dX9_fair_13 : decode cX9_fair 13 = .ok (.lconst 0, 1) := by decide +kernel
theorem dX9_fair_14 : decode cX9_fair 14 = .ok (.lconst 1, 1) := by decide +kernel
theorem dX9_fair_15 : decode cX9_fair 15 = .ok (.invokestatic 71, 3) := by decide +kernel
theorem dX9_fair_18 : decode cX9_fair 18 = .ok (.ifCond .ne 6, 3) := by decide +kernel
theorem dX9_fair_21 : decode cX9_fair 21 = .ok (.ldc 75, 2) := by decide +kernel
theorem dX9_fair_23 : decode cX9_fair 23 = .ok (.ireturn, 1) := by decide +kernel
theorem dX9_fair_24 : decode cX9_fair 24 = .ok (.aload_n 0, 1) := by decide +kernel
theorem dX9_fair_25 : decode cX9_fair 25 = .ok (.iload_n 1, 1) := by decide +kernel
theorem dX9_fair_26 : decode cX9_fair 26 = .ok (.invokevirtual 182, 3) := by decide +kernel
theorem dX9_fair_29 : decode cX9_fair 29 = .ok (.ifCond .eq 6, 3) := by decide +kernel
theorem dX9_fair_32 : decode cX9_fair 32 = .ok (.ldc 213, 2) := by decide +kernel
theorem dX9_fair_34 : decode cX9_fair 34 = .ok (.ireturn, 1) := by decide +kernel
theorem dX9_fair_35 : decode cX9_fair 35 = .ok (.iconst 0, 1) := by decide +kernel
theorem dX9_fair_36 : decode cX9_fair 36 = .ok (.istore_n 3, 1) := by decide +kernel
theorem dX9_fair_37 : decode cX9_fair 37 = .ok (.iconst 0, 1) := by decide +kernel
theorem dX9_fair_38 : decode cX9_fair 38 = .ok (.istore 4, 2) := by decide +kernel
theorem dX9_fair_40 : decode cX9_fair 40 = .ok (.iload 4, 2) := by decide +kernel
theorem dX9_fair_42 : decode cX9_fair 42 = .ok (.bipush 24, 2) := by decide +kernel
theorem dX9_fair_44 : decode cX9_fair 44 = .ok (.if_icmp .ge 53, 3) := by decide +kernel
theorem dX9_fair_47 : decode cX9_fair 47 = .ok (.iload_n 3, 1) := by decide +kernel
theorem dX9_fair_48 : decode cX9_fair 48 = .ok (.aload_n 0, 1) := by decide +kernel
theorem dX9_fair_49 : decode cX9_fair 49 = .ok (.aload_n 0, 1) := by decide +kernel
theorem dX9_fair_50 : decode cX9_fair 50 = .ok (.getfield 7, 3) := by decide +kernel
theorem dX9_fair_53 : decode cX9_fair 53 = .ok (.iload_n 1, 1) := by decide +kernel
theorem dX9_fair_54 : decode cX9_fair 54 = .ok (.iaload, 1) := by decide +kernel
theorem dX9_fair_55 : decode cX9_fair 55 = .ok (.iload 4, 2) := by decide +kernel
theorem dX9_fair_57 : decode cX9_fair 57 = .ok (.invokevirtual 216, 3) := by decide +kernel
theorem dX9_fair_60 : decode cX9_fair 60 = .ok (.ifCond .eq 25, 3) := by decide +kernel
theorem dX9_fair_63 : decode cX9_fair 63 = .ok (.aload_n 0, 1) := by decide +kernel
theorem dX9_fair_64 : decode cX9_fair 64 = .ok (.aload_n 0, 1) := by decide +kernel
theorem dX9_fair_65 : decode cX9_fair 65 = .ok (.getfield 7, 3) := by decide +kernel
theorem dX9_fair_68 : decode cX9_fair 68 = .ok (.bipush 8, 2) := by decide +kernel
theorem dX9_fair_70 : decode cX9_fair 70 = .ok (.iload_n 1, 1) := by decide +kernel
theorem dX9_fair_71 : decode cX9_fair 71 = .ok (.iadd, 1) := by decide +kernel
theorem dX9_fair_72 : decode cX9_fair 72 = .ok (.iaload, 1) := by decide +kernel
theorem dX9_fair_73 : decode cX9_fair 73 = .ok (.iload 4, 2) := by decide +kernel
theorem dX9_fair_75 : decode cX9_fair 75 = .ok (.invokevirtual 216, 3) := by decide +kernel
theorem dX9_fair_78 : decode cX9_fair 78 = .ok (.ifCond .eq 7, 3) := by decide +kernel
theorem dX9_fair_81 : decode cX9_fair 81 = .ok (.iconst 1, 1) := by decide +kernel
theorem dX9_fair_82 : decode cX9_fair 82 = .ok (.goto 4, 3) := by decide +kernel
theorem dX9_fair_85 : decode cX9_fair 85 = .ok (.iconst 0, 1) := by decide +kernel
theorem dX9_fair_86 : decode cX9_fair 86 = .ok (.invokestatic 185, 3) := by decide +kernel
theorem dX9_fair_89 : decode cX9_fair 89 = .ok (.iadd, 1) := by decide +kernel
theorem dX9_fair_90 : decode cX9_fair 90 = .ok (.istore_n 3, 1) := by decide +kernel
theorem dX9_fair_91 : decode cX9_fair 91 = .ok (.iinc 4 1, 3) := by decide +kernel
theorem dX9_fair_94 : decode cX9_fair 94 = .ok (.goto (-54), 3) := by decide +kernel
theorem dX9_fair_97 : decode cX9_fair 97 = .ok (.iconst (-1), 1) := by decide +kernel
theorem dX9_fair_98 : decode cX9_fair 98 = .ok (.istore 4, 2) := by decide +kernel
theorem dX9_fair_100 : decode cX9_fair 100 = .ok (.iconst 0, 1) := by decide +kernel
theorem dX9_fair_101 : decode cX9_fair 101 = .ok (.istore 5, 2) := by decide +kernel
theorem dX9_fair_103 : decode cX9_fair 103 = .ok (.iconst 0, 1) := by decide +kernel
theorem dX9_fair_104 : decode cX9_fair 104 = .ok (.istore 6, 2) := by decide +kernel
theorem dX9_fair_106 : decode cX9_fair 106 = .ok (.iload 6, 2) := by decide +kernel
theorem dX9_fair_108 : decode cX9_fair 108 = .ok (.iload_n 3, 1) := by decide +kernel
theorem dX9_fair_109 : decode cX9_fair 109 = .ok (.if_icmp .gt 63, 3) := by decide +kernel
theorem dX9_fair_112 : decode cX9_fair 112 = .ok (.iload_n 3, 1) := by decide +kernel
theorem dX9_fair_113 : decode cX9_fair 113 = .ok (.iconst 2, 1) := by decide +kernel
theorem dX9_fair_114 : decode cX9_fair 114 = .ok (.iload 6, 2) := by decide +kernel
theorem dX9_fair_116 : decode cX9_fair 116 = .ok (.imul, 1) := by decide +kernel
theorem dX9_fair_117 : decode cX9_fair 117 = .ok (.isub, 1) := by decide +kernel
theorem dX9_fair_118 : decode cX9_fair 118 = .ok (.aload_n 0, 1) := by decide +kernel
theorem dX9_fair_119 : decode cX9_fair 119 = .ok (.aload_n 0, 1) := by decide +kernel
theorem dX9_fair_120 : decode cX9_fair 120 = .ok (.getfield 23, 3) := by decide +kernel
theorem dX9_fair_123 : decode cX9_fair 123 = .ok (.iload_n 1, 1) := by decide +kernel
theorem dX9_fair_124 : decode cX9_fair 124 = .ok (.iaload, 1) := by decide +kernel
theorem dX9_fair_125 : decode cX9_fair 125 = .ok (.invokevirtual 219, 3) := by decide +kernel
theorem dX9_fair_128 : decode cX9_fair 128 = .ok (.imul, 1) := by decide +kernel
theorem dX9_fair_129 : decode cX9_fair 129 = .ok (.istore 7, 2) := by decide +kernel
theorem dX9_fair_131 : decode cX9_fair 131 = .ok (.iload 7, 2) := by decide +kernel
theorem dX9_fair_133 : decode cX9_fair 133 = .ok (.ifCond .ge 9, 3) := by decide +kernel
theorem dX9_fair_136 : decode cX9_fair 136 = .ok (.iload 7, 2) := by decide +kernel
theorem dX9_fair_138 : decode cX9_fair 138 = .ok (.ineg, 1) := by decide +kernel
theorem dX9_fair_139 : decode cX9_fair 139 = .ok (.goto 5, 3) := by decide +kernel
theorem dX9_fair_142 : decode cX9_fair 142 = .ok (.iload 7, 2) := by decide +kernel
theorem dX9_fair_144 : decode cX9_fair 144 = .ok (.istore 7, 2) := by decide +kernel
theorem dX9_fair_146 : decode cX9_fair 146 = .ok (.iload 4, 2) := by decide +kernel
theorem dX9_fair_148 : decode cX9_fair 148 = .ok (.ifCond .lt 10, 3) := by decide +kernel
theorem dX9_fair_151 : decode cX9_fair 151 = .ok (.iload 7, 2) := by decide +kernel
theorem dX9_fair_153 : decode cX9_fair 153 = .ok (.iload 4, 2) := by decide +kernel
theorem dX9_fair_155 : decode cX9_fair 155 = .ok (.if_icmp .ge 11, 3) := by decide +kernel
theorem dX9_fair_158 : decode cX9_fair 158 = .ok (.iload 7, 2) := by decide +kernel
theorem dX9_fair_160 : decode cX9_fair 160 = .ok (.istore 4, 2) := by decide +kernel
theorem dX9_fair_162 : decode cX9_fair 162 = .ok (.iload 6, 2) := by decide +kernel
theorem dX9_fair_164 : decode cX9_fair 164 = .ok (.istore 5, 2) := by decide +kernel
theorem dX9_fair_166 : decode cX9_fair 166 = .ok (.iinc 6 1, 3) := by decide +kernel
theorem dX9_fair_169 : decode cX9_fair 169 = .ok (.goto (-63), 3) := by decide +kernel
theorem dX9_fair_172 : decode cX9_fair 172 = .ok (.iconst 0, 1) := by decide +kernel
theorem dX9_fair_173 : decode cX9_fair 173 = .ok (.istore 6, 2) := by decide +kernel
theorem dX9_fair_175 : decode cX9_fair 175 = .ok (.iconst 0, 1) := by decide +kernel
theorem dX9_fair_176 : decode cX9_fair 176 = .ok (.istore 7, 2) := by decide +kernel
theorem dX9_fair_178 : decode cX9_fair 178 = .ok (.iload 7, 2) := by decide +kernel
theorem dX9_fair_180 : decode cX9_fair 180 = .ok (.bipush 24, 2) := by decide +kernel
theorem dX9_fair_182 : decode cX9_fair 182 = .ok (.if_icmp .ge 59, 3) := by decide +kernel
theorem dX9_fair_185 : decode cX9_fair 185 = .ok (.iload 5, 2) := by decide +kernel
theorem dX9_fair_187 : decode cX9_fair 187 = .ok (.ifCond .le 48, 3) := by decide +kernel
theorem dX9_fair_190 : decode cX9_fair 190 = .ok (.aload_n 0, 1) := by decide +kernel
theorem dX9_fair_191 : decode cX9_fair 191 = .ok (.aload_n 0, 1) := by decide +kernel
theorem dX9_fair_192 : decode cX9_fair 192 = .ok (.getfield 7, 3) := by decide +kernel
theorem dX9_fair_195 : decode cX9_fair 195 = .ok (.iload_n 1, 1) := by decide +kernel
theorem dX9_fair_196 : decode cX9_fair 196 = .ok (.iaload, 1) := by decide +kernel
theorem dX9_fair_197 : decode cX9_fair 197 = .ok (.iload 7, 2) := by decide +kernel
theorem dX9_fair_199 : decode cX9_fair 199 = .ok (.invokevirtual 216, 3) := by decide +kernel
theorem dX9_fair_202 : decode cX9_fair 202 = .ok (.ifCond .eq 33, 3) := by decide +kernel
theorem dX9_fair_205 : decode cX9_fair 205 = .ok (.aload_n 0, 1) := by decide +kernel
theorem dX9_fair_206 : decode cX9_fair 206 = .ok (.aload_n 0, 1) := by decide +kernel
theorem dX9_fair_207 : decode cX9_fair 207 = .ok (.getfield 7, 3) := by decide +kernel
theorem dX9_fair_210 : decode cX9_fair 210 = .ok (.bipush 8, 2) := by decide +kernel
theorem dX9_fair_212 : decode cX9_fair 212 = .ok (.iload_n 1, 1) := by decide +kernel
theorem dX9_fair_213 : decode cX9_fair 213 = .ok (.iadd, 1) := by decide +kernel
theorem dX9_fair_214 : decode cX9_fair 214 = .ok (.iaload, 1) := by decide +kernel
theorem dX9_fair_215 : decode cX9_fair 215 = .ok (.iload 7, 2) := by decide +kernel
theorem dX9_fair_217 : decode cX9_fair 217 = .ok (.invokevirtual 216, 3) := by decide +kernel
theorem dX9_fair_220 : decode cX9_fair 220 = .ok (.ifCond .eq 15, 3) := by decide +kernel
theorem dX9_fair_223 : decode cX9_fair 223 = .ok (.iload 6, 2) := by decide +kernel
theorem dX9_fair_225 : decode cX9_fair 225 = .ok (.iconst 1, 1) := by decide +kernel
theorem dX9_fair_226 : decode cX9_fair 226 = .ok (.iload 7, 2) := by decide +kernel
theorem dX9_fair_228 : decode cX9_fair 228 = .ok (.ishl, 1) := by decide +kernel
theorem dX9_fair_229 : decode cX9_fair 229 = .ok (.ior, 1) := by decide +kernel
theorem dX9_fair_230 : decode cX9_fair 230 = .ok (.istore 6, 2) := by decide +kernel
theorem dX9_fair_232 : decode cX9_fair 232 = .ok (.iinc 5 (-1), 3) := by decide +kernel
theorem dX9_fair_235 : decode cX9_fair 235 = .ok (.iinc 7 1, 3) := by decide +kernel
theorem dX9_fair_238 : decode cX9_fair 238 = .ok (.goto (-60), 3) := by decide +kernel
theorem dX9_fair_241 : decode cX9_fair 241 = .ok (.iload_n 2, 1) := by decide +kernel
theorem dX9_fair_242 : decode cX9_fair 242 = .ok (.ifCond .ne 8, 3) := by decide +kernel
theorem dX9_fair_245 : decode cX9_fair 245 = .ok (.iload 4, 2) := by decide +kernel
theorem dX9_fair_247 : decode cX9_fair 247 = .ok (.goto 5, 3) := by decide +kernel
theorem dX9_fair_250 : decode cX9_fair 250 = .ok (.iload 6, 2) := by decide +kernel
theorem dX9_fair_252 : decode cX9_fair 252 = .ok (.ireturn, 1) := by decide +kernel
theorem dX9_wishOf_0 : decode cX9_wishOf 0 = .ok (.iconst 0, 1) := by decide +kernel
theorem dX9_wishOf_1 : decode cX9_wishOf 1 = .ok (.istore_n 2, 1) := by decide +kernel
theorem dX9_wishOf_2 : decode cX9_wishOf 2 = .ok (.iconst 0, 1) := by decide +kernel
theorem dX9_wishOf_3 : decode cX9_wishOf 3 = .ok (.istore_n 3, 1) := by decide +kernel
theorem dX9_wishOf_4 : decode cX9_wishOf 4 = .ok (.iload_n 3, 1) := by decide +kernel
theorem dX9_wishOf_5 : decode cX9_wishOf 5 = .ok (.aload_n 0, 1) := by decide +kernel
theorem dX9_wishOf_6 : decode cX9_wishOf 6 = .ok (.getfield 44, 3) := by decide +kernel
theorem dX9_wishOf_9 : decode cX9_wishOf 9 = .ok (.iconst 1, 1) := by decide +kernel
theorem dX9_wishOf_10 : decode cX9_wishOf 10 = .ok (.iaload, 1) := by decide +kernel
theorem dX9_wishOf_11 : decode cX9_wishOf 11 = .ok (.if_icmp .ge 89, 3) := by decide +kernel
theorem dX9_wishOf_14 : decode cX9_wishOf 14 = .ok (.iload_n 2, 1) := by decide +kernel
theorem dX9_wishOf_15 : decode cX9_wishOf 15 = .ok (.aload_n 0, 1) := by decide +kernel
theorem dX9_wishOf_16 : decode cX9_wishOf 16 = .ok (.iload_n 3, 1) := by decide +kernel
theorem dX9_wishOf_17 : decode cX9_wishOf 17 = .ok (.invokevirtual 182, 3) := by decide +kernel
theorem dX9_wishOf_20 : decode cX9_wishOf 20 = .ok (.ifCond .eq 7, 3) := by decide +kernel
theorem dX9_wishOf_23 : decode cX9_wishOf 23 = .ok (.iconst 0, 1) := by decide +kernel
theorem dX9_wishOf_24 : decode cX9_wishOf 24 = .ok (.goto 68, 3) := by decide +kernel
theorem dX9_wishOf_27 : decode cX9_wishOf 27 = .ok (.aload_n 0, 1) := by decide +kernel
theorem dX9_wishOf_28 : decode cX9_wishOf 28 = .ok (.getfield 7, 3) := by decide +kernel
theorem dX9_wishOf_31 : decode cX9_wishOf 31 = .ok (.iload_n 3, 1) := by decide +kernel
theorem dX9_wishOf_32 : decode cX9_wishOf 32 = .ok (.iaload, 1) := by decide +kernel
theorem dX9_wishOf_33 : decode cX9_wishOf 33 = .ok (.iload_n 1, 1) := by decide +kernel
theorem dX9_wishOf_34 : decode cX9_wishOf 34 = .ok (.if_icmp .ne 25, 3) := by decide +kernel
theorem dX9_wishOf_37 : decode cX9_wishOf 37 = .ok (.aload_n 0, 1) := by decide +kernel
theorem dX9_wishOf_38 : decode cX9_wishOf 38 = .ok (.getfield 38, 3) := by decide +kernel
theorem dX9_wishOf_41 : decode cX9_wishOf 41 = .ok (.bipush 8, 2) := by decide +kernel
theorem dX9_wishOf_43 : decode cX9_wishOf 43 = .ok (.iload_n 1, 1) := by decide +kernel
theorem dX9_wishOf_44 : decode cX9_wishOf 44 = .ok (.imul, 1) := by decide +kernel
theorem dX9_wishOf_45 : decode cX9_wishOf 45 = .ok (.aload_n 0, 1) := by decide +kernel
theorem dX9_wishOf_46 : decode cX9_wishOf 46 = .ok (.getfield 7, 3) := by decide +kernel
theorem dX9_wishOf_49 : decode cX9_wishOf 49 = .ok (.bipush 8, 2) := by decide +kernel
theorem dX9_wishOf_51 : decode cX9_wishOf 51 = .ok (.iload_n 3, 1) := by decide +kernel
theorem dX9_wishOf_52 : decode cX9_wishOf 52 = .ok (.iadd, 1) := by decide +kernel
theorem dX9_wishOf_53 : decode cX9_wishOf 53 = .ok (.iaload, 1) := by decide +kernel
theorem dX9_wishOf_54 : decode cX9_wishOf 54 = .ok (.iadd, 1) := by decide +kernel
theorem dX9_wishOf_55 : decode cX9_wishOf 55 = .ok (.iaload, 1) := by decide +kernel
theorem dX9_wishOf_56 : decode cX9_wishOf 56 = .ok (.goto 36, 3) := by decide +kernel
theorem dX9_wishOf_59 : decode cX9_wishOf 59 = .ok (.aload_n 0, 1) := by decide +kernel
theorem dX9_wishOf_60 : decode cX9_wishOf 60 = .ok (.getfield 7, 3) := by decide +kernel
theorem dX9_wishOf_63 : decode cX9_wishOf 63 = .ok (.bipush 8, 2) := by decide +kernel
theorem dX9_wishOf_65 : decode cX9_wishOf 65 = .ok (.iload_n 3, 1) := by decide +kernel
theorem dX9_wishOf_66 : decode cX9_wishOf 66 = .ok (.iadd, 1) := by decide +kernel
theorem dX9_wishOf_67 : decode cX9_wishOf 67 = .ok (.iaload, 1) := by decide +kernel
theorem dX9_wishOf_68 : decode cX9_wishOf 68 = .ok (.iload_n 1, 1) := by decide +kernel
theorem dX9_wishOf_69 : decode cX9_wishOf 69 = .ok (.if_icmp .ne 22, 3) := by decide +kernel
theorem dX9_wishOf_72 : decode cX9_wishOf 72 = .ok (.aload_n 0, 1) := by decide +kernel
theorem dX9_wishOf_73 : decode cX9_wishOf 73 = .ok (.getfield 38, 3) := by decide +kernel
theorem dX9_wishOf_76 : decode cX9_wishOf 76 = .ok (.bipush 8, 2) := by decide +kernel
theorem dX9_wishOf_78 : decode cX9_wishOf 78 = .ok (.iload_n 1, 1) := by decide +kernel
theorem dX9_wishOf_79 : decode cX9_wishOf 79 = .ok (.imul, 1) := by decide +kernel
theorem dX9_wishOf_80 : decode cX9_wishOf 80 = .ok (.aload_n 0, 1) := by decide +kernel
theorem dX9_wishOf_81 : decode cX9_wishOf 81 = .ok (.getfield 7, 3) := by decide +kernel
theorem dX9_wishOf_84 : decode cX9_wishOf 84 = .ok (.iload_n 3, 1) := by decide +kernel
theorem dX9_wishOf_85 : decode cX9_wishOf 85 = .ok (.iaload, 1) := by decide +kernel
theorem dX9_wishOf_86 : decode cX9_wishOf 86 = .ok (.iadd, 1) := by decide +kernel
theorem dX9_wishOf_87 : decode cX9_wishOf 87 = .ok (.iaload, 1) := by decide +kernel
theorem dX9_wishOf_88 : decode cX9_wishOf 88 = .ok (.goto 4, 3) := by decide +kernel
theorem dX9_wishOf_91 : decode cX9_wishOf 91 = .ok (.iconst 0, 1) := by decide +kernel
theorem dX9_wishOf_92 : decode cX9_wishOf 92 = .ok (.iadd, 1) := by decide +kernel
theorem dX9_wishOf_93 : decode cX9_wishOf 93 = .ok (.istore_n 2, 1) := by decide +kernel
theorem dX9_wishOf_94 : decode cX9_wishOf 94 = .ok (.iinc 3 1, 3) := by decide +kernel
theorem dX9_wishOf_97 : decode cX9_wishOf 97 = .ok (.goto (-93), 3) := by decide +kernel
theorem dX9_wishOf_100 : decode cX9_wishOf 100 = .ok (.iload_n 2, 1) := by decide +kernel
theorem dX9_wishOf_101 : decode cX9_wishOf 101 = .ok (.ireturn, 1) := by decide +kernel
theorem dX9_wish_0 : decode cX9_wish 0 = .ok (.aload_n 0, 1) := by decide +kernel
theorem dX9_wish_1 : decode cX9_wish 1 = .ok (.iload_n 1, 1) := by decide +kernel
theorem dX9_wish_2 : decode cX9_wish 2 = .ok (.invokevirtual 189, 3) := by decide +kernel
theorem dX9_wish_5 : decode cX9_wish 5 = .ok (.ifCond .eq 11, 3) := by decide +kernel
theorem dX9_wish_8 : decode cX9_wish 8 = .ok (.aload_n 0, 1) := by decide +kernel
theorem dX9_wish_9 : decode cX9_wish 9 = .ok (.iload_n 1, 1) := by decide +kernel
theorem dX9_wish_10 : decode cX9_wish 10 = .ok (.invokevirtual 241, 3) := by decide +kernel
theorem dX9_wish_13 : decode cX9_wish 13 = .ok (.goto 5, 3) := by decide +kernel
theorem dX9_wish_16 : decode cX9_wish 16 = .ok (.ldc 181, 2) := by decide +kernel
theorem dX9_wish_18 : decode cX9_wish 18 = .ok (.ireturn, 1) := by decide +kernel
theorem dX9_exchange_0 : decode cX9_exchange 0 = .ok (.aload_n 0, 1) := by decide +kernel
theorem dX9_exchange_1 : decode cX9_exchange 1 = .ok (.getfield 7, 3) := by decide +kernel
theorem dX9_exchange_4 : decode cX9_exchange 4 = .ok (.iload_n 1, 1) := by decide +kernel
theorem dX9_exchange_5 : decode cX9_exchange 5 = .ok (.iaload, 1) := by decide +kernel
theorem dX9_exchange_6 : decode cX9_exchange 6 = .ok (.istore_n 3, 1) := by decide +kernel
theorem dX9_exchange_7 : decode cX9_exchange 7 = .ok (.aload_n 0, 1) := by decide +kernel
theorem dX9_exchange_8 : decode cX9_exchange 8 = .ok (.getfield 7, 3) := by decide +kernel
theorem dX9_exchange_11 : decode cX9_exchange 11 = .ok (.iload_n 1, 1) := by decide +kernel
theorem dX9_exchange_12 : decode cX9_exchange 12 = .ok (.aload_n 0, 1) := by decide +kernel
theorem dX9_exchange_13 : decode cX9_exchange 13 = .ok (.getfield 7, 3) := by decide +kernel
theorem dX9_exchange_16 : decode cX9_exchange 16 = .ok (.iload_n 2, 1) := by decide +kernel
theorem dX9_exchange_17 : decode cX9_exchange 17 = .ok (.iaload, 1) := by decide +kernel
theorem dX9_exchange_18 : decode cX9_exchange 18 = .ok (.iastore, 1) := by decide +kernel
theorem dX9_exchange_19 : decode cX9_exchange 19 = .ok (.aload_n 0, 1) := by decide +kernel
theorem dX9_exchange_20 : decode cX9_exchange 20 = .ok (.getfield 7, 3) := by decide +kernel
theorem dX9_exchange_23 : decode cX9_exchange 23 = .ok (.iload_n 2, 1) := by decide +kernel
theorem dX9_exchange_24 : decode cX9_exchange 24 = .ok (.iload_n 3, 1) := by decide +kernel
theorem dX9_exchange_25 : decode cX9_exchange 25 = .ok (.iastore, 1) := by decide +kernel
theorem dX9_exchange_26 : decode cX9_exchange 26 = .ok (.return_, 1) := by decide +kernel
theorem dX9_swaps_0 : decode cX9_swaps 0 = .ok (.bipush 8, 2) := by decide +kernel
theorem dX9_swaps_2 : decode cX9_swaps 2 = .ok (.iload_n 2, 1) := by decide +kernel
theorem dX9_swaps_3 : decode cX9_swaps 3 = .ok (.imul, 1) := by decide +kernel
theorem dX9_swaps_4 : decode cX9_swaps 4 = .ok (.iload_n 1, 1) := by decide +kernel
theorem dX9_swaps_5 : decode cX9_swaps 5 = .ok (.iadd, 1) := by decide +kernel
theorem dX9_swaps_6 : decode cX9_swaps 6 = .ok (.istore 5, 2) := by decide +kernel
theorem dX9_swaps_8 : decode cX9_swaps 8 = .ok (.bipush 8, 2) := by decide +kernel
theorem dX9_swaps_10 : decode cX9_swaps 10 = .ok (.iload 4, 2) := by decide +kernel
theorem dX9_swaps_12 : decode cX9_swaps 12 = .ok (.imul, 1) := by decide +kernel
theorem dX9_swaps_13 : decode cX9_swaps 13 = .ok (.iload_n 3, 1) := by decide +kernel
theorem dX9_swaps_14 : decode cX9_swaps 14 = .ok (.iadd, 1) := by decide +kernel
theorem dX9_swaps_15 : decode cX9_swaps 15 = .ok (.istore 6, 2) := by decide +kernel
theorem dX9_swaps_17 : decode cX9_swaps 17 = .ok (.aload_n 0, 1) := by decide +kernel
theorem dX9_swaps_18 : decode cX9_swaps 18 = .ok (.getfield 7, 3) := by decide +kernel
theorem dX9_swaps_21 : decode cX9_swaps 21 = .ok (.iload 5, 2) := by decide +kernel
theorem dX9_swaps_23 : decode cX9_swaps 23 = .ok (.iaload, 1) := by decide +kernel
theorem dX9_swaps_24 : decode cX9_swaps 24 = .ok (.istore 7, 2) := by decide +kernel
theorem dX9_swaps_26 : decode cX9_swaps 26 = .ok (.aload_n 0, 1) := by decide +kernel
theorem dX9_swaps_27 : decode cX9_swaps 27 = .ok (.getfield 7, 3) := by decide +kernel
theorem dX9_swaps_30 : decode cX9_swaps 30 = .ok (.iload 6, 2) := by decide +kernel
theorem dX9_swaps_32 : decode cX9_swaps 32 = .ok (.iaload, 1) := by decide +kernel
theorem dX9_swaps_33 : decode cX9_swaps 33 = .ok (.istore 8, 2) := by decide +kernel
theorem dX9_swaps_35 : decode cX9_swaps 35 = .ok (.aload_n 0, 1) := by decide +kernel
theorem dX9_swaps_36 : decode cX9_swaps 36 = .ok (.iload_n 1, 1) := by decide +kernel
theorem dX9_swaps_37 : decode cX9_swaps 37 = .ok (.invokevirtual 182, 3) := by decide +kernel
theorem dX9_swaps_40 : decode cX9_swaps 40 = .ok (.ifCond .ne 18, 3) := by decide +kernel
theorem dX9_swaps_43 : decode cX9_swaps 43 = .ok (.aload_n 0, 1) := by decide +kernel
theorem dX9_swaps_44 : decode cX9_swaps 44 = .ok (.iload_n 3, 1) := by decide +kernel
theorem dX9_swaps_45 : decode cX9_swaps 45 = .ok (.invokevirtual 182, 3) := by decide +kernel
theorem dX9_swaps_48 : decode cX9_swaps 48 = .ok (.ifCond .ne 10, 3) := by decide +kernel
theorem dX9_swaps_51 : decode cX9_swaps 51 = .ok (.iload 7, 2) := by decide +kernel
theorem dX9_swaps_53 : decode cX9_swaps 53 = .ok (.iload 8, 2) := by decide +kernel
theorem dX9_swaps_55 : decode cX9_swaps 55 = .ok (.if_icmp .ne 5, 3) := by decide +kernel
theorem dX9_swaps_58 : decode cX9_swaps 58 = .ok (.iconst 0, 1) := by decide +kernel
theorem dX9_swaps_59 : decode cX9_swaps 59 = .ok (.ireturn, 1) := by decide +kernel
theorem dX9_swaps_60 : decode cX9_swaps 60 = .ok (.aload_n 0, 1) := by decide +kernel
theorem dX9_swaps_61 : decode cX9_swaps 61 = .ok (.iload 7, 2) := by decide +kernel
theorem dX9_swaps_63 : decode cX9_swaps 63 = .ok (.invokevirtual 241, 3) := by decide +kernel
theorem dX9_swaps_66 : decode cX9_swaps 66 = .ok (.istore 9, 2) := by decide +kernel
theorem dX9_swaps_68 : decode cX9_swaps 68 = .ok (.aload_n 0, 1) := by decide +kernel
theorem dX9_swaps_69 : decode cX9_swaps 69 = .ok (.iload 8, 2) := by decide +kernel
theorem dX9_swaps_71 : decode cX9_swaps 71 = .ok (.invokevirtual 241, 3) := by decide +kernel
theorem dX9_swaps_74 : decode cX9_swaps 74 = .ok (.istore 10, 2) := by decide +kernel
theorem dX9_swaps_76 : decode cX9_swaps 76 = .ok (.aload_n 0, 1) := by decide +kernel
theorem dX9_swaps_77 : decode cX9_swaps 77 = .ok (.iload 5, 2) := by decide +kernel
theorem dX9_swaps_79 : decode cX9_swaps 79 = .ok (.iload 6, 2) := by decide +kernel
theorem dX9_swaps_81 : decode cX9_swaps 81 = .ok (.invokevirtual 244, 3) := by decide +kernel
theorem dX9_swaps_84 : decode cX9_swaps 84 = .ok (.aload_n 0, 1) := by decide +kernel
theorem dX9_swaps_85 : decode cX9_swaps 85 = .ok (.getfield 7, 3) := by decide +kernel
theorem dX9_swaps_88 : decode cX9_swaps 88 = .ok (.iload_n 1, 1) := by decide +kernel
theorem dX9_swaps_89 : decode cX9_swaps 89 = .ok (.iaload, 1) := by decide +kernel
theorem dX9_swaps_90 : decode cX9_swaps 90 = .ok (.aload_n 0, 1) := by decide +kernel
theorem dX9_swaps_91 : decode cX9_swaps 91 = .ok (.getfield 7, 3) := by decide +kernel
theorem dX9_swaps_94 : decode cX9_swaps 94 = .ok (.bipush 8, 2) := by decide +kernel
theorem dX9_swaps_96 : decode cX9_swaps 96 = .ok (.iload_n 1, 1) := by decide +kernel
theorem dX9_swaps_97 : decode cX9_swaps 97 = .ok (.iadd, 1) := by decide +kernel
theorem dX9_swaps_98 : decode cX9_swaps 98 = .ok (.iaload, 1) := by decide +kernel
theorem dX9_swaps_99 : decode cX9_swaps 99 = .ok (.if_icmp .eq 47, 3) := by decide +kernel
theorem dX9_swaps_102 : decode cX9_swaps 102 = .ok (.aload_n 0, 1) := by decide +kernel
theorem dX9_swaps_103 : decode cX9_swaps 103 = .ok (.getfield 7, 3) := by decide +kernel
theorem dX9_swaps_106 : decode cX9_swaps 106 = .ok (.iload_n 3, 1) := by decide +kernel
theorem dX9_swaps_107 : decode cX9_swaps 107 = .ok (.iaload, 1) := by decide +kernel
theorem dX9_swaps_108 : decode cX9_swaps 108 = .ok (.aload_n 0, 1) := by decide +kernel
theorem dX9_swaps_109 : decode cX9_swaps 109 = .ok (.getfield 7, 3) := by decide +kernel
theorem dX9_swaps_112 : decode cX9_swaps 112 = .ok (.bipush 8, 2) := by decide +kernel
theorem dX9_swaps_114 : decode cX9_swaps 114 = .ok (.iload_n 3, 1) := by decide +kernel
theorem dX9_swaps_115 : decode cX9_swaps 115 = .ok (.iadd, 1) := by decide +kernel
theorem dX9_swaps_116 : decode cX9_swaps 116 = .ok (.iaload, 1) := by decide +kernel
theorem dX9_swaps_117 : decode cX9_swaps 117 = .ok (.if_icmp .eq 29, 3) := by decide +kernel
theorem dX9_swaps_120 : decode cX9_swaps 120 = .ok (.aload_n 0, 1) := by decide +kernel
theorem dX9_swaps_121 : decode cX9_swaps 121 = .ok (.iload 7, 2) := by decide +kernel
theorem dX9_swaps_123 : decode cX9_swaps 123 = .ok (.invokevirtual 241, 3) := by decide +kernel
theorem dX9_swaps_126 : decode cX9_swaps 126 = .ok (.iload 9, 2) := by decide +kernel
theorem dX9_swaps_128 : decode cX9_swaps 128 = .ok (.if_icmp .le 18, 3) := by decide +kernel
theorem dX9_swaps_131 : decode cX9_swaps 131 = .ok (.aload_n 0, 1) := by decide +kernel
theorem dX9_swaps_132 : decode cX9_swaps 132 = .ok (.iload 8, 2) := by decide +kernel
theorem dX9_swaps_134 : decode cX9_swaps 134 = .ok (.invokevirtual 241, 3) := by decide +kernel
theorem dX9_swaps_137 : decode cX9_swaps 137 = .ok (.iload 10, 2) := by decide +kernel
theorem dX9_swaps_139 : decode cX9_swaps 139 = .ok (.if_icmp .le 7, 3) := by decide +kernel
theorem dX9_swaps_142 : decode cX9_swaps 142 = .ok (.iconst 1, 1) := by decide +kernel
theorem dX9_swaps_143 : decode cX9_swaps 143 = .ok (.goto 4, 3) := by decide +kernel
theorem dX9_swaps_146 : decode cX9_swaps 146 = .ok (.iconst 0, 1) := by decide +kernel
theorem dX9_swaps_147 : decode cX9_swaps 147 = .ok (.istore 11, 2) := by decide +kernel
theorem dX9_swaps_149 : decode cX9_swaps 149 = .ok (.iload 11, 2) := by decide +kernel
theorem dX9_swaps_151 : decode cX9_swaps 151 = .ok (.ifCond .ne 11, 3) := by decide +kernel
theorem dX9_swaps_154 : decode cX9_swaps 154 = .ok (.aload_n 0, 1) := by decide +kernel
theorem dX9_swaps_155 : decode cX9_swaps 155 = .ok (.iload 5, 2) := by decide +kernel
theorem dX9_swaps_157 : decode cX9_swaps 157 = .ok (.iload 6, 2) := by decide +kernel
theorem dX9_swaps_159 : decode cX9_swaps 159 = .ok (.invokevirtual 244, 3) := by decide +kernel
theorem dX9_swaps_162 : decode cX9_swaps 162 = .ok (.iload 11, 2) := by decide +kernel
theorem dX9_swaps_164 : decode cX9_swaps 164 = .ok (.ireturn, 1) := by decide +kernel
theorem dX9_swapFirst_0 : decode cX9_swapFirst 0 = .ok (.iconst 0, 1) := by decide +kernel
theorem dX9_swapFirst_1 : decode cX9_swapFirst 1 = .ok (.istore_n 1, 1) := by decide +kernel
theorem dX9_swapFirst_2 : decode cX9_swapFirst 2 = .ok (.iload_n 1, 1) := by decide +kernel
theorem dX9_swapFirst_3 : decode cX9_swapFirst 3 = .ok (.iconst 2, 1) := by decide +kernel
theorem dX9_swapFirst_4 : decode cX9_swapFirst 4 = .ok (.aload_n 0, 1) := by decide +kernel
theorem dX9_swapFirst_5 : decode cX9_swapFirst 5 = .ok (.getfield 44, 3) := by decide +kernel
theorem dX9_swapFirst_8 : decode cX9_swapFirst 8 = .ok (.iconst 1, 1) := by decide +kernel
theorem dX9_swapFirst_9 : decode cX9_swapFirst 9 = .ok (.iaload, 1) := by decide +kernel
theorem dX9_swapFirst_10 : decode cX9_swapFirst 10 = .ok (.imul, 1) := by decide +kernel
theorem dX9_swapFirst_11 : decode cX9_swapFirst 11 = .ok (.if_icmp .ge 61, 3) := by decide +kernel
theorem dX9_swapFirst_14 : decode cX9_swapFirst 14 = .ok (.iload_n 1, 1) := by decide +kernel
theorem dX9_swapFirst_15 : decode cX9_swapFirst 15 = .ok (.iconst 1, 1) := by decide +kernel
theorem dX9_swapFirst_16 : decode cX9_swapFirst 16 = .ok (.iadd, 1) := by decide +kernel
theorem dX9_swapFirst_17 : decode cX9_swapFirst 17 = .ok (.istore_n 2, 1) := by decide +kernel
theorem dX9_swapFirst_18 : decode cX9_swapFirst 18 = .ok (.iload_n 2, 1) := by decide +kernel
theorem dX9_swapFirst_19 : decode cX9_swapFirst 19 = .ok (.iconst 2, 1) := by decide +kernel
theorem dX9_swapFirst_20 : decode cX9_swapFirst 20 = .ok (.aload_n 0, 1) := by decide +kernel
theorem dX9_swapFirst_21 : decode cX9_swapFirst 21 = .ok (.getfield 44, 3) := by decide +kernel
theorem dX9_swapFirst_24 : decode cX9_swapFirst 24 = .ok (.iconst 1, 1) := by decide +kernel
theorem dX9_swapFirst_25 : decode cX9_swapFirst 25 = .ok (.iaload, 1) := by decide +kernel
theorem dX9_swapFirst_26 : decode cX9_swapFirst 26 = .ok (.imul, 1) := by decide +kernel
theorem dX9_swapFirst_27 : decode cX9_swapFirst 27 = .ok (.if_icmp .ge 39, 3) := by decide +kernel
theorem dX9_swapFirst_30 : decode cX9_swapFirst 30 = .ok (.iload_n 1, 1) := by decide +kernel
theorem dX9_swapFirst_31 : decode cX9_swapFirst 31 = .ok (.iconst 2, 1) := by decide +kernel
theorem dX9_swapFirst_32 : decode cX9_swapFirst 32 = .ok (.idiv, 1) := by decide +kernel
theorem dX9_swapFirst_33 : decode cX9_swapFirst 33 = .ok (.iload_n 2, 1) := by decide +kernel
theorem dX9_swapFirst_34 : decode cX9_swapFirst 34 = .ok (.iconst 2, 1) := by decide +kernel
theorem dX9_swapFirst_35 : decode cX9_swapFirst 35 = .ok (.idiv, 1) := by decide +kernel
theorem dX9_swapFirst_36 : decode cX9_swapFirst 36 = .ok (.if_icmp .eq 24, 3) := by decide +kernel
theorem dX9_swapFirst_39 : decode cX9_swapFirst 39 = .ok (.aload_n 0, 1) := by decide +kernel
theorem dX9_swapFirst_40 : decode cX9_swapFirst 40 = .ok (.iload_n 1, 1) := by decide +kernel
theorem dX9_swapFirst_41 : decode cX9_swapFirst 41 = .ok (.iconst 2, 1) := by decide +kernel
theorem dX9_swapFirst_42 : decode cX9_swapFirst 42 = .ok (.idiv, 1) := by decide +kernel
theorem dX9_swapFirst_43 : decode cX9_swapFirst 43 = .ok (.iload_n 1, 1) := by decide +kernel
theorem dX9_swapFirst_44 : decode cX9_swapFirst 44 = .ok (.iconst 2, 1) := by decide +kernel
theorem dX9_swapFirst_45 : decode cX9_swapFirst 45 = .ok (.irem, 1) := by decide +kernel
theorem dX9_swapFirst_46 : decode cX9_swapFirst 46 = .ok (.iload_n 2, 1) := by decide +kernel
theorem dX9_swapFirst_47 : decode cX9_swapFirst 47 = .ok (.iconst 2, 1) := by decide +kernel
theorem dX9_swapFirst_48 : decode cX9_swapFirst 48 = .ok (.idiv, 1) := by decide +kernel
theorem dX9_swapFirst_49 : decode cX9_swapFirst 49 = .ok (.iload_n 2, 1) := by decide +kernel
theorem dX9_swapFirst_50 : decode cX9_swapFirst 50 = .ok (.iconst 2, 1) := by decide +kernel
theorem dX9_swapFirst_51 : decode cX9_swapFirst 51 = .ok (.irem, 1) := by decide +kernel
theorem dX9_swapFirst_52 : decode cX9_swapFirst 52 = .ok (.invokevirtual 248, 3) := by decide +kernel
theorem dX9_swapFirst_55 : decode cX9_swapFirst 55 = .ok (.ifCond .eq 5, 3) := by decide +kernel
theorem dX9_swapFirst_58 : decode cX9_swapFirst 58 = .ok (.iconst 1, 1) := by decide +kernel
theorem dX9_swapFirst_59 : decode cX9_swapFirst 59 = .ok (.ireturn, 1) := by decide +kernel
theorem dX9_swapFirst_60 : decode cX9_swapFirst 60 = .ok (.iinc 2 1, 3) := by decide +kernel
theorem dX9_swapFirst_63 : decode cX9_swapFirst 63 = .ok (.goto (-45), 3) := by decide +kernel
theorem dX9_swapFirst_66 : decode cX9_swapFirst 66 = .ok (.iinc 1 1, 3) := by decide +kernel
theorem dX9_swapFirst_69 : decode cX9_swapFirst 69 = .ok (.goto (-67), 3) := by decide +kernel
theorem dX9_swapFirst_72 : decode cX9_swapFirst 72 = .ok (.iconst 0, 1) := by decide +kernel
theorem dX9_swapFirst_73 : decode cX9_swapFirst 73 = .ok (.ireturn, 1) := by decide +kernel
theorem dX9_swap_0 : decode cX9_swap 0 = .ok (.iconst 0, 1) := by decide +kernel
theorem dX9_swap_1 : decode cX9_swap 1 = .ok (.istore_n 1, 1) := by decide +kernel
theorem dX9_swap_2 : decode cX9_swap 2 = .ok (.iload_n 1, 1) := by decide +kernel
theorem dX9_swap_3 : decode cX9_swap 3 = .ok (.bipush 50, 2) := by decide +kernel
theorem dX9_swap_5 : decode cX9_swap 5 = .ok (.if_icmp .ge 16, 3) := by decide +kernel
theorem dX9_swap_8 : decode cX9_swap 8 = .ok (.aload_n 0, 1) := by decide +kernel
theorem dX9_swap_9 : decode cX9_swap 9 = .ok (.invokevirtual 252, 3) := by decide +kernel
theorem dX9_swap_12 : decode cX9_swap 12 = .ok (.ifCond .eq 9, 3) := by decide +kernel
theorem dX9_swap_15 : decode cX9_swap 15 = .ok (.iinc 1 1, 3) := by decide +kernel
theorem dX9_swap_18 : decode cX9_swap 18 = .ok (.goto (-16), 3) := by decide +kernel
theorem dX9_swap_21 : decode cX9_swap 21 = .ok (.iload_n 1, 1) := by decide +kernel
theorem dX9_swap_22 : decode cX9_swap 22 = .ok (.ireturn, 1) := by decide +kernel
theorem dX9_hasHalf_0 : decode cX9_hasHalf 0 = .ok (.iconst 0, 1) := by decide +kernel
theorem dX9_hasHalf_1 : decode cX9_hasHalf 1 = .ok (.istore_n 2, 1) := by decide +kernel
theorem dX9_hasHalf_2 : decode cX9_hasHalf 2 = .ok (.iconst 0, 1) := by decide +kernel
theorem dX9_hasHalf_3 : decode cX9_hasHalf 3 = .ok (.istore_n 3, 1) := by decide +kernel
theorem dX9_hasHalf_4 : decode cX9_hasHalf 4 = .ok (.iload_n 3, 1) := by decide +kernel
theorem dX9_hasHalf_5 : decode cX9_hasHalf 5 = .ok (.aload_n 0, 1) := by decide +kernel
theorem dX9_hasHalf_6 : decode cX9_hasHalf 6 = .ok (.getfield 44, 3) := by decide +kernel
theorem dX9_hasHalf_9 : decode cX9_hasHalf 9 = .ok (.iconst 1, 1) := by decide +kernel
theorem dX9_hasHalf_10 : decode cX9_hasHalf 10 = .ok (.iaload, 1) := by decide +kernel
theorem dX9_hasHalf_11 : decode cX9_hasHalf 11 = .ok (.if_icmp .ge 50, 3) := by decide +kernel
theorem dX9_hasHalf_14 : decode cX9_hasHalf 14 = .ok (.iload_n 2, 1) := by decide +kernel
theorem dX9_hasHalf_15 : decode cX9_hasHalf 15 = .ok (.ifCond .ne 34, 3) := by decide +kernel
theorem dX9_hasHalf_18 : decode cX9_hasHalf 18 = .ok (.aload_n 0, 1) := by decide +kernel
theorem dX9_hasHalf_19 : decode cX9_hasHalf 19 = .ok (.iload_n 3, 1) := by decide +kernel
theorem dX9_hasHalf_20 : decode cX9_hasHalf 20 = .ok (.invokevirtual 182, 3) := by decide +kernel
theorem dX9_hasHalf_23 : decode cX9_hasHalf 23 = .ok (.ifCond .eq 30, 3) := by decide +kernel
theorem dX9_hasHalf_26 : decode cX9_hasHalf 26 = .ok (.aload_n 0, 1) := by decide +kernel
theorem dX9_hasHalf_27 : decode cX9_hasHalf 27 = .ok (.getfield 7, 3) := by decide +kernel
theorem dX9_hasHalf_30 : decode cX9_hasHalf 30 = .ok (.iload_n 3, 1) := by decide +kernel
theorem dX9_hasHalf_31 : decode cX9_hasHalf 31 = .ok (.iaload, 1) := by decide +kernel
theorem dX9_hasHalf_32 : decode cX9_hasHalf 32 = .ok (.iload_n 1, 1) := by decide +kernel
theorem dX9_hasHalf_33 : decode cX9_hasHalf 33 = .ok (.if_icmp .eq 16, 3) := by decide +kernel
theorem dX9_hasHalf_36 : decode cX9_hasHalf 36 = .ok (.aload_n 0, 1) := by decide +kernel
theorem dX9_hasHalf_37 : decode cX9_hasHalf 37 = .ok (.getfield 7, 3) := by decide +kernel
theorem dX9_hasHalf_40 : decode cX9_hasHalf 40 = .ok (.bipush 8, 2) := by decide +kernel
theorem dX9_hasHalf_42 : decode cX9_hasHalf 42 = .ok (.iload_n 3, 1) := by decide +kernel
theorem dX9_hasHalf_43 : decode cX9_hasHalf 43 = .ok (.iadd, 1) := by decide +kernel
theorem dX9_hasHalf_44 : decode cX9_hasHalf 44 = .ok (.iaload, 1) := by decide +kernel
theorem dX9_hasHalf_45 : decode cX9_hasHalf 45 = .ok (.iload_n 1, 1) := by decide +kernel
theorem dX9_hasHalf_46 : decode cX9_hasHalf 46 = .ok (.if_icmp .ne 7, 3) := by decide +kernel
theorem dX9_hasHalf_49 : decode cX9_hasHalf 49 = .ok (.iconst 1, 1) := by decide +kernel
theorem dX9_hasHalf_50 : decode cX9_hasHalf 50 = .ok (.goto 4, 3) := by decide +kernel
theorem dX9_hasHalf_53 : decode cX9_hasHalf 53 = .ok (.iconst 0, 1) := by decide +kernel
theorem dX9_hasHalf_54 : decode cX9_hasHalf 54 = .ok (.istore_n 2, 1) := by decide +kernel
theorem dX9_hasHalf_55 : decode cX9_hasHalf 55 = .ok (.iinc 3 1, 3) := by decide +kernel
theorem dX9_hasHalf_58 : decode cX9_hasHalf 58 = .ok (.goto (-54), 3) := by decide +kernel
theorem dX9_hasHalf_61 : decode cX9_hasHalf 61 = .ok (.iload_n 2, 1) := by decide +kernel
theorem dX9_hasHalf_62 : decode cX9_hasHalf 62 = .ok (.ireturn, 1) := by decide +kernel
theorem dX9_areClad_0 : decode cX9_areClad 0 = .ok (.iconst 0, 1) := by decide +kernel
theorem dX9_areClad_1 : decode cX9_areClad 1 = .ok (.istore_n 2, 1) := by decide +kernel
theorem dX9_areClad_2 : decode cX9_areClad 2 = .ok (.iload_n 2, 1) := by decide +kernel
theorem dX9_areClad_3 : decode cX9_areClad 3 = .ok (.sipush 256, 3) := by decide +kernel
theorem dX9_areClad_6 : decode cX9_areClad 6 = .ok (.if_icmp .ge 27, 3) := by decide +kernel
theorem dX9_areClad_9 : decode cX9_areClad 9 = .ok (.aload_n 0, 1) := by decide +kernel
theorem dX9_areClad_10 : decode cX9_areClad 10 = .ok (.getfield 60, 3) := by decide +kernel
theorem dX9_areClad_13 : decode cX9_areClad 13 = .ok (.iload_n 2, 1) := by decide +kernel
theorem dX9_areClad_14 : decode cX9_areClad 14 = .ok (.iload_n 2, 1) := by decide +kernel
theorem dX9_areClad_15 : decode cX9_areClad 15 = .ok (.ifCond .ne 7, 3) := by decide +kernel
theorem dX9_areClad_18 : decode cX9_areClad 18 = .ok (.iconst 1, 1) := by decide +kernel
theorem dX9_areClad_19 : decode cX9_areClad 19 = .ok (.goto 4, 3) := by decide +kernel
theorem dX9_areClad_22 : decode cX9_areClad 22 = .ok (.iconst 0, 1) := by decide +kernel
theorem dX9_areClad_23 : decode cX9_areClad 23 = .ok (.invokestatic 185, 3) := by decide +kernel
theorem dX9_areClad_26 : decode cX9_areClad 26 = .ok (.iastore, 1) := by decide +kernel
theorem dX9_areClad_27 : decode cX9_areClad 27 = .ok (.iinc 2 1, 3) := by decide +kernel
theorem dX9_areClad_30 : decode cX9_areClad 30 = .ok (.goto (-28), 3) := by decide +kernel
theorem dX9_areClad_33 : decode cX9_areClad 33 = .ok (.iconst 0, 1) := by decide +kernel
theorem dX9_areClad_34 : decode cX9_areClad 34 = .ok (.istore_n 2, 1) := by decide +kernel
theorem dX9_areClad_35 : decode cX9_areClad 35 = .ok (.iload_n 2, 1) := by decide +kernel
theorem dX9_areClad_36 : decode cX9_areClad 36 = .ok (.aload_n 0, 1) := by decide +kernel
theorem dX9_areClad_37 : decode cX9_areClad 37 = .ok (.getfield 44, 3) := by decide +kernel
theorem dX9_areClad_40 : decode cX9_areClad 40 = .ok (.iconst 1, 1) := by decide +kernel
theorem dX9_areClad_41 : decode cX9_areClad 41 = .ok (.iaload, 1) := by decide +kernel
theorem dX9_areClad_42 : decode cX9_areClad 42 = .ok (.if_icmp .ge 80, 3) := by decide +kernel
theorem dX9_areClad_45 : decode cX9_areClad 45 = .ok (.sipush 255, 3) := by decide +kernel
theorem dX9_areClad_48 : decode cX9_areClad 48 = .ok (.istore_n 3, 1) := by decide +kernel
theorem dX9_areClad_49 : decode cX9_areClad 49 = .ok (.iload_n 3, 1) := by decide +kernel
theorem dX9_areClad_50 : decode cX9_areClad 50 = .ok (.ifCond .lt 66, 3) := by decide +kernel
theorem dX9_areClad_53 : decode cX9_areClad 53 = .ok (.aload_n 0, 1) := by decide +kernel
theorem dX9_areClad_54 : decode cX9_areClad 54 = .ok (.iload_n 2, 1) := by decide +kernel
theorem dX9_areClad_55 : decode cX9_areClad 55 = .ok (.invokevirtual 182, 3) := by decide +kernel
theorem dX9_areClad_58 : decode cX9_areClad 58 = .ok (.ifCond .ne 58, 3) := by decide +kernel
theorem dX9_areClad_61 : decode cX9_areClad 61 = .ok (.aload_n 0, 1) := by decide +kernel
theorem dX9_areClad_62 : decode cX9_areClad 62 = .ok (.getfield 60, 3) := by decide +kernel
theorem dX9_areClad_65 : decode cX9_areClad 65 = .ok (.iload_n 3, 1) := by decide +kernel
theorem dX9_areClad_66 : decode cX9_areClad 66 = .ok (.iaload, 1) := by decide +kernel
theorem dX9_areClad_67 : decode cX9_areClad 67 = .ok (.iconst 1, 1) := by decide +kernel
theorem dX9_areClad_68 : decode cX9_areClad 68 = .ok (.if_icmp .ne 42, 3) := by decide +kernel
theorem dX9_areClad_71 : decode cX9_areClad 71 = .ok (.aload_n 0, 1) := by decide +kernel
theorem dX9_areClad_72 : decode cX9_areClad 72 = .ok (.getfield 60, 3) := by decide +kernel
theorem dX9_areClad_75 : decode cX9_areClad 75 = .ok (.iload_n 3, 1) := by decide +kernel
theorem dX9_areClad_76 : decode cX9_areClad 76 = .ok (.iconst 1, 1) := by decide +kernel
theorem dX9_areClad_77 : decode cX9_areClad 77 = .ok (.aload_n 0, 1) := by decide +kernel
theorem dX9_areClad_78 : decode cX9_areClad 78 = .ok (.getfield 7, 3) := by decide +kernel
theorem dX9_areClad_81 : decode cX9_areClad 81 = .ok (.iload_n 2, 1) := by decide +kernel
theorem dX9_areClad_82 : decode cX9_areClad 82 = .ok (.iaload, 1) := by decide +kernel
theorem dX9_areClad_83 : decode cX9_areClad 83 = .ok (.ishl, 1) := by decide +kernel
theorem dX9_areClad_84 : decode cX9_areClad 84 = .ok (.iload_n 1, 1) := by decide +kernel
theorem dX9_areClad_85 : decode cX9_areClad 85 = .ok (.iand, 1) := by decide +kernel
theorem dX9_areClad_86 : decode cX9_areClad 86 = .ok (.ior, 1) := by decide +kernel
theorem dX9_areClad_87 : decode cX9_areClad 87 = .ok (.iconst 1, 1) := by decide +kernel
theorem dX9_areClad_88 : decode cX9_areClad 88 = .ok (.iastore, 1) := by decide +kernel
theorem dX9_areClad_89 : decode cX9_areClad 89 = .ok (.aload_n 0, 1) := by decide +kernel
theorem dX9_areClad_90 : decode cX9_areClad 90 = .ok (.getfield 60, 3) := by decide +kernel
theorem dX9_areClad_93 : decode cX9_areClad 93 = .ok (.iload_n 3, 1) := by decide +kernel
theorem dX9_areClad_94 : decode cX9_areClad 94 = .ok (.iconst 1, 1) := by decide +kernel
theorem dX9_areClad_95 : decode cX9_areClad 95 = .ok (.aload_n 0, 1) := by decide +kernel
theorem dX9_areClad_96 : decode cX9_areClad 96 = .ok (.getfield 7, 3) := by decide +kernel
theorem dX9_areClad_99 : decode cX9_areClad 99 = .ok (.bipush 8, 2) := by decide +kernel
theorem dX9_areClad_101 : decode cX9_areClad 101 = .ok (.iload_n 2, 1) := by decide +kernel
theorem dX9_areClad_102 : decode cX9_areClad 102 = .ok (.iadd, 1) := by decide +kernel
theorem dX9_areClad_103 : decode cX9_areClad 103 = .ok (.iaload, 1) := by decide +kernel
theorem dX9_areClad_104 : decode cX9_areClad 104 = .ok (.ishl, 1) := by decide +kernel
theorem dX9_areClad_105 : decode cX9_areClad 105 = .ok (.iload_n 1, 1) := by decide +kernel
theorem dX9_areClad_106 : decode cX9_areClad 106 = .ok (.iand, 1) := by decide +kernel
theorem dX9_areClad_107 : decode cX9_areClad 107 = .ok (.ior, 1) := by decide +kernel
theorem dX9_areClad_108 : decode cX9_areClad 108 = .ok (.iconst 1, 1) := by decide +kernel
theorem dX9_areClad_109 : decode cX9_areClad 109 = .ok (.iastore, 1) := by decide +kernel
theorem dX9_areClad_110 : decode cX9_areClad 110 = .ok (.iinc 3 (-1), 3) := by decide +kernel
theorem dX9_areClad_113 : decode cX9_areClad 113 = .ok (.goto (-64), 3) := by decide +kernel
theorem dX9_areClad_116 : decode cX9_areClad 116 = .ok (.iinc 2 1, 3) := by decide +kernel
theorem dX9_areClad_119 : decode cX9_areClad 119 = .ok (.goto (-84), 3) := by decide +kernel
theorem dX9_areClad_122 : decode cX9_areClad 122 = .ok (.aload_n 0, 1) := by decide +kernel
theorem dX9_areClad_123 : decode cX9_areClad 123 = .ok (.getfield 60, 3) := by decide +kernel
theorem dX9_areClad_126 : decode cX9_areClad 126 = .ok (.iload_n 1, 1) := by decide +kernel
theorem dX9_areClad_127 : decode cX9_areClad 127 = .ok (.iaload, 1) := by decide +kernel
theorem dX9_areClad_128 : decode cX9_areClad 128 = .ok (.iconst 1, 1) := by decide +kernel
theorem dX9_areClad_129 : decode cX9_areClad 129 = .ok (.if_icmp .ne 7, 3) := by decide +kernel
theorem dX9_areClad_132 : decode cX9_areClad 132 = .ok (.iconst 1, 1) := by decide +kernel
theorem dX9_areClad_133 : decode cX9_areClad 133 = .ok (.goto 4, 3) := by decide +kernel
theorem dX9_areClad_136 : decode cX9_areClad 136 = .ok (.iconst 0, 1) := by decide +kernel
theorem dX9_areClad_137 : decode cX9_areClad 137 = .ok (.ireturn, 1) := by decide +kernel
theorem dX9_canAll_0 : decode cX9_canAll 0 = .ok (.iconst 0, 1) := by decide +kernel
theorem dX9_canAll_1 : decode cX9_canAll 1 = .ok (.istore_n 2, 1) := by decide +kernel
theorem dX9_canAll_2 : decode cX9_canAll 2 = .ok (.iload_n 2, 1) := by decide +kernel
theorem dX9_canAll_3 : decode cX9_canAll 3 = .ok (.bipush 24, 2) := by decide +kernel
theorem dX9_canAll_5 : decode cX9_canAll 5 = .ok (.if_icmp .ge 79, 3) := by decide +kernel
theorem dX9_canAll_8 : decode cX9_canAll 8 = .ok (.iconst 0, 1) := by decide +kernel
theorem dX9_canAll_9 : decode cX9_canAll 9 = .ok (.istore_n 3, 1) := by decide +kernel
theorem dX9_canAll_10 : decode cX9_canAll 10 = .ok (.iconst 0, 1) := by decide +kernel
theorem dX9_canAll_11 : decode cX9_canAll 11 = .ok (.istore 4, 2) := by decide +kernel
theorem dX9_canAll_13 : decode cX9_canAll 13 = .ok (.iload 4, 2) := by decide +kernel
theorem dX9_canAll_15 : decode cX9_canAll 15 = .ok (.aload_n 0, 1) := by decide +kernel
theorem dX9_canAll_16 : decode cX9_canAll 16 = .ok (.getfield 44, 3) := by decide +kernel
theorem dX9_canAll_19 : decode cX9_canAll 19 = .ok (.iconst 0, 1) := by decide +kernel
theorem dX9_canAll_20 : decode cX9_canAll 20 = .ok (.iaload, 1) := by decide +kernel
theorem dX9_canAll_21 : decode cX9_canAll 21 = .ok (.if_icmp .ge 43, 3) := by decide +kernel
theorem dX9_canAll_24 : decode cX9_canAll 24 = .ok (.iload_n 3, 1) := by decide +kernel
theorem dX9_canAll_25 : decode cX9_canAll 25 = .ok (.aload_n 0, 1) := by decide +kernel
theorem dX9_canAll_26 : decode cX9_canAll 26 = .ok (.iload 4, 2) := by decide +kernel
theorem dX9_canAll_28 : decode cX9_canAll 28 = .ok (.iload_n 2, 1) := by decide +kernel
theorem dX9_canAll_29 : decode cX9_canAll 29 = .ok (.iload_n 1, 1) := by decide +kernel
theorem dX9_canAll_30 : decode cX9_canAll 30 = .ok (.invokevirtual 164, 3) := by decide +kernel
theorem dX9_canAll_33 : decode cX9_canAll 33 = .ok (.ifCond .lt 16, 3) := by decide +kernel
theorem dX9_canAll_36 : decode cX9_canAll 36 = .ok (.aload_n 0, 1) := by decide +kernel
theorem dX9_canAll_37 : decode cX9_canAll 37 = .ok (.iload 4, 2) := by decide +kernel
theorem dX9_canAll_39 : decode cX9_canAll 39 = .ok (.invokevirtual 256, 3) := by decide +kernel
theorem dX9_canAll_42 : decode cX9_canAll 42 = .ok (.ifCond .ne 7, 3) := by decide +kernel
theorem dX9_canAll_45 : decode cX9_canAll 45 = .ok (.iconst 1, 1) := by decide +kernel
theorem dX9_canAll_46 : decode cX9_canAll 46 = .ok (.goto 4, 3) := by decide +kernel
theorem dX9_canAll_49 : decode cX9_canAll 49 = .ok (.iconst 0, 1) := by decide +kernel
theorem dX9_canAll_50 : decode cX9_canAll 50 = .ok (.invokestatic 185, 3) := by decide +kernel
theorem dX9_canAll_53 : decode cX9_canAll 53 = .ok (.iload 4, 2) := by decide +kernel
theorem dX9_canAll_55 : decode cX9_canAll 55 = .ok (.ishl, 1) := by decide +kernel
theorem dX9_canAll_56 : decode cX9_canAll 56 = .ok (.ior, 1) := by decide +kernel
theorem dX9_canAll_57 : decode cX9_canAll 57 = .ok (.istore_n 3, 1) := by decide +kernel
theorem dX9_canAll_58 : decode cX9_canAll 58 = .ok (.iinc 4 1, 3) := by decide +kernel
theorem dX9_canAll_61 : decode cX9_canAll 61 = .ok (.goto (-48), 3) := by decide +kernel
theorem dX9_canAll_64 : decode cX9_canAll 64 = .ok (.iload_n 3, 1) := by decide +kernel
theorem dX9_canAll_65 : decode cX9_canAll 65 = .ok (.ifCond .le 13, 3) := by decide +kernel
theorem dX9_canAll_68 : decode cX9_canAll 68 = .ok (.aload_n 0, 1) := by decide +kernel
theorem dX9_canAll_69 : decode cX9_canAll 69 = .ok (.iload_n 3, 1) := by decide +kernel
theorem dX9_canAll_70 : decode cX9_canAll 70 = .ok (.invokevirtual 259, 3) := by decide +kernel
theorem dX9_canAll_73 : decode cX9_canAll 73 = .ok (.ifCond .ne 5, 3) := by decide +kernel
theorem dX9_canAll_76 : decode cX9_canAll 76 = .ok (.iconst 0, 1) := by decide +kernel
theorem dX9_canAll_77 : decode cX9_canAll 77 = .ok (.ireturn, 1) := by decide +kernel
theorem dX9_canAll_78 : decode cX9_canAll 78 = .ok (.iinc 2 1, 3) := by decide +kernel
theorem dX9_canAll_81 : decode cX9_canAll 81 = .ok (.goto (-79), 3) := by decide +kernel
theorem dX9_canAll_84 : decode cX9_canAll 84 = .ok (.iconst 1, 1) := by decide +kernel
theorem dX9_canAll_85 : decode cX9_canAll 85 = .ok (.ireturn, 1) := by decide +kernel
theorem dX9_most_0 : decode cX9_most 0 = .ok (.iconst 0, 1) := by decide +kernel
theorem dX9_most_1 : decode cX9_most 1 = .ok (.istore_n 1, 1) := by decide +kernel
theorem dX9_most_2 : decode cX9_most 2 = .ok (.iconst 1, 1) := by decide +kernel
theorem dX9_most_3 : decode cX9_most 3 = .ok (.istore_n 2, 1) := by decide +kernel
theorem dX9_most_4 : decode cX9_most 4 = .ok (.iload_n 2, 1) := by decide +kernel
theorem dX9_most_5 : decode cX9_most 5 = .ok (.iconst 1, 1) := by decide +kernel
theorem dX9_most_6 : decode cX9_most 6 = .ok (.aload_n 0, 1) := by decide +kernel
theorem dX9_most_7 : decode cX9_most 7 = .ok (.getfield 44, 3) := by decide +kernel
theorem dX9_most_10 : decode cX9_most 10 = .ok (.iconst 2, 1) := by decide +kernel
theorem dX9_most_11 : decode cX9_most 11 = .ok (.iaload, 1) := by decide +kernel
theorem dX9_most_12 : decode cX9_most 12 = .ok (.ishl, 1) := by decide +kernel
theorem dX9_most_13 : decode cX9_most 13 = .ok (.if_icmp .ge 34, 3) := by decide +kernel
theorem dX9_most_16 : decode cX9_most 16 = .ok (.iload_n 2, 1) := by decide +kernel
theorem dX9_most_17 : decode cX9_most 17 = .ok (.invokestatic 198, 3) := by decide +kernel
theorem dX9_most_20 : decode cX9_most 20 = .ok (.iload_n 1, 1) := by decide +kernel
theorem dX9_most_21 : decode cX9_most 21 = .ok (.invokestatic 198, 3) := by decide +kernel
theorem dX9_most_24 : decode cX9_most 24 = .ok (.if_icmp .le 15, 3) := by decide +kernel
theorem dX9_most_27 : decode cX9_most 27 = .ok (.aload_n 0, 1) := by decide +kernel
theorem dX9_most_28 : decode cX9_most 28 = .ok (.iload_n 2, 1) := by decide +kernel
theorem dX9_most_29 : decode cX9_most 29 = .ok (.invokevirtual 262, 3) := by decide +kernel
theorem dX9_most_32 : decode cX9_most 32 = .ok (.ifCond .eq 7, 3) := by decide +kernel
theorem dX9_most_35 : decode cX9_most 35 = .ok (.iload_n 2, 1) := by decide +kernel
theorem dX9_most_36 : decode cX9_most 36 = .ok (.goto 4, 3) := by decide +kernel
theorem dX9_most_39 : decode cX9_most 39 = .ok (.iload_n 1, 1) := by decide +kernel
theorem dX9_most_40 : decode cX9_most 40 = .ok (.istore_n 1, 1) := by decide +kernel
theorem dX9_most_41 : decode cX9_most 41 = .ok (.iinc 2 1, 3) := by decide +kernel
theorem dX9_most_44 : decode cX9_most 44 = .ok (.goto (-40), 3) := by decide +kernel
theorem dX9_most_47 : decode cX9_most 47 = .ok (.iload_n 1, 1) := by decide +kernel
theorem dX9_most_48 : decode cX9_most 48 = .ok (.ireturn, 1) := by decide +kernel
theorem dX9_gainOf_0 : decode cX9_gainOf 0 = .ok (.aload_n 0, 1) := by decide +kernel
theorem dX9_gainOf_1 : decode cX9_gainOf 1 = .ok (.invokevirtual 171, 3) := by decide +kernel
theorem dX9_gainOf_4 : decode cX9_gainOf 4 = .ok (.istore_n 2, 1) := by decide +kernel
theorem dX9_gainOf_5 : decode cX9_gainOf 5 = .ok (.aload_n 0, 1) := by decide +kernel
theorem dX9_gainOf_6 : decode cX9_gainOf 6 = .ok (.getfield 7, 3) := by decide +kernel
theorem dX9_gainOf_9 : decode cX9_gainOf 9 = .ok (.bipush 16, 2) := by decide +kernel
theorem dX9_gainOf_11 : decode cX9_gainOf 11 = .ok (.dup2, 1) := by decide +kernel
theorem dX9_gainOf_12 : decode cX9_gainOf 12 = .ok (.iaload, 1) := by decide +kernel
theorem dX9_gainOf_13 : decode cX9_gainOf 13 = .ok (.iconst 1, 1) := by decide +kernel
theorem dX9_gainOf_14 : decode cX9_gainOf 14 = .ok (.iload_n 1, 1) := by decide +kernel
theorem dX9_gainOf_15 : decode cX9_gainOf 15 = .ok (.ishl, 1) := by decide +kernel
theorem dX9_gainOf_16 : decode cX9_gainOf 16 = .ok (.ior, 1) := by decide +kernel
theorem dX9_gainOf_17 : decode cX9_gainOf 17 = .ok (.iastore, 1) := by decide +kernel
theorem dX9_gainOf_18 : decode cX9_gainOf 18 = .ok (.aload_n 0, 1) := by decide +kernel
theorem dX9_gainOf_19 : decode cX9_gainOf 19 = .ok (.invokevirtual 171, 3) := by decide +kernel
theorem dX9_gainOf_22 : decode cX9_gainOf 22 = .ok (.istore_n 3, 1) := by decide +kernel
theorem dX9_gainOf_23 : decode cX9_gainOf 23 = .ok (.aload_n 0, 1) := by decide +kernel
theorem dX9_gainOf_24 : decode cX9_gainOf 24 = .ok (.getfield 7, 3) := by decide +kernel
theorem dX9_gainOf_27 : decode cX9_gainOf 27 = .ok (.bipush 16, 2) := by decide +kernel
theorem dX9_gainOf_29 : decode cX9_gainOf 29 = .ok (.dup2, 1) := by decide +kernel
theorem dX9_gainOf_30 : decode cX9_gainOf 30 = .ok (.iaload, 1) := by decide +kernel
theorem dX9_gainOf_31 : decode cX9_gainOf 31 = .ok (.iconst 1, 1) := by decide +kernel
theorem dX9_gainOf_32 : decode cX9_gainOf 32 = .ok (.iload_n 1, 1) := by decide +kernel
theorem dX9_gainOf_33 : decode cX9_gainOf 33 = .ok (.ishl, 1) := by decide +kernel
theorem dX9_gainOf_34 : decode cX9_gainOf 34 = .ok (.iconst (-1), 1) := by decide +kernel
theorem dX9_gainOf_35 : decode cX9_gainOf 35 = .ok (.ixor, 1) := by decide +kernel
theorem dX9_gainOf_36 : decode cX9_gainOf 36 = .ok (.iand, 1) := by decide +kernel
theorem dX9_gainOf_37 : decode cX9_gainOf 37 = .ok (.iastore, 1) := by decide +kernel
theorem dX9_gainOf_38 : decode cX9_gainOf 38 = .ok (.iload_n 2, 1) := by decide +kernel
theorem dX9_gainOf_39 : decode cX9_gainOf 39 = .ok (.iload_n 3, 1) := by decide +kernel
theorem dX9_gainOf_40 : decode cX9_gainOf 40 = .ok (.isub, 1) := by decide +kernel
theorem dX9_gainOf_41 : decode cX9_gainOf 41 = .ok (.ireturn, 1) := by decide +kernel
theorem dX9_gain_0 : decode cX9_gain 0 = .ok (.aload_n 0, 1) := by decide +kernel
theorem dX9_gain_1 : decode cX9_gain 1 = .ok (.iload_n 1, 1) := by decide +kernel
theorem dX9_gain_2 : decode cX9_gain 2 = .ok (.invokevirtual 177, 3) := by decide +kernel
theorem dX9_gain_5 : decode cX9_gain 5 = .ok (.ifCond .ne 6, 3) := by decide +kernel
theorem dX9_gain_8 : decode cX9_gain 8 = .ok (.ldc 181, 2) := by decide +kernel
theorem dX9_gain_10 : decode cX9_gain 10 = .ok (.ireturn, 1) := by decide +kernel
theorem dX9_gain_11 : decode cX9_gain 11 = .ok (.aload_n 0, 1) := by decide +kernel
theorem dX9_gain_12 : decode cX9_gain 12 = .ok (.iload_n 1, 1) := by decide +kernel
theorem dX9_gain_13 : decode cX9_gain 13 = .ok (.invokevirtual 182, 3) := by decide +kernel
theorem dX9_gain_16 : decode cX9_gain 16 = .ok (.ifCond .eq 8, 3) := by decide +kernel
theorem dX9_gain_19 : decode cX9_gain 19 = .ok (.ldc 213, 2) := by decide +kernel
theorem dX9_gain_21 : decode cX9_gain 21 = .ok (.goto 8, 3) := by decide +kernel
theorem dX9_gain_24 : decode cX9_gain 24 = .ok (.aload_n 0, 1) := by decide +kernel
theorem dX9_gain_25 : decode cX9_gain 25 = .ok (.iload_n 1, 1) := by decide +kernel
theorem dX9_gain_26 : decode cX9_gain 26 = .ok (.invokevirtual 265, 3) := by decide +kernel
theorem dX9_gain_29 : decode cX9_gain 29 = .ok (.ireturn, 1) := by decide +kernel
theorem dX9_best_0 : decode cX9_best 0 = .ok (.iconst (-1), 1) := by decide +kernel
theorem dX9_best_1 : decode cX9_best 1 = .ok (.istore_n 1, 1) := by decide +kernel
theorem dX9_best_2 : decode cX9_best 2 = .ok (.iconst 0, 1) := by decide +kernel
theorem dX9_best_3 : decode cX9_best 3 = .ok (.istore_n 2, 1) := by decide +kernel
theorem dX9_best_4 : decode cX9_best 4 = .ok (.iconst 0, 1) := by decide +kernel
theorem dX9_best_5 : decode cX9_best 5 = .ok (.istore_n 3, 1) := by decide +kernel
theorem dX9_best_6 : decode cX9_best 6 = .ok (.iload_n 3, 1) := by decide +kernel
theorem dX9_best_7 : decode cX9_best 7 = .ok (.aload_n 0, 1) := by decide +kernel
theorem dX9_best_8 : decode cX9_best 8 = .ok (.getfield 44, 3) := by decide +kernel
theorem dX9_best_11 : decode cX9_best 11 = .ok (.iconst 1, 1) := by decide +kernel
theorem dX9_best_12 : decode cX9_best 12 = .ok (.iaload, 1) := by decide +kernel
theorem dX9_best_13 : decode cX9_best 13 = .ok (.if_icmp .ge 51, 3) := by decide +kernel
theorem dX9_best_16 : decode cX9_best 16 = .ok (.aload_n 0, 1) := by decide +kernel
theorem dX9_best_17 : decode cX9_best 17 = .ok (.iload_n 3, 1) := by decide +kernel
theorem dX9_best_18 : decode cX9_best 18 = .ok (.invokevirtual 182, 3) := by decide +kernel
theorem dX9_best_21 : decode cX9_best 21 = .ok (.ifCond .eq 7, 3) := by decide +kernel
theorem dX9_best_24 : decode cX9_best 24 = .ok (.iconst 0, 1) := by decide +kernel
theorem dX9_best_25 : decode cX9_best 25 = .ok (.goto 8, 3) := by decide +kernel
theorem dX9_best_28 : decode cX9_best 28 = .ok (.aload_n 0, 1) := by decide +kernel
theorem dX9_best_29 : decode cX9_best 29 = .ok (.iload_n 3, 1) := by decide +kernel
theorem dX9_best_30 : decode cX9_best 30 = .ok (.invokevirtual 265, 3) := by decide +kernel
theorem dX9_best_33 : decode cX9_best 33 = .ok (.istore 4, 2) := by decide +kernel
theorem dX9_best_35 : decode cX9_best 35 = .ok (.aload_n 0, 1) := by decide +kernel
theorem dX9_best_36 : decode cX9_best 36 = .ok (.iload_n 3, 1) := by decide +kernel
theorem dX9_best_37 : decode cX9_best 37 = .ok (.invokevirtual 182, 3) := by decide +kernel
theorem dX9_best_40 : decode cX9_best 40 = .ok (.ifCond .ne 18, 3) := by decide +kernel
theorem dX9_best_43 : decode cX9_best 43 = .ok (.iload_n 1, 1) := by decide +kernel
theorem dX9_best_44 : decode cX9_best 44 = .ok (.ifCond .lt 9, 3) := by decide +kernel
theorem dX9_best_47 : decode cX9_best 47 = .ok (.iload 4, 2) := by decide +kernel
theorem dX9_best_49 : decode cX9_best 49 = .ok (.iload_n 2, 1) := by decide +kernel
theorem dX9_best_50 : decode cX9_best 50 = .ok (.if_icmp .le 8, 3) := by decide +kernel
theorem dX9_best_53 : decode cX9_best 53 = .ok (.iload_n 3, 1) := by decide +kernel
theorem dX9_best_54 : decode cX9_best 54 = .ok (.istore_n 1, 1) := by decide +kernel
theorem dX9_best_55 : decode cX9_best 55 = .ok (.iload 4, 2) := by decide +kernel
theorem dX9_best_57 : decode cX9_best 57 = .ok (.istore_n 2, 1) := by decide +kernel
theorem dX9_best_58 : decode cX9_best 58 = .ok (.iinc 3 1, 3) := by decide +kernel
theorem dX9_best_61 : decode cX9_best 61 = .ok (.goto (-55), 3) := by decide +kernel
theorem dX9_best_64 : decode cX9_best 64 = .ok (.iload_n 1, 1) := by decide +kernel
theorem dX9_best_65 : decode cX9_best 65 = .ok (.ireturn, 1) := by decide +kernel
theorem dX9_see_0 : decode cX9_see 0 = .ok (.aload_n 0, 1) := by decide +kernel
theorem dX9_see_1 : decode cX9_see 1 = .ok (.iload_n 1, 1) := by decide +kernel
theorem dX9_see_2 : decode cX9_see 2 = .ok (.invokevirtual 177, 3) := by decide +kernel
theorem dX9_see_5 : decode cX9_see 5 = .ok (.ifCond .ne 6, 3) := by decide +kernel
theorem dX9_see_8 : decode cX9_see 8 = .ok (.ldc 181, 2) := by decide +kernel
theorem dX9_see_10 : decode cX9_see 10 = .ok (.ireturn, 1) := by decide +kernel
theorem dX9_see_11 : decode cX9_see 11 = .ok (.iload_n 2, 1) := by decide +kernel
theorem dX9_see_12 : decode cX9_see 12 = .ok (.i2l, 1) := by decide +kernel
theorem dX9_see_13 : decode cX9_see 13 = .ok (.lconst 0, 1) := by decide +kernel
theorem dX9_see_14 : decode cX9_see 14 = .ok (.ldc2_w 268, 3) := by decide +kernel
theorem dX9_see_17 : decode cX9_see 17 = .ok (.invokestatic 71, 3) := by decide +kernel
theorem dX9_see_20 : decode cX9_see 20 = .ok (.ifCond .eq 15, 3) := by decide +kernel
theorem dX9_see_23 : decode cX9_see 23 = .ok (.iload_n 3, 1) := by decide +kernel
theorem dX9_see_24 : decode cX9_see 24 = .ok (.i2l, 1) := by decide +kernel
theorem dX9_see_25 : decode cX9_see 25 = .ok (.lconst 0, 1) := by decide +kernel
theorem dX9_see_26 : decode cX9_see 26 = .ok (.ldc2_w 192, 3) := by decide +kernel
theorem dX9_see_29 : decode cX9_see 29 = .ok (.invokestatic 71, 3) := by decide +kernel
theorem dX9_see_32 : decode cX9_see 32 = .ok (.ifCond .ne 6, 3) := by decide +kernel
theorem dX9_see_35 : decode cX9_see 35 = .ok (.ldc 75, 2) := by decide +kernel
theorem dX9_see_37 : decode cX9_see 37 = .ok (.ireturn, 1) := by decide +kernel
theorem dX9_see_38 : decode cX9_see 38 = .ok (.aload_n 0, 1) := by decide +kernel
theorem dX9_see_39 : decode cX9_see 39 = .ok (.getfield 154, 3) := by decide +kernel
theorem dX9_see_42 : decode cX9_see 42 = .ok (.bipush 30, 2) := by decide +kernel
theorem dX9_see_44 : decode cX9_see 44 = .ok (.if_icmp .ne 6, 3) := by decide +kernel
theorem dX9_see_47 : decode cX9_see 47 = .ok (.ldc 79, 2) := by decide +kernel
theorem dX9_see_49 : decode cX9_see 49 = .ok (.ireturn, 1) := by decide +kernel
theorem dX9_see_50 : decode cX9_see 50 = .ok (.aload_n 0, 1) := by decide +kernel
theorem dX9_see_51 : decode cX9_see 51 = .ok (.getfield 63, 3) := by decide +kernel
theorem dX9_see_54 : decode cX9_see 54 = .ok (.iconst 3, 1) := by decide +kernel
theorem dX9_see_55 : decode cX9_see 55 = .ok (.aload_n 0, 1) := by decide +kernel
theorem dX9_see_56 : decode cX9_see 56 = .ok (.getfield 154, 3) := by decide +kernel
theorem dX9_see_59 : decode cX9_see 59 = .ok (.imul, 1) := by decide +kernel
theorem dX9_see_60 : decode cX9_see 60 = .ok (.iload_n 1, 1) := by decide +kernel
theorem dX9_see_61 : decode cX9_see 61 = .ok (.iastore, 1) := by decide +kernel
theorem dX9_see_62 : decode cX9_see 62 = .ok (.aload_n 0, 1) := by decide +kernel
theorem dX9_see_63 : decode cX9_see 63 = .ok (.getfield 63, 3) := by decide +kernel
theorem dX9_see_66 : decode cX9_see 66 = .ok (.iconst 3, 1) := by decide +kernel
theorem dX9_see_67 : decode cX9_see 67 = .ok (.aload_n 0, 1) := by decide +kernel
theorem dX9_see_68 : decode cX9_see 68 = .ok (.getfield 154, 3) := by decide +kernel
theorem dX9_see_71 : decode cX9_see 71 = .ok (.imul, 1) := by decide +kernel
theorem dX9_see_72 : decode cX9_see 72 = .ok (.iconst 1, 1) := by decide +kernel
theorem dX9_see_73 : decode cX9_see 73 = .ok (.iadd, 1) := by decide +kernel
theorem dX9_see_74 : decode cX9_see 74 = .ok (.iload_n 2, 1) := by decide +kernel
theorem dX9_see_75 : decode cX9_see 75 = .ok (.iastore, 1) := by decide +kernel
theorem dX9_see_76 : decode cX9_see 76 = .ok (.aload_n 0, 1) := by decide +kernel
theorem dX9_see_77 : decode cX9_see 77 = .ok (.getfield 63, 3) := by decide +kernel
theorem dX9_see_80 : decode cX9_see 80 = .ok (.iconst 3, 1) := by decide +kernel
theorem dX9_see_81 : decode cX9_see 81 = .ok (.aload_n 0, 1) := by decide +kernel
theorem dX9_see_82 : decode cX9_see 82 = .ok (.getfield 154, 3) := by decide +kernel
theorem dX9_see_85 : decode cX9_see 85 = .ok (.imul, 1) := by decide +kernel
theorem dX9_see_86 : decode cX9_see 86 = .ok (.iconst 2, 1) := by decide +kernel
theorem dX9_see_87 : decode cX9_see 87 = .ok (.iadd, 1) := by decide +kernel
theorem dX9_see_88 : decode cX9_see 88 = .ok (.iload_n 3, 1) := by decide +kernel
theorem dX9_see_89 : decode cX9_see 89 = .ok (.iastore, 1) := by decide +kernel
theorem dX9_see_90 : decode cX9_see 90 = .ok (.aload_n 0, 1) := by decide +kernel
theorem dX9_see_91 : decode cX9_see 91 = .ok (.dup, 1) := by decide +kernel
theorem dX9_see_92 : decode cX9_see 92 = .ok (.getfield 154, 3) := by decide +kernel
theorem dX9_see_95 : decode cX9_see 95 = .ok (.iconst 1, 1) := by decide +kernel
theorem dX9_see_96 : decode cX9_see 96 = .ok (.iadd, 1) := by decide +kernel
theorem dX9_see_97 : decode cX9_see 97 = .ok (.putfield 154, 3) := by decide +kernel
theorem dX9_see_100 : decode cX9_see 100 = .ok (.aload_n 0, 1) := by decide +kernel
theorem dX9_see_101 : decode cX9_see 101 = .ok (.getfield 154, 3) := by decide +kernel
theorem dX9_see_104 : decode cX9_see 104 = .ok (.ireturn, 1) := by decide +kernel
theorem dX9_woreAt_0 : decode cX9_woreAt 0 = .ok (.aload_n 0, 1) := by decide +kernel
theorem dX9_woreAt_1 : decode cX9_woreAt 1 = .ok (.getfield 63, 3) := by decide +kernel
theorem dX9_woreAt_4 : decode cX9_woreAt 4 = .ok (.iconst 3, 1) := by decide +kernel
theorem dX9_woreAt_5 : decode cX9_woreAt 5 = .ok (.iload_n 1, 1) := by decide +kernel
theorem dX9_woreAt_6 : decode cX9_woreAt 6 = .ok (.imul, 1) := by decide +kernel
theorem dX9_woreAt_7 : decode cX9_woreAt 7 = .ok (.iaload, 1) := by decide +kernel
theorem dX9_woreAt_8 : decode cX9_woreAt 8 = .ok (.istore_n 2, 1) := by decide +kernel
theorem dX9_woreAt_9 : decode cX9_woreAt 9 = .ok (.aload_n 0, 1) := by decide +kernel
theorem dX9_woreAt_10 : decode cX9_woreAt 10 = .ok (.getfield 63, 3) := by decide +kernel
theorem dX9_woreAt_13 : decode cX9_woreAt 13 = .ok (.iconst 3, 1) := by decide +kernel
theorem dX9_woreAt_14 : decode cX9_woreAt 14 = .ok (.iload_n 1, 1) := by decide +kernel
theorem dX9_woreAt_15 : decode cX9_woreAt 15 = .ok (.imul, 1) := by decide +kernel
theorem dX9_woreAt_16 : decode cX9_woreAt 16 = .ok (.iconst 2, 1) := by decide +kernel
theorem dX9_woreAt_17 : decode cX9_woreAt 17 = .ok (.iadd, 1) := by decide +kernel
theorem dX9_woreAt_18 : decode cX9_woreAt 18 = .ok (.iaload, 1) := by decide +kernel
theorem dX9_woreAt_19 : decode cX9_woreAt 19 = .ok (.istore_n 3, 1) := by decide +kernel
theorem dX9_woreAt_20 : decode cX9_woreAt 20 = .ok (.aload_n 0, 1) := by decide +kernel
theorem dX9_woreAt_21 : decode cX9_woreAt 21 = .ok (.aload_n 0, 1) := by decide +kernel
theorem dX9_woreAt_22 : decode cX9_woreAt 22 = .ok (.getfield 7, 3) := by decide +kernel
theorem dX9_woreAt_25 : decode cX9_woreAt 25 = .ok (.iload_n 2, 1) := by decide +kernel
theorem dX9_woreAt_26 : decode cX9_woreAt 26 = .ok (.iaload, 1) := by decide +kernel
theorem dX9_woreAt_27 : decode cX9_woreAt 27 = .ok (.iload_n 3, 1) := by decide +kernel
theorem dX9_woreAt_28 : decode cX9_woreAt 28 = .ok (.invokevirtual 168, 3) := by decide +kernel
theorem dX9_woreAt_31 : decode cX9_woreAt 31 = .ok (.aload_n 0, 1) := by decide +kernel
theorem dX9_woreAt_32 : decode cX9_woreAt 32 = .ok (.getfield 63, 3) := by decide +kernel
theorem dX9_woreAt_35 : decode cX9_woreAt 35 = .ok (.iconst 3, 1) := by decide +kernel
theorem dX9_woreAt_36 : decode cX9_woreAt 36 = .ok (.iload_n 1, 1) := by decide +kernel
theorem dX9_woreAt_37 : decode cX9_woreAt 37 = .ok (.imul, 1) := by decide +kernel
theorem dX9_woreAt_38 : decode cX9_woreAt 38 = .ok (.iconst 1, 1) := by decide +kernel
theorem dX9_woreAt_39 : decode cX9_woreAt 39 = .ok (.iadd, 1) := by decide +kernel
theorem dX9_woreAt_40 : decode cX9_woreAt 40 = .ok (.iaload, 1) := by decide +kernel
theorem dX9_woreAt_41 : decode cX9_woreAt 41 = .ok (.if_icmp .ne 7, 3) := by decide +kernel
theorem dX9_woreAt_44 : decode cX9_woreAt 44 = .ok (.iconst 1, 1) := by decide +kernel
theorem dX9_woreAt_45 : decode cX9_woreAt 45 = .ok (.goto 4, 3) := by decide +kernel
theorem dX9_woreAt_48 : decode cX9_woreAt 48 = .ok (.iconst 0, 1) := by decide +kernel
theorem dX9_woreAt_49 : decode cX9_woreAt 49 = .ok (.invokestatic 185, 3) := by decide +kernel
theorem dX9_woreAt_52 : decode cX9_woreAt 52 = .ok (.aload_n 0, 1) := by decide +kernel
theorem dX9_woreAt_53 : decode cX9_woreAt 53 = .ok (.getfield 7, 3) := by decide +kernel
theorem dX9_woreAt_56 : decode cX9_woreAt 56 = .ok (.iload_n 2, 1) := by decide +kernel
theorem dX9_woreAt_57 : decode cX9_woreAt 57 = .ok (.iaload, 1) := by decide +kernel
theorem dX9_woreAt_58 : decode cX9_woreAt 58 = .ok (.ishl, 1) := by decide +kernel
theorem dX9_woreAt_59 : decode cX9_woreAt 59 = .ok (.istore 4, 2) := by decide +kernel
theorem dX9_woreAt_61 : decode cX9_woreAt 61 = .ok (.iload 4, 2) := by decide +kernel
theorem dX9_woreAt_63 : decode cX9_woreAt 63 = .ok (.aload_n 0, 1) := by decide +kernel
theorem dX9_woreAt_64 : decode cX9_woreAt 64 = .ok (.aload_n 0, 1) := by decide +kernel
theorem dX9_woreAt_65 : decode cX9_woreAt 65 = .ok (.getfield 7, 3) := by decide +kernel
theorem dX9_woreAt_68 : decode cX9_woreAt 68 = .ok (.bipush 8, 2) := by decide +kernel
theorem dX9_woreAt_70 : decode cX9_woreAt 70 = .ok (.iload_n 2, 1) := by decide +kernel
theorem dX9_woreAt_71 : decode cX9_woreAt 71 = .ok (.iadd, 1) := by decide +kernel
theorem dX9_woreAt_72 : decode cX9_woreAt 72 = .ok (.iaload, 1) := by decide +kernel
theorem dX9_woreAt_73 : decode cX9_woreAt 73 = .ok (.iload_n 3, 1) := by decide +kernel
theorem dX9_woreAt_74 : decode cX9_woreAt 74 = .ok (.invokevirtual 168, 3) := by decide +kernel
theorem dX9_woreAt_77 : decode cX9_woreAt 77 = .ok (.aload_n 0, 1) := by decide +kernel
theorem dX9_woreAt_78 : decode cX9_woreAt 78 = .ok (.getfield 63, 3) := by decide +kernel
theorem dX9_woreAt_81 : decode cX9_woreAt 81 = .ok (.iconst 3, 1) := by decide +kernel
theorem dX9_woreAt_82 : decode cX9_woreAt 82 = .ok (.iload_n 1, 1) := by decide +kernel
theorem dX9_woreAt_83 : decode cX9_woreAt 83 = .ok (.imul, 1) := by decide +kernel
theorem dX9_woreAt_84 : decode cX9_woreAt 84 = .ok (.iconst 1, 1) := by decide +kernel
theorem dX9_woreAt_85 : decode cX9_woreAt 85 = .ok (.iadd, 1) := by decide +kernel
theorem dX9_woreAt_86 : decode cX9_woreAt 86 = .ok (.iaload, 1) := by decide +kernel
theorem dX9_woreAt_87 : decode cX9_woreAt 87 = .ok (.if_icmp .ne 7, 3) := by decide +kernel
theorem dX9_woreAt_90 : decode cX9_woreAt 90 = .ok (.iconst 1, 1) := by decide +kernel
theorem dX9_woreAt_91 : decode cX9_woreAt 91 = .ok (.goto 4, 3) := by decide +kernel
theorem dX9_woreAt_94 : decode cX9_woreAt 94 = .ok (.iconst 0, 1) := by decide +kernel
theorem dX9_woreAt_95 : decode cX9_woreAt 95 = .ok (.invokestatic 185, 3) := by decide +kernel
theorem dX9_woreAt_98 : decode cX9_woreAt 98 = .ok (.aload_n 0, 1) := by decide +kernel
theorem dX9_woreAt_99 : decode cX9_woreAt 99 = .ok (.getfield 7, 3) := by decide +kernel
theorem dX9_woreAt_102 : decode cX9_woreAt 102 = .ok (.bipush 8, 2) := by decide +kernel
theorem dX9_woreAt_104 : decode cX9_woreAt 104 = .ok (.iload_n 2, 1) := by decide +kernel
theorem dX9_woreAt_105 : decode cX9_woreAt 105 = .ok (.iadd, 1) := by decide +kernel
theorem dX9_woreAt_106 : decode cX9_woreAt 106 = .ok (.iaload, 1) := by decide +kernel
theorem dX9_woreAt_107 : decode cX9_woreAt 107 = .ok (.ishl, 1) := by decide +kernel
theorem dX9_woreAt_108 : decode cX9_woreAt 108 = .ok (.ior, 1) := by decide +kernel
theorem dX9_woreAt_109 : decode cX9_woreAt 109 = .ok (.ireturn, 1) := by decide +kernel
theorem dX9_wore_0 : decode cX9_wore 0 = .ok (.iload_n 1, 1) := by decide +kernel
theorem dX9_wore_1 : decode cX9_wore 1 = .ok (.i2l, 1) := by decide +kernel
theorem dX9_wore_2 : decode cX9_wore 2 = .ok (.lconst 0, 1) := by decide +kernel
theorem dX9_wore_3 : decode cX9_wore 3 = .ok (.aload_n 0, 1) := by decide +kernel
theorem dX9_wore_4 : decode cX9_wore 4 = .ok (.getfield 154, 3) := by decide +kernel
theorem dX9_wore_7 : decode cX9_wore 7 = .ok (.iconst 1, 1) := by decide +kernel
theorem dX9_wore_8 : decode cX9_wore 8 = .ok (.isub, 1) := by decide +kernel
theorem dX9_wore_9 : decode cX9_wore 9 = .ok (.i2l, 1) := by decide +kernel
theorem dX9_wore_10 : decode cX9_wore 10 = .ok (.invokestatic 71, 3) := by decide +kernel
theorem dX9_wore_13 : decode cX9_wore 13 = .ok (.ifCond .eq 11, 3) := by decide +kernel
theorem dX9_wore_16 : decode cX9_wore 16 = .ok (.aload_n 0, 1) := by decide +kernel
theorem dX9_wore_17 : decode cX9_wore 17 = .ok (.iload_n 1, 1) := by decide +kernel
theorem dX9_wore_18 : decode cX9_wore 18 = .ok (.invokevirtual 270, 3) := by decide +kernel
theorem dX9_wore_21 : decode cX9_wore 21 = .ok (.goto 5, 3) := by decide +kernel
theorem dX9_wore_24 : decode cX9_wore 24 = .ok (.ldc 181, 2) := by decide +kernel
theorem dX9_wore_26 : decode cX9_wore 26 = .ok (.ireturn, 1) := by decide +kernel
theorem dX9_theft_0 : decode cX9_theft 0 = .ok (.iconst 0, 1) := by decide +kernel
theorem dX9_theft_1 : decode cX9_theft 1 = .ok (.istore_n 1, 1) := by decide +kernel
theorem dX9_theft_2 : decode cX9_theft 2 = .ok (.iload_n 1, 1) := by decide +kernel
theorem dX9_theft_3 : decode cX9_theft 3 = .ok (.aload_n 0, 1) := by decide +kernel
theorem dX9_theft_4 : decode cX9_theft 4 = .ok (.getfield 154, 3) := by decide +kernel
theorem dX9_theft_7 : decode cX9_theft 7 = .ok (.if_icmp .ge 117, 3) := by decide +kernel
theorem dX9_theft_10 : decode cX9_theft 10 = .ok (.aload_n 0, 1) := by decide +kernel
theorem dX9_theft_11 : decode cX9_theft 11 = .ok (.iload_n 1, 1) := by decide +kernel
theorem dX9_theft_12 : decode cX9_theft 12 = .ok (.invokevirtual 270, 3) := by decide +kernel
theorem dX9_theft_15 : decode cX9_theft 15 = .ok (.ifCond .ne 7, 3) := by decide +kernel
theorem dX9_theft_18 : decode cX9_theft 18 = .ok (.iconst 1, 1) := by decide +kernel
theorem dX9_theft_19 : decode cX9_theft 19 = .ok (.goto 4, 3) := by decide +kernel
theorem dX9_theft_22 : decode cX9_theft 22 = .ok (.iconst 0, 1) := by decide +kernel
theorem dX9_theft_23 : decode cX9_theft 23 = .ok (.istore_n 2, 1) := by decide +kernel
theorem dX9_theft_24 : decode cX9_theft 24 = .ok (.iconst 0, 1) := by decide +kernel
theorem dX9_theft_25 : decode cX9_theft 25 = .ok (.istore_n 3, 1) := by decide +kernel
theorem dX9_theft_26 : decode cX9_theft 26 = .ok (.iload_n 3, 1) := by decide +kernel
theorem dX9_theft_27 : decode cX9_theft 27 = .ok (.iload_n 1, 1) := by decide +kernel
theorem dX9_theft_28 : decode cX9_theft 28 = .ok (.if_icmp .ge 84, 3) := by decide +kernel
theorem dX9_theft_31 : decode cX9_theft 31 = .ok (.iload_n 2, 1) := by decide +kernel
theorem dX9_theft_32 : decode cX9_theft 32 = .ok (.ifCond .ne 68, 3) := by decide +kernel
theorem dX9_theft_35 : decode cX9_theft 35 = .ok (.aload_n 0, 1) := by decide +kernel
theorem dX9_theft_36 : decode cX9_theft 36 = .ok (.getfield 63, 3) := by decide +kernel
theorem dX9_theft_39 : decode cX9_theft 39 = .ok (.iconst 3, 1) := by decide +kernel
theorem dX9_theft_40 : decode cX9_theft 40 = .ok (.iload_n 3, 1) := by decide +kernel
theorem dX9_theft_41 : decode cX9_theft 41 = .ok (.imul, 1) := by decide +kernel
theorem dX9_theft_42 : decode cX9_theft 42 = .ok (.iaload, 1) := by decide +kernel
theorem dX9_theft_43 : decode cX9_theft 43 = .ok (.aload_n 0, 1) := by decide +kernel
theorem dX9_theft_44 : decode cX9_theft 44 = .ok (.getfield 63, 3) := by decide +kernel
theorem dX9_theft_47 : decode cX9_theft 47 = .ok (.iconst 3, 1) := by decide +kernel
theorem dX9_theft_48 : decode cX9_theft 48 = .ok (.iload_n 1, 1) := by decide +kernel
theorem dX9_theft_49 : decode cX9_theft 49 = .ok (.imul, 1) := by decide +kernel
theorem dX9_theft_50 : decode cX9_theft 50 = .ok (.iaload, 1) := by decide +kernel
theorem dX9_theft_51 : decode cX9_theft 51 = .ok (.if_icmp .ne 53, 3) := by decide +kernel
theorem dX9_theft_54 : decode cX9_theft 54 = .ok (.aload_n 0, 1) := by decide +kernel
theorem dX9_theft_55 : decode cX9_theft 55 = .ok (.getfield 63, 3) := by decide +kernel
theorem dX9_theft_58 : decode cX9_theft 58 = .ok (.iconst 3, 1) := by decide +kernel
theorem dX9_theft_59 : decode cX9_theft 59 = .ok (.iload_n 3, 1) := by decide +kernel
theorem dX9_theft_60 : decode cX9_theft 60 = .ok (.imul, 1) := by decide +kernel
theorem dX9_theft_61 : decode cX9_theft 61 = .ok (.iconst 2, 1) := by decide +kernel
theorem dX9_theft_62 : decode cX9_theft 62 = .ok (.iadd, 1) := by decide +kernel
theorem dX9_theft_63 : decode cX9_theft 63 = .ok (.iaload, 1) := by decide +kernel
theorem dX9_theft_64 : decode cX9_theft 64 = .ok (.aload_n 0, 1) := by decide +kernel
theorem dX9_theft_65 : decode cX9_theft 65 = .ok (.getfield 63, 3) := by decide +kernel
theorem dX9_theft_68 : decode cX9_theft 68 = .ok (.iconst 3, 1) := by decide +kernel
theorem dX9_theft_69 : decode cX9_theft 69 = .ok (.iload_n 1, 1) := by decide +kernel
theorem dX9_theft_70 : decode cX9_theft 70 = .ok (.imul, 1) := by decide +kernel
theorem dX9_theft_71 : decode cX9_theft 71 = .ok (.iconst 2, 1) := by decide +kernel
theorem dX9_theft_72 : decode cX9_theft 72 = .ok (.iadd, 1) := by decide +kernel
theorem dX9_theft_73 : decode cX9_theft 73 = .ok (.iaload, 1) := by decide +kernel
theorem dX9_theft_74 : decode cX9_theft 74 = .ok (.if_icmp .ne 30, 3) := by decide +kernel
theorem dX9_theft_77 : decode cX9_theft 77 = .ok (.aload_n 0, 1) := by decide +kernel
theorem dX9_theft_78 : decode cX9_theft 78 = .ok (.getfield 63, 3) := by decide +kernel
theorem dX9_theft_81 : decode cX9_theft 81 = .ok (.iconst 3, 1) := by decide +kernel
theorem dX9_theft_82 : decode cX9_theft 82 = .ok (.iload_n 3, 1) := by decide +kernel
theorem dX9_theft_83 : decode cX9_theft 83 = .ok (.imul, 1) := by decide +kernel
theorem dX9_theft_84 : decode cX9_theft 84 = .ok (.iconst 1, 1) := by decide +kernel
theorem dX9_theft_85 : decode cX9_theft 85 = .ok (.iadd, 1) := by decide +kernel
theorem dX9_theft_86 : decode cX9_theft 86 = .ok (.iaload, 1) := by decide +kernel
theorem dX9_theft_87 : decode cX9_theft 87 = .ok (.aload_n 0, 1) := by decide +kernel
theorem dX9_theft_88 : decode cX9_theft 88 = .ok (.getfield 63, 3) := by decide +kernel
theorem dX9_theft_91 : decode cX9_theft 91 = .ok (.iconst 3, 1) := by decide +kernel
theorem dX9_theft_92 : decode cX9_theft 92 = .ok (.iload_n 1, 1) := by decide +kernel
theorem dX9_theft_93 : decode cX9_theft 93 = .ok (.imul, 1) := by decide +kernel
theorem dX9_theft_94 : decode cX9_theft 94 = .ok (.iconst 1, 1) := by decide +kernel
theorem dX9_theft_95 : decode cX9_theft 95 = .ok (.iadd, 1) := by decide +kernel
theorem dX9_theft_96 : decode cX9_theft 96 = .ok (.iaload, 1) := by decide +kernel
theorem dX9_theft_97 : decode cX9_theft 97 = .ok (.if_icmp .eq 7, 3) := by decide +kernel
theorem dX9_theft_100 : decode cX9_theft 100 = .ok (.iconst 1, 1) := by decide +kernel
theorem dX9_theft_101 : decode cX9_theft 101 = .ok (.goto 4, 3) := by decide +kernel
theorem dX9_theft_104 : decode cX9_theft 104 = .ok (.iconst 0, 1) := by decide +kernel
theorem dX9_theft_105 : decode cX9_theft 105 = .ok (.istore_n 2, 1) := by decide +kernel
theorem dX9_theft_106 : decode cX9_theft 106 = .ok (.iinc 3 1, 3) := by decide +kernel
theorem dX9_theft_109 : decode cX9_theft 109 = .ok (.goto (-83), 3) := by decide +kernel
theorem dX9_theft_112 : decode cX9_theft 112 = .ok (.iload_n 2, 1) := by decide +kernel
theorem dX9_theft_113 : decode cX9_theft 113 = .ok (.ifCond .eq 5, 3) := by decide +kernel
theorem dX9_theft_116 : decode cX9_theft 116 = .ok (.iload_n 1, 1) := by decide +kernel
theorem dX9_theft_117 : decode cX9_theft 117 = .ok (.ireturn, 1) := by decide +kernel
theorem dX9_theft_118 : decode cX9_theft 118 = .ok (.iinc 1 1, 3) := by decide +kernel
theorem dX9_theft_121 : decode cX9_theft 121 = .ok (.goto (-119), 3) := by decide +kernel
theorem dX9_theft_124 : decode cX9_theft 124 = .ok (.iconst (-1), 1) := by decide +kernel
theorem dX9_theft_125 : decode cX9_theft 125 = .ok (.ireturn, 1) := by decide +kernel
theorem dX9_write_0 : decode cX9_write 0 = .ok (.aload_n 0, 1) := by decide +kernel
theorem dX9_write_1 : decode cX9_write 1 = .ok (.iload_n 2, 1) := by decide +kernel
theorem dX9_write_2 : decode cX9_write 2 = .ok (.invokevirtual 177, 3) := by decide +kernel
theorem dX9_write_5 : decode cX9_write 5 = .ok (.ifCond .ne 6, 3) := by decide +kernel
theorem dX9_write_8 : decode cX9_write 8 = .ok (.ldc 181, 2) := by decide +kernel
theorem dX9_write_10 : decode cX9_write 10 = .ok (.ireturn, 1) := by decide +kernel
theorem dX9_write_11 : decode cX9_write 11 = .ok (.iload_n 1, 1) := by decide +kernel
theorem dX9_write_12 : decode cX9_write 12 = .ok (.i2l, 1) := by decide +kernel
theorem dX9_write_13 : decode cX9_write 13 = .ok (.lconst 0, 1) := by decide +kernel
theorem dX9_write_14 : decode cX9_write 14 = .ok (.ldc2_w 192, 3) := by decide +kernel
theorem dX9_write_17 : decode cX9_write 17 = .ok (.invokestatic 71, 3) := by decide +kernel
theorem dX9_write_20 : decode cX9_write 20 = .ok (.ifCond .eq 15, 3) := by decide +kernel
theorem dX9_write_23 : decode cX9_write 23 = .ok (.iload_n 3, 1) := by decide +kernel
theorem dX9_write_24 : decode cX9_write 24 = .ok (.i2l, 1) := by decide +kernel
theorem dX9_write_25 : decode cX9_write 25 = .ok (.lconst 0, 1) := by decide +kernel
theorem dX9_write_26 : decode cX9_write 26 = .ok (.ldc2_w 273, 3) := by decide +kernel
theorem dX9_write_29 : decode cX9_write 29 = .ok (.invokestatic 71, 3) := by decide +kernel
theorem dX9_write_32 : decode cX9_write 32 = .ok (.ifCond .ne 6, 3) := by decide +kernel
theorem dX9_write_35 : decode cX9_write 35 = .ok (.ldc 75, 2) := by decide +kernel
theorem dX9_write_37 : decode cX9_write 37 = .ok (.ireturn, 1) := by decide +kernel
theorem dX9_write_38 : decode cX9_write 38 = .ok (.aload_n 0, 1) := by decide +kernel
theorem dX9_write_39 : decode cX9_write 39 = .ok (.getfield 157, 3) := by decide +kernel
theorem dX9_write_42 : decode cX9_write 42 = .ok (.bipush 30, 2) := by decide +kernel
theorem dX9_write_44 : decode cX9_write 44 = .ok (.if_icmp .ne 6, 3) := by decide +kernel
theorem dX9_write_47 : decode cX9_write 47 = .ok (.ldc 79, 2) := by decide +kernel
theorem dX9_write_49 : decode cX9_write 49 = .ok (.ireturn, 1) := by decide +kernel
theorem dX9_write_50 : decode cX9_write 50 = .ok (.aload_n 0, 1) := by decide +kernel
theorem dX9_write_51 : decode cX9_write 51 = .ok (.getfield 66, 3) := by decide +kernel
theorem dX9_write_54 : decode cX9_write 54 = .ok (.iconst 3, 1) := by decide +kernel
theorem dX9_write_55 : decode cX9_write 55 = .ok (.aload_n 0, 1) := by decide +kernel
theorem dX9_write_56 : decode cX9_write 56 = .ok (.getfield 157, 3) := by decide +kernel
theorem dX9_write_59 : decode cX9_write 59 = .ok (.imul, 1) := by decide +kernel
theorem dX9_write_60 : decode cX9_write 60 = .ok (.iload_n 1, 1) := by decide +kernel
theorem dX9_write_61 : decode cX9_write 61 = .ok (.iastore, 1) := by decide +kernel
theorem dX9_write_62 : decode cX9_write 62 = .ok (.aload_n 0, 1) := by decide +kernel
theorem dX9_write_63 : decode cX9_write 63 = .ok (.getfield 66, 3) := by decide +kernel
theorem dX9_write_66 : decode cX9_write 66 = .ok (.iconst 3, 1) := by decide +kernel
theorem dX9_write_67 : decode cX9_write 67 = .ok (.aload_n 0, 1) := by decide +kernel
theorem dX9_write_68 : decode cX9_write 68 = .ok (.getfield 157, 3) := by decide +kernel
theorem dX9_write_71 : decode cX9_write 71 = .ok (.imul, 1) := by decide +kernel
theorem dX9_write_72 : decode cX9_write 72 = .ok (.iconst 1, 1) := by decide +kernel
theorem dX9_write_73 : decode cX9_write 73 = .ok (.iadd, 1) := by decide +kernel
theorem dX9_write_74 : decode cX9_write 74 = .ok (.iload_n 2, 1) := by decide +kernel
theorem dX9_write_75 : decode cX9_write 75 = .ok (.iastore, 1) := by decide +kernel
theorem dX9_write_76 : decode cX9_write 76 = .ok (.aload_n 0, 1) := by decide +kernel
theorem dX9_write_77 : decode cX9_write 77 = .ok (.getfield 66, 3) := by decide +kernel
theorem dX9_write_80 : decode cX9_write 80 = .ok (.iconst 3, 1) := by decide +kernel
theorem dX9_write_81 : decode cX9_write 81 = .ok (.aload_n 0, 1) := by decide +kernel
theorem dX9_write_82 : decode cX9_write 82 = .ok (.getfield 157, 3) := by decide +kernel
theorem dX9_write_85 : decode cX9_write 85 = .ok (.imul, 1) := by decide +kernel
theorem dX9_write_86 : decode cX9_write 86 = .ok (.iconst 2, 1) := by decide +kernel
theorem dX9_write_87 : decode cX9_write 87 = .ok (.iadd, 1) := by decide +kernel
theorem dX9_write_88 : decode cX9_write 88 = .ok (.iload_n 3, 1) := by decide +kernel
theorem dX9_write_89 : decode cX9_write 89 = .ok (.iastore, 1) := by decide +kernel
theorem dX9_write_90 : decode cX9_write 90 = .ok (.aload_n 0, 1) := by decide +kernel
theorem dX9_write_91 : decode cX9_write 91 = .ok (.dup, 1) := by decide +kernel
theorem dX9_write_92 : decode cX9_write 92 = .ok (.getfield 157, 3) := by decide +kernel
theorem dX9_write_95 : decode cX9_write 95 = .ok (.iconst 1, 1) := by decide +kernel
theorem dX9_write_96 : decode cX9_write 96 = .ok (.iadd, 1) := by decide +kernel
theorem dX9_write_97 : decode cX9_write 97 = .ok (.putfield 157, 3) := by decide +kernel
theorem dX9_write_100 : decode cX9_write 100 = .ok (.aload_n 0, 1) := by decide +kernel
theorem dX9_write_101 : decode cX9_write 101 = .ok (.getfield 157, 3) := by decide +kernel
theorem dX9_write_104 : decode cX9_write 104 = .ok (.ireturn, 1) := by decide +kernel
theorem dX9_tear_0 : decode cX9_tear 0 = .ok (.aload_n 0, 1) := by decide +kernel
theorem dX9_tear_1 : decode cX9_tear 1 = .ok (.getfield 154, 3) := by decide +kernel
theorem dX9_tear_4 : decode cX9_tear 4 = .ok (.aload_n 0, 1) := by decide +kernel
theorem dX9_tear_5 : decode cX9_tear 5 = .ok (.getfield 157, 3) := by decide +kernel
theorem dX9_tear_8 : decode cX9_tear 8 = .ok (.iadd, 1) := by decide +kernel
theorem dX9_tear_9 : decode cX9_tear 9 = .ok (.istore_n 1, 1) := by decide +kernel
theorem dX9_tear_10 : decode cX9_tear 10 = .ok (.aload_n 0, 1) := by decide +kernel
theorem dX9_tear_11 : decode cX9_tear 11 = .ok (.iconst 0, 1) := by decide +kernel
theorem dX9_tear_12 : decode cX9_tear 12 = .ok (.putfield 154, 3) := by decide +kernel
theorem dX9_tear_15 : decode cX9_tear 15 = .ok (.aload_n 0, 1) := by decide +kernel
theorem dX9_tear_16 : decode cX9_tear 16 = .ok (.iconst 0, 1) := by decide +kernel
theorem dX9_tear_17 : decode cX9_tear 17 = .ok (.putfield 157, 3) := by decide +kernel
theorem dX9_tear_20 : decode cX9_tear 20 = .ok (.iload_n 1, 1) := by decide +kernel
theorem dX9_tear_21 : decode cX9_tear 21 = .ok (.ireturn, 1) := by decide +kernel
theorem dX9_judge_0 : decode cX9_judge 0 = .ok (.iconst 0, 1) := by decide +kernel
theorem dX9_judge_1 : decode cX9_judge 1 = .ok (.istore_n 1, 1) := by decide +kernel
theorem dX9_judge_2 : decode cX9_judge 2 = .ok (.iload_n 1, 1) := by decide +kernel
theorem dX9_judge_3 : decode cX9_judge 3 = .ok (.aload_n 0, 1) := by decide +kernel
theorem dX9_judge_4 : decode cX9_judge 4 = .ok (.getfield 157, 3) := by decide +kernel
theorem dX9_judge_7 : decode cX9_judge 7 = .ok (.if_icmp .ge 154, 3) := by decide +kernel
theorem dX9_judge_10 : decode cX9_judge 10 = .ok (.aload_n 0, 1) := by decide +kernel
theorem dX9_judge_11 : decode cX9_judge 11 = .ok (.getfield 66, 3) := by decide +kernel
theorem dX9_judge_14 : decode cX9_judge 14 = .ok (.iconst 3, 1) := by decide +kernel
theorem dX9_judge_15 : decode cX9_judge 15 = .ok (.iload_n 1, 1) := by decide +kernel
theorem dX9_judge_16 : decode cX9_judge 16 = .ok (.imul, 1) := by decide +kernel
theorem dX9_judge_17 : decode cX9_judge 17 = .ok (.iaload, 1) := by decide +kernel
theorem dX9_judge_18 : decode cX9_judge 18 = .ok (.istore_n 2, 1) := by decide +kernel
theorem dX9_judge_19 : decode cX9_judge 19 = .ok (.aload_n 0, 1) := by decide +kernel
theorem dX9_judge_20 : decode cX9_judge 20 = .ok (.getfield 66, 3) := by decide +kernel
theorem dX9_judge_23 : decode cX9_judge 23 = .ok (.iconst 3, 1) := by decide +kernel
theorem dX9_judge_24 : decode cX9_judge 24 = .ok (.iload_n 1, 1) := by decide +kernel
theorem dX9_judge_25 : decode cX9_judge 25 = .ok (.imul, 1) := by decide +kernel
theorem dX9_judge_26 : decode cX9_judge 26 = .ok (.iconst 1, 1) := by decide +kernel
theorem dX9_judge_27 : decode cX9_judge 27 = .ok (.iadd, 1) := by decide +kernel
theorem dX9_judge_28 : decode cX9_judge 28 = .ok (.iaload, 1) := by decide +kernel
theorem dX9_judge_29 : decode cX9_judge 29 = .ok (.istore_n 3, 1) := by decide +kernel
theorem dX9_judge_30 : decode cX9_judge 30 = .ok (.aload_n 0, 1) := by decide +kernel
theorem dX9_judge_31 : decode cX9_judge 31 = .ok (.iload_n 2, 1) := by decide +kernel
theorem dX9_judge_32 : decode cX9_judge 32 = .ok (.iload_n 3, 1) := by decide +kernel
theorem dX9_judge_33 : decode cX9_judge 33 = .ok (.aload_n 0, 1) := by decide +kernel
theorem dX9_judge_34 : decode cX9_judge 34 = .ok (.getfield 66, 3) := by decide +kernel
theorem dX9_judge_37 : decode cX9_judge 37 = .ok (.iconst 3, 1) := by decide +kernel
theorem dX9_judge_38 : decode cX9_judge 38 = .ok (.iload_n 1, 1) := by decide +kernel
theorem dX9_judge_39 : decode cX9_judge 39 = .ok (.imul, 1) := by decide +kernel
theorem dX9_judge_40 : decode cX9_judge 40 = .ok (.iconst 2, 1) := by decide +kernel
theorem dX9_judge_41 : decode cX9_judge 41 = .ok (.iadd, 1) := by decide +kernel
theorem dX9_judge_42 : decode cX9_judge 42 = .ok (.iaload, 1) := by decide +kernel
theorem dX9_judge_43 : decode cX9_judge 43 = .ok (.invokevirtual 222, 3) := by decide +kernel
theorem dX9_judge_46 : decode cX9_judge 46 = .ok (.istore 4, 2) := by decide +kernel
theorem dX9_judge_48 : decode cX9_judge 48 = .ok (.iload 4, 2) := by decide +kernel
theorem dX9_judge_50 : decode cX9_judge 50 = .ok (.ifCond .ge 7, 3) := by decide +kernel
theorem dX9_judge_53 : decode cX9_judge 53 = .ok (.iconst 1, 1) := by decide +kernel
theorem dX9_judge_54 : decode cX9_judge 54 = .ok (.goto 4, 3) := by decide +kernel
theorem dX9_judge_57 : decode cX9_judge 57 = .ok (.iconst 0, 1) := by decide +kernel
theorem dX9_judge_58 : decode cX9_judge 58 = .ok (.istore 5, 2) := by decide +kernel
theorem dX9_judge_60 : decode cX9_judge 60 = .ok (.iconst 0, 1) := by decide +kernel
theorem dX9_judge_61 : decode cX9_judge 61 = .ok (.istore 6, 2) := by decide +kernel
theorem dX9_judge_63 : decode cX9_judge 63 = .ok (.iload 6, 2) := by decide +kernel
theorem dX9_judge_65 : decode cX9_judge 65 = .ok (.iload_n 1, 1) := by decide +kernel
theorem dX9_judge_66 : decode cX9_judge 66 = .ok (.if_icmp .ge 82, 3) := by decide +kernel
theorem dX9_judge_69 : decode cX9_judge 69 = .ok (.iload 5, 2) := by decide +kernel
theorem dX9_judge_71 : decode cX9_judge 71 = .ok (.ifCond .ne 77, 3) := by decide +kernel
theorem dX9_judge_74 : decode cX9_judge 74 = .ok (.aload_n 0, 1) := by decide +kernel
theorem dX9_judge_75 : decode cX9_judge 75 = .ok (.getfield 66, 3) := by decide +kernel
theorem dX9_judge_78 : decode cX9_judge 78 = .ok (.iconst 3, 1) := by decide +kernel
theorem dX9_judge_79 : decode cX9_judge 79 = .ok (.iload 6, 2) := by decide +kernel
theorem dX9_judge_81 : decode cX9_judge 81 = .ok (.imul, 1) := by decide +kernel
theorem dX9_judge_82 : decode cX9_judge 82 = .ok (.iaload, 1) := by decide +kernel
theorem dX9_judge_83 : decode cX9_judge 83 = .ok (.iload_n 2, 1) := by decide +kernel
theorem dX9_judge_84 : decode cX9_judge 84 = .ok (.if_icmp .ne 55, 3) := by decide +kernel
theorem dX9_judge_87 : decode cX9_judge 87 = .ok (.aload_n 0, 1) := by decide +kernel
theorem dX9_judge_88 : decode cX9_judge 88 = .ok (.getfield 66, 3) := by decide +kernel
theorem dX9_judge_91 : decode cX9_judge 91 = .ok (.iconst 3, 1) := by decide +kernel
theorem dX9_judge_92 : decode cX9_judge 92 = .ok (.iload 6, 2) := by decide +kernel
theorem dX9_judge_94 : decode cX9_judge 94 = .ok (.imul, 1) := by decide +kernel
theorem dX9_judge_95 : decode cX9_judge 95 = .ok (.iconst 1, 1) := by decide +kernel
theorem dX9_judge_96 : decode cX9_judge 96 = .ok (.iadd, 1) := by decide +kernel
theorem dX9_judge_97 : decode cX9_judge 97 = .ok (.iaload, 1) := by decide +kernel
theorem dX9_judge_98 : decode cX9_judge 98 = .ok (.iload_n 3, 1) := by decide +kernel
theorem dX9_judge_99 : decode cX9_judge 99 = .ok (.if_icmp .eq 36, 3) := by decide +kernel
theorem dX9_judge_102 : decode cX9_judge 102 = .ok (.aload_n 0, 1) := by decide +kernel
theorem dX9_judge_103 : decode cX9_judge 103 = .ok (.iload_n 2, 1) := by decide +kernel
theorem dX9_judge_104 : decode cX9_judge 104 = .ok (.aload_n 0, 1) := by decide +kernel
theorem dX9_judge_105 : decode cX9_judge 105 = .ok (.getfield 66, 3) := by decide +kernel
theorem dX9_judge_108 : decode cX9_judge 108 = .ok (.iconst 3, 1) := by decide +kernel
theorem dX9_judge_109 : decode cX9_judge 109 = .ok (.iload 6, 2) := by decide +kernel
theorem dX9_judge_111 : decode cX9_judge 111 = .ok (.imul, 1) := by decide +kernel
theorem dX9_judge_112 : decode cX9_judge 112 = .ok (.iconst 1, 1) := by decide +kernel
theorem dX9_judge_113 : decode cX9_judge 113 = .ok (.iadd, 1) := by decide +kernel
theorem dX9_judge_114 : decode cX9_judge 114 = .ok (.iaload, 1) := by decide +kernel
theorem dX9_judge_115 : decode cX9_judge 115 = .ok (.aload_n 0, 1) := by decide +kernel
theorem dX9_judge_116 : decode cX9_judge 116 = .ok (.getfield 66, 3) := by decide +kernel
theorem dX9_judge_119 : decode cX9_judge 119 = .ok (.iconst 3, 1) := by decide +kernel
theorem dX9_judge_120 : decode cX9_judge 120 = .ok (.iload 6, 2) := by decide +kernel
theorem dX9_judge_122 : decode cX9_judge 122 = .ok (.imul, 1) := by decide +kernel
theorem dX9_judge_123 : decode cX9_judge 123 = .ok (.iconst 2, 1) := by decide +kernel
theorem dX9_judge_124 : decode cX9_judge 124 = .ok (.iadd, 1) := by decide +kernel
theorem dX9_judge_125 : decode cX9_judge 125 = .ok (.iaload, 1) := by decide +kernel
theorem dX9_judge_126 : decode cX9_judge 126 = .ok (.invokevirtual 222, 3) := by decide +kernel
theorem dX9_judge_129 : decode cX9_judge 129 = .ok (.iload 4, 2) := by decide +kernel
theorem dX9_judge_131 : decode cX9_judge 131 = .ok (.iand, 1) := by decide +kernel
theorem dX9_judge_132 : decode cX9_judge 132 = .ok (.ifCond .eq 7, 3) := by decide +kernel
theorem dX9_judge_135 : decode cX9_judge 135 = .ok (.iconst 1, 1) := by decide +kernel
theorem dX9_judge_136 : decode cX9_judge 136 = .ok (.goto 4, 3) := by decide +kernel
theorem dX9_judge_139 : decode cX9_judge 139 = .ok (.iconst 0, 1) := by decide +kernel
theorem dX9_judge_140 : decode cX9_judge 140 = .ok (.istore 5, 2) := by decide +kernel
theorem dX9_judge_142 : decode cX9_judge 142 = .ok (.iinc 6 1, 3) := by decide +kernel
theorem dX9_judge_145 : decode cX9_judge 145 = .ok (.goto (-82), 3) := by decide +kernel
theorem dX9_judge_148 : decode cX9_judge 148 = .ok (.iload 5, 2) := by decide +kernel
theorem dX9_judge_150 : decode cX9_judge 150 = .ok (.ifCond .eq 5, 3) := by decide +kernel
theorem dX9_judge_153 : decode cX9_judge 153 = .ok (.iload_n 1, 1) := by decide +kernel
theorem dX9_judge_154 : decode cX9_judge 154 = .ok (.ireturn, 1) := by decide +kernel
theorem dX9_judge_155 : decode cX9_judge 155 = .ok (.iinc 1 1, 3) := by decide +kernel
theorem dX9_judge_158 : decode cX9_judge 158 = .ok (.goto (-156), 3) := by decide +kernel
theorem dX9_judge_161 : decode cX9_judge 161 = .ok (.iconst (-1), 1) := by decide +kernel
theorem dX9_judge_162 : decode cX9_judge 162 = .ok (.ireturn, 1) := by decide +kernel
theorem dX9_draw_0 : decode cX9_draw 0 = .ok (.aload_n 0, 1) := by decide +kernel
theorem dX9_draw_1 : decode cX9_draw 1 = .ok (.getfield 7, 3) := by decide +kernel
theorem dX9_draw_4 : decode cX9_draw 4 = .ok (.bipush 18, 2) := by decide +kernel
theorem dX9_draw_6 : decode cX9_draw 6 = .ok (.aload_n 0, 1) := by decide +kernel
theorem dX9_draw_7 : decode cX9_draw 7 = .ok (.getfield 7, 3) := by decide +kernel
theorem dX9_draw_10 : decode cX9_draw 10 = .ok (.bipush 18, 2) := by decide +kernel
theorem dX9_draw_12 : decode cX9_draw 12 = .ok (.iaload, 1) := by decide +kernel
theorem dX9_draw_13 : decode cX9_draw 13 = .ok (.i2l, 1) := by decide +kernel
theorem dX9_draw_14 : decode cX9_draw 14 = .ok (.ldc2_w 275, 3) := by decide +kernel
theorem dX9_draw_17 : decode cX9_draw 17 = .ok (.lmul, 1) := by decide +kernel
theorem dX9_draw_18 : decode cX9_draw 18 = .ok (.ldc2_w 277, 3) := by decide +kernel
theorem dX9_draw_21 : decode cX9_draw 21 = .ok (.ladd, 1) := by decide +kernel
theorem dX9_draw_22 : decode cX9_draw 22 = .ok (.ldc2_w 279, 3) := by decide +kernel
theorem dX9_draw_25 : decode cX9_draw 25 = .ok (.lrem, 1) := by decide +kernel
theorem dX9_draw_26 : decode cX9_draw 26 = .ok (.l2i, 1) := by decide +kernel
theorem dX9_draw_27 : decode cX9_draw 27 = .ok (.iastore, 1) := by decide +kernel
theorem dX9_draw_28 : decode cX9_draw 28 = .ok (.aload_n 0, 1) := by decide +kernel
theorem dX9_draw_29 : decode cX9_draw 29 = .ok (.getfield 7, 3) := by decide +kernel
theorem dX9_draw_32 : decode cX9_draw 32 = .ok (.bipush 18, 2) := by decide +kernel
theorem dX9_draw_34 : decode cX9_draw 34 = .ok (.iaload, 1) := by decide +kernel
theorem dX9_draw_35 : decode cX9_draw 35 = .ok (.ldc_w 281, 3) := by decide +kernel
theorem dX9_draw_38 : decode cX9_draw 38 = .ok (.idiv, 1) := by decide +kernel
theorem dX9_draw_39 : decode cX9_draw 39 = .ok (.iload_n 1, 1) := by decide +kernel
theorem dX9_draw_40 : decode cX9_draw 40 = .ok (.irem, 1) := by decide +kernel
theorem dX9_draw_41 : decode cX9_draw 41 = .ok (.ireturn, 1) := by decide +kernel
theorem dX9_winter_0 : decode cX9_winter 0 = .ok (.iload_n 1, 1) := by decide +kernel
theorem dX9_winter_1 : decode cX9_winter 1 = .ok (.i2l, 1) := by decide +kernel
theorem dX9_winter_2 : decode cX9_winter 2 = .ok (.lconst 1, 1) := by decide +kernel
theorem dX9_winter_3 : decode cX9_winter 3 = .ok (.ldc2_w 214, 3) := by decide +kernel
theorem dX9_winter_6 : decode cX9_winter 6 = .ok (.invokestatic 71, 3) := by decide +kernel
theorem dX9_winter_9 : decode cX9_winter 9 = .ok (.ifCond .ne 6, 3) := by decide +kernel
theorem dX9_winter_12 : decode cX9_winter 12 = .ok (.ldc 75, 2) := by decide +kernel
theorem dX9_winter_14 : decode cX9_winter 14 = .ok (.ireturn, 1) := by decide +kernel
theorem dX9_winter_15 : decode cX9_winter 15 = .ok (.aload_n 0, 1) := by decide +kernel
theorem dX9_winter_16 : decode cX9_winter 16 = .ok (.getfield 44, 3) := by decide +kernel
theorem dX9_winter_19 : decode cX9_winter 19 = .ok (.iconst 1, 1) := by decide +kernel
theorem dX9_winter_20 : decode cX9_winter 20 = .ok (.iaload, 1) := by decide +kernel
theorem dX9_winter_21 : decode cX9_winter 21 = .ok (.ifCond .ne 6, 3) := by decide +kernel
theorem dX9_winter_24 : decode cX9_winter 24 = .ok (.ldc 213, 2) := by decide +kernel
theorem dX9_winter_26 : decode cX9_winter 26 = .ok (.ireturn, 1) := by decide +kernel
theorem dX9_winter_27 : decode cX9_winter 27 = .ok (.iconst 0, 1) := by decide +kernel
theorem dX9_winter_28 : decode cX9_winter 28 = .ok (.istore_n 2, 1) := by decide +kernel
theorem dX9_winter_29 : decode cX9_winter 29 = .ok (.iconst 0, 1) := by decide +kernel
theorem dX9_winter_30 : decode cX9_winter 30 = .ok (.istore_n 3, 1) := by decide +kernel
theorem dX9_winter_31 : decode cX9_winter 31 = .ok (.iload_n 3, 1) := by decide +kernel
theorem dX9_winter_32 : decode cX9_winter 32 = .ok (.iload_n 1, 1) := by decide +kernel
theorem dX9_winter_33 : decode cX9_winter 33 = .ok (.if_icmp .ge 102, 3) := by decide +kernel
theorem dX9_winter_36 : decode cX9_winter 36 = .ok (.aload_n 0, 1) := by decide +kernel
theorem dX9_winter_37 : decode cX9_winter 37 = .ok (.getfield 7, 3) := by decide +kernel
theorem dX9_winter_40 : decode cX9_winter 40 = .ok (.bipush 17, 2) := by decide +kernel
theorem dX9_winter_42 : decode cX9_winter 42 = .ok (.aload_n 0, 1) := by decide +kernel
theorem dX9_winter_43 : decode cX9_winter 43 = .ok (.bipush 40, 2) := by decide +kernel
theorem dX9_winter_45 : decode cX9_winter 45 = .ok (.invokevirtual 282, 3) := by decide +kernel
theorem dX9_winter_48 : decode cX9_winter 48 = .ok (.iastore, 1) := by decide +kernel
theorem dX9_winter_49 : decode cX9_winter 49 = .ok (.iload_n 2, 1) := by decide +kernel
theorem dX9_winter_50 : decode cX9_winter 50 = .ok (.aload_n 0, 1) := by decide +kernel
theorem dX9_winter_51 : decode cX9_winter 51 = .ok (.invokevirtual 171, 3) := by decide +kernel
theorem dX9_winter_54 : decode cX9_winter 54 = .ok (.iadd, 1) := by decide +kernel
theorem dX9_winter_55 : decode cX9_winter 55 = .ok (.istore_n 2, 1) := by decide +kernel
theorem dX9_winter_56 : decode cX9_winter 56 = .ok (.aload_n 0, 1) := by decide +kernel
theorem dX9_winter_57 : decode cX9_winter 57 = .ok (.aload_n 0, 1) := by decide +kernel
theorem dX9_winter_58 : decode cX9_winter 58 = .ok (.getfield 44, 3) := by decide +kernel
theorem dX9_winter_61 : decode cX9_winter 61 = .ok (.iconst 1, 1) := by decide +kernel
theorem dX9_winter_62 : decode cX9_winter 62 = .ok (.iaload, 1) := by decide +kernel
theorem dX9_winter_63 : decode cX9_winter 63 = .ok (.invokevirtual 282, 3) := by decide +kernel
theorem dX9_winter_66 : decode cX9_winter 66 = .ok (.istore 4, 2) := by decide +kernel
theorem dX9_winter_68 : decode cX9_winter 68 = .ok (.aload_n 0, 1) := by decide +kernel
theorem dX9_winter_69 : decode cX9_winter 69 = .ok (.iconst 2, 1) := by decide +kernel
theorem dX9_winter_70 : decode cX9_winter 70 = .ok (.invokevirtual 282, 3) := by decide +kernel
theorem dX9_winter_73 : decode cX9_winter 73 = .ok (.istore 5, 2) := by decide +kernel
theorem dX9_winter_75 : decode cX9_winter 75 = .ok (.aload_n 0, 1) := by decide +kernel
theorem dX9_winter_76 : decode cX9_winter 76 = .ok (.aload_n 0, 1) := by decide +kernel
theorem dX9_winter_77 : decode cX9_winter 77 = .ok (.getfield 44, 3) := by decide +kernel
theorem dX9_winter_80 : decode cX9_winter 80 = .ok (.iconst 0, 1) := by decide +kernel
theorem dX9_winter_81 : decode cX9_winter 81 = .ok (.iaload, 1) := by decide +kernel
theorem dX9_winter_82 : decode cX9_winter 82 = .ok (.invokevirtual 282, 3) := by decide +kernel
theorem dX9_winter_85 : decode cX9_winter 85 = .ok (.istore 6, 2) := by decide +kernel
theorem dX9_winter_87 : decode cX9_winter 87 = .ok (.aload_n 0, 1) := by decide +kernel
theorem dX9_winter_88 : decode cX9_winter 88 = .ok (.getfield 7, 3) := by decide +kernel
theorem dX9_winter_91 : decode cX9_winter 91 = .ok (.bipush 8, 2) := by decide +kernel
theorem dX9_winter_93 : decode cX9_winter 93 = .ok (.iload 5, 2) := by decide +kernel
theorem dX9_winter_95 : decode cX9_winter 95 = .ok (.imul, 1) := by decide +kernel
theorem dX9_winter_96 : decode cX9_winter 96 = .ok (.iload 4, 2) := by decide +kernel
theorem dX9_winter_98 : decode cX9_winter 98 = .ok (.iadd, 1) := by decide +kernel
theorem dX9_winter_99 : decode cX9_winter 99 = .ok (.aload_n 0, 1) := by decide +kernel
theorem dX9_winter_100 : decode cX9_winter 100 = .ok (.iload 4, 2) := by decide +kernel
theorem dX9_winter_102 : decode cX9_winter 102 = .ok (.iload 6, 2) := by decide +kernel
theorem dX9_winter_104 : decode cX9_winter 104 = .ok (.invokevirtual 210, 3) := by decide +kernel
theorem dX9_winter_107 : decode cX9_winter 107 = .ok (.ifCond .eq 8, 3) := by decide +kernel
theorem dX9_winter_110 : decode cX9_winter 110 = .ok (.iload 6, 2) := by decide +kernel
theorem dX9_winter_112 : decode cX9_winter 112 = .ok (.goto 16, 3) := by decide +kernel
theorem dX9_winter_115 : decode cX9_winter 115 = .ok (.aload_n 0, 1) := by decide +kernel
theorem dX9_winter_116 : decode cX9_winter 116 = .ok (.getfield 7, 3) := by decide +kernel
theorem dX9_winter_119 : decode cX9_winter 119 = .ok (.bipush 8, 2) := by decide +kernel
theorem dX9_winter_121 : decode cX9_winter 121 = .ok (.iload 5, 2) := by decide +kernel
theorem dX9_winter_123 : decode cX9_winter 123 = .ok (.imul, 1) := by decide +kernel
theorem dX9_winter_124 : decode cX9_winter 124 = .ok (.iload 4, 2) := by decide +kernel
theorem dX9_winter_126 : decode cX9_winter 126 = .ok (.iadd, 1) := by decide +kernel
theorem dX9_winter_127 : decode cX9_winter 127 = .ok (.iaload, 1) := by decide +kernel
theorem dX9_winter_128 : decode cX9_winter 128 = .ok (.iastore, 1) := by decide +kernel
theorem dX9_winter_129 : decode cX9_winter 129 = .ok (.iinc 3 1, 3) := by decide +kernel
theorem dX9_winter_132 : decode cX9_winter 132 = .ok (.goto (-101), 3) := by decide +kernel
theorem dX9_winter_135 : decode cX9_winter 135 = .ok (.iload_n 2, 1) := by decide +kernel
theorem dX9_winter_136 : decode cX9_winter 136 = .ok (.ireturn, 1) := by decide +kernel
theorem dX9_seed_0 : decode cX9_seed 0 = .ok (.iload_n 1, 1) := by decide +kernel
theorem dX9_seed_1 : decode cX9_seed 1 = .ok (.ifCond .ge 6, 3) := by decide +kernel
theorem dX9_seed_4 : decode cX9_seed 4 = .ok (.ldc 75, 2) := by decide +kernel
theorem dX9_seed_6 : decode cX9_seed 6 = .ok (.ireturn, 1) := by decide +kernel
theorem dX9_seed_7 : decode cX9_seed 7 = .ok (.aload_n 0, 1) := by decide +kernel
theorem dX9_seed_8 : decode cX9_seed 8 = .ok (.getfield 7, 3) := by decide +kernel
theorem dX9_seed_11 : decode cX9_seed 11 = .ok (.bipush 18, 2) := by decide +kernel
theorem dX9_seed_13 : decode cX9_seed 13 = .ok (.iaload, 1) := by decide +kernel
theorem dX9_seed_14 : decode cX9_seed 14 = .ok (.istore_n 2, 1) := by decide +kernel
theorem dX9_seed_15 : decode cX9_seed 15 = .ok (.aload_n 0, 1) := by decide +kernel
theorem dX9_seed_16 : decode cX9_seed 16 = .ok (.getfield 7, 3) := by decide +kernel
theorem dX9_seed_19 : decode cX9_seed 19 = .ok (.bipush 18, 2) := by decide +kernel
theorem dX9_seed_21 : decode cX9_seed 21 = .ok (.iload_n 1, 1) := by decide +kernel
theorem dX9_seed_22 : decode cX9_seed 22 = .ok (.iastore, 1) := by decide +kernel
theorem dX9_seed_23 : decode cX9_seed 23 = .ok (.iload_n 2, 1) := by decide +kernel
theorem dX9_seed_24 : decode cX9_seed 24 = .ok (.ireturn, 1) := by decide +kernel
theorem dX9_copy_0 : decode cX9_copy 0 = .ok (.iconst 0, 1) := by decide +kernel
theorem dX9_copy_1 : decode cX9_copy 1 = .ok (.istore_n 3, 1) := by decide +kernel
theorem dX9_copy_2 : decode cX9_copy 2 = .ok (.iload_n 3, 1) := by decide +kernel
theorem dX9_copy_3 : decode cX9_copy 3 = .ok (.bipush 20, 2) := by decide +kernel
theorem dX9_copy_5 : decode cX9_copy 5 = .ok (.if_icmp .ge 25, 3) := by decide +kernel
theorem dX9_copy_8 : decode cX9_copy 8 = .ok (.aload_n 0, 1) := by decide +kernel
theorem dX9_copy_9 : decode cX9_copy 9 = .ok (.getfield 7, 3) := by decide +kernel
theorem dX9_copy_12 : decode cX9_copy 12 = .ok (.iload_n 2, 1) := by decide +kernel
theorem dX9_copy_13 : decode cX9_copy 13 = .ok (.iload_n 3, 1) := by decide +kernel
theorem dX9_copy_14 : decode cX9_copy 14 = .ok (.iadd, 1) := by decide +kernel
theorem dX9_copy_15 : decode cX9_copy 15 = .ok (.aload_n 0, 1) := by decide +kernel
theorem dX9_copy_16 : decode cX9_copy 16 = .ok (.getfield 7, 3) := by decide +kernel
theorem dX9_copy_19 : decode cX9_copy 19 = .ok (.iload_n 1, 1) := by decide +kernel
theorem dX9_copy_20 : decode cX9_copy 20 = .ok (.iload_n 3, 1) := by decide +kernel
theorem dX9_copy_21 : decode cX9_copy 21 = .ok (.iadd, 1) := by decide +kernel
theorem dX9_copy_22 : decode cX9_copy 22 = .ok (.iaload, 1) := by decide +kernel
theorem dX9_copy_23 : decode cX9_copy 23 = .ok (.iastore, 1) := by decide +kernel
theorem dX9_copy_24 : decode cX9_copy 24 = .ok (.iinc 3 1, 3) := by decide +kernel
theorem dX9_copy_27 : decode cX9_copy 27 = .ok (.goto (-25), 3) := by decide +kernel
theorem dX9_copy_30 : decode cX9_copy 30 = .ok (.return_, 1) := by decide +kernel
theorem dX9_keep_0 : decode cX9_keep 0 = .ok (.iload_n 1, 1) := by decide +kernel
theorem dX9_keep_1 : decode cX9_keep 1 = .ok (.i2l, 1) := by decide +kernel
theorem dX9_keep_2 : decode cX9_keep 2 = .ok (.lconst 0, 1) := by decide +kernel
theorem dX9_keep_3 : decode cX9_keep 3 = .ok (.lconst 1, 1) := by decide +kernel
theorem dX9_keep_4 : decode cX9_keep 4 = .ok (.invokestatic 71, 3) := by decide +kernel
theorem dX9_keep_7 : decode cX9_keep 7 = .ok (.ifCond .ne 6, 3) := by decide +kernel
theorem dX9_keep_10 : decode cX9_keep 10 = .ok (.ldc 181, 2) := by decide +kernel
theorem dX9_keep_12 : decode cX9_keep 12 = .ok (.ireturn, 1) := by decide +kernel
theorem dX9_keep_13 : decode cX9_keep 13 = .ok (.aload_n 0, 1) := by decide +kernel
theorem dX9_keep_14 : decode cX9_keep 14 = .ok (.iconst 0, 1) := by decide +kernel
theorem dX9_keep_15 : decode cX9_keep 15 = .ok (.bipush 20, 2) := by decide +kernel
theorem dX9_keep_17 : decode cX9_keep 17 = .ok (.iconst 1, 1) := by decide +kernel
theorem dX9_keep_18 : decode cX9_keep 18 = .ok (.iload_n 1, 1) := by decide +kernel
theorem dX9_keep_19 : decode cX9_keep 19 = .ok (.iadd, 1) := by decide +kernel
theorem dX9_keep_20 : decode cX9_keep 20 = .ok (.imul, 1) := by decide +kernel
theorem dX9_keep_21 : decode cX9_keep 21 = .ok (.invokevirtual 285, 3) := by decide +kernel
theorem dX9_keep_24 : decode cX9_keep 24 = .ok (.aload_n 0, 1) := by decide +kernel
theorem dX9_keep_25 : decode cX9_keep 25 = .ok (.getfield 13, 3) := by decide +kernel
theorem dX9_keep_28 : decode cX9_keep 28 = .ok (.iload_n 1, 1) := by decide +kernel
theorem dX9_keep_29 : decode cX9_keep 29 = .ok (.iconst 1, 1) := by decide +kernel
theorem dX9_keep_30 : decode cX9_keep 30 = .ok (.bastore, 1) := by decide +kernel
theorem dX9_keep_31 : decode cX9_keep 31 = .ok (.iconst 1, 1) := by decide +kernel
theorem dX9_keep_32 : decode cX9_keep 32 = .ok (.ireturn, 1) := by decide +kernel
theorem dX9_goBack_0 : decode cX9_goBack 0 = .ok (.iload_n 1, 1) := by decide +kernel
theorem dX9_goBack_1 : decode cX9_goBack 1 = .ok (.i2l, 1) := by decide +kernel
theorem dX9_goBack_2 : decode cX9_goBack 2 = .ok (.lconst 0, 1) := by decide +kernel
theorem dX9_goBack_3 : decode cX9_goBack 3 = .ok (.lconst 1, 1) := by decide +kernel
theorem dX9_goBack_4 : decode cX9_goBack 4 = .ok (.invokestatic 71, 3) := by decide +kernel
theorem dX9_goBack_7 : decode cX9_goBack 7 = .ok (.ifCond .ne 6, 3) := by decide +kernel
theorem dX9_goBack_10 : decode cX9_goBack 10 = .ok (.ldc 181, 2) := by decide +kernel
theorem dX9_goBack_12 : decode cX9_goBack 12 = .ok (.ireturn, 1) := by decide +kernel
theorem dX9_goBack_13 : decode cX9_goBack 13 = .ok (.aload_n 0, 1) := by decide +kernel
theorem dX9_goBack_14 : decode cX9_goBack 14 = .ok (.getfield 13, 3) := by decide +kernel
theorem dX9_goBack_17 : decode cX9_goBack 17 = .ok (.iload_n 1, 1) := by decide +kernel
theorem dX9_goBack_18 : decode cX9_goBack 18 = .ok (.baload, 1) := by decide +kernel
theorem dX9_goBack_19 : decode cX9_goBack 19 = .ok (.ifCond .ne 6, 3) := by decide +kernel
theorem dX9_goBack_22 : decode cX9_goBack 22 = .ok (.ldc 213, 2) := by decide +kernel
theorem dX9_goBack_24 : decode cX9_goBack 24 = .ok (.ireturn, 1) := by decide +kernel
theorem dX9_goBack_25 : decode cX9_goBack 25 = .ok (.aload_n 0, 1) := by decide +kernel
theorem dX9_goBack_26 : decode cX9_goBack 26 = .ok (.bipush 20, 2) := by decide +kernel
theorem dX9_goBack_28 : decode cX9_goBack 28 = .ok (.iconst 1, 1) := by decide +kernel
theorem dX9_goBack_29 : decode cX9_goBack 29 = .ok (.iload_n 1, 1) := by decide +kernel
theorem dX9_goBack_30 : decode cX9_goBack 30 = .ok (.iadd, 1) := by decide +kernel
theorem dX9_goBack_31 : decode cX9_goBack 31 = .ok (.imul, 1) := by decide +kernel
theorem dX9_goBack_32 : decode cX9_goBack 32 = .ok (.iconst 0, 1) := by decide +kernel
theorem dX9_goBack_33 : decode cX9_goBack 33 = .ok (.invokevirtual 285, 3) := by decide +kernel
theorem dX9_goBack_36 : decode cX9_goBack 36 = .ok (.iconst 1, 1) := by decide +kernel
theorem dX9_goBack_37 : decode cX9_goBack 37 = .ok (.ireturn, 1) := by decide +kernel
theorem dJ6_bitCount_0f7a4_0 : decode cJ6_bitCount_0f7a4 0 = .ok (.iload_n 0, 1) := by decide +kernel
theorem dJ6_bitCount_0f7a4_1 : decode cJ6_bitCount_0f7a4 1 = .ok (.iload_n 0, 1) := by decide +kernel
theorem dJ6_bitCount_0f7a4_2 : decode cJ6_bitCount_0f7a4 2 = .ok (.iconst 1, 1) := by decide +kernel
theorem dJ6_bitCount_0f7a4_3 : decode cJ6_bitCount_0f7a4 3 = .ok (.iushr, 1) := by decide +kernel
theorem dJ6_bitCount_0f7a4_4 : decode cJ6_bitCount_0f7a4 4 = .ok (.ldc_w 265, 3) := by decide +kernel
theorem dJ6_bitCount_0f7a4_7 : decode cJ6_bitCount_0f7a4 7 = .ok (.iand, 1) := by decide +kernel
theorem dJ6_bitCount_0f7a4_8 : decode cJ6_bitCount_0f7a4 8 = .ok (.isub, 1) := by decide +kernel
theorem dJ6_bitCount_0f7a4_9 : decode cJ6_bitCount_0f7a4 9 = .ok (.istore_n 0, 1) := by decide +kernel
theorem dJ6_bitCount_0f7a4_10 : decode cJ6_bitCount_0f7a4 10 = .ok (.iload_n 0, 1) := by decide +kernel
theorem dJ6_bitCount_0f7a4_11 : decode cJ6_bitCount_0f7a4 11 = .ok (.ldc_w 266, 3) := by decide +kernel
theorem dJ6_bitCount_0f7a4_14 : decode cJ6_bitCount_0f7a4 14 = .ok (.iand, 1) := by decide +kernel
theorem dJ6_bitCount_0f7a4_15 : decode cJ6_bitCount_0f7a4 15 = .ok (.iload_n 0, 1) := by decide +kernel
theorem dJ6_bitCount_0f7a4_16 : decode cJ6_bitCount_0f7a4 16 = .ok (.iconst 2, 1) := by decide +kernel
theorem dJ6_bitCount_0f7a4_17 : decode cJ6_bitCount_0f7a4 17 = .ok (.iushr, 1) := by decide +kernel
theorem dJ6_bitCount_0f7a4_18 : decode cJ6_bitCount_0f7a4 18 = .ok (.ldc_w 266, 3) := by decide +kernel
theorem dJ6_bitCount_0f7a4_21 : decode cJ6_bitCount_0f7a4 21 = .ok (.iand, 1) := by decide +kernel
theorem dJ6_bitCount_0f7a4_22 : decode cJ6_bitCount_0f7a4 22 = .ok (.iadd, 1) := by decide +kernel
theorem dJ6_bitCount_0f7a4_23 : decode cJ6_bitCount_0f7a4 23 = .ok (.istore_n 0, 1) := by decide +kernel
theorem dJ6_bitCount_0f7a4_24 : decode cJ6_bitCount_0f7a4 24 = .ok (.iload_n 0, 1) := by decide +kernel
theorem dJ6_bitCount_0f7a4_25 : decode cJ6_bitCount_0f7a4 25 = .ok (.iload_n 0, 1) := by decide +kernel
theorem dJ6_bitCount_0f7a4_26 : decode cJ6_bitCount_0f7a4 26 = .ok (.iconst 4, 1) := by decide +kernel
theorem dJ6_bitCount_0f7a4_27 : decode cJ6_bitCount_0f7a4 27 = .ok (.iushr, 1) := by decide +kernel
theorem dJ6_bitCount_0f7a4_28 : decode cJ6_bitCount_0f7a4 28 = .ok (.iadd, 1) := by decide +kernel
theorem dJ6_bitCount_0f7a4_29 : decode cJ6_bitCount_0f7a4 29 = .ok (.ldc_w 267, 3) := by decide +kernel
theorem dJ6_bitCount_0f7a4_32 : decode cJ6_bitCount_0f7a4 32 = .ok (.iand, 1) := by decide +kernel
theorem dJ6_bitCount_0f7a4_33 : decode cJ6_bitCount_0f7a4 33 = .ok (.istore_n 0, 1) := by decide +kernel
theorem dJ6_bitCount_0f7a4_34 : decode cJ6_bitCount_0f7a4 34 = .ok (.iload_n 0, 1) := by decide +kernel
theorem dJ6_bitCount_0f7a4_35 : decode cJ6_bitCount_0f7a4 35 = .ok (.iload_n 0, 1) := by decide +kernel
theorem dJ6_bitCount_0f7a4_36 : decode cJ6_bitCount_0f7a4 36 = .ok (.bipush 8, 2) := by decide +kernel
theorem dJ6_bitCount_0f7a4_38 : decode cJ6_bitCount_0f7a4 38 = .ok (.iushr, 1) := by decide +kernel
theorem dJ6_bitCount_0f7a4_39 : decode cJ6_bitCount_0f7a4 39 = .ok (.iadd, 1) := by decide +kernel
theorem dJ6_bitCount_0f7a4_40 : decode cJ6_bitCount_0f7a4 40 = .ok (.istore_n 0, 1) := by decide +kernel
theorem dJ6_bitCount_0f7a4_41 : decode cJ6_bitCount_0f7a4 41 = .ok (.iload_n 0, 1) := by decide +kernel
theorem dJ6_bitCount_0f7a4_42 : decode cJ6_bitCount_0f7a4 42 = .ok (.iload_n 0, 1) := by decide +kernel
theorem dJ6_bitCount_0f7a4_43 : decode cJ6_bitCount_0f7a4 43 = .ok (.bipush 16, 2) := by decide +kernel
theorem dJ6_bitCount_0f7a4_45 : decode cJ6_bitCount_0f7a4 45 = .ok (.iushr, 1) := by decide +kernel
theorem dJ6_bitCount_0f7a4_46 : decode cJ6_bitCount_0f7a4 46 = .ok (.iadd, 1) := by decide +kernel
theorem dJ6_bitCount_0f7a4_47 : decode cJ6_bitCount_0f7a4 47 = .ok (.istore_n 0, 1) := by decide +kernel
theorem dJ6_bitCount_0f7a4_48 : decode cJ6_bitCount_0f7a4 48 = .ok (.iload_n 0, 1) := by decide +kernel
theorem dJ6_bitCount_0f7a4_49 : decode cJ6_bitCount_0f7a4 49 = .ok (.bipush 63, 2) := by decide +kernel
theorem dJ6_bitCount_0f7a4_51 : decode cJ6_bitCount_0f7a4 51 = .ok (.iand, 1) := by decide +kernel
theorem dJ6_bitCount_0f7a4_52 : decode cJ6_bitCount_0f7a4 52 = .ok (.ireturn, 1) := by decide +kernel
theorem dJ9_max_7cf53_0 : decode cJ9_max_7cf53 0 = .ok (.iload_n 0, 1) := by decide +kernel
theorem dJ9_max_7cf53_1 : decode cJ9_max_7cf53 1 = .ok (.iload_n 1, 1) := by decide +kernel
theorem dJ9_max_7cf53_2 : decode cJ9_max_7cf53 2 = .ok (.if_icmp .lt 7, 3) := by decide +kernel
theorem dJ9_max_7cf53_5 : decode cJ9_max_7cf53 5 = .ok (.iload_n 0, 1) := by decide +kernel
theorem dJ9_max_7cf53_6 : decode cJ9_max_7cf53 6 = .ok (.goto 4, 3) := by decide +kernel
theorem dJ9_max_7cf53_9 : decode cJ9_max_7cf53 9 = .ok (.iload_n 1, 1) := by decide +kernel
theorem dJ9_max_7cf53_10 : decode cJ9_max_7cf53 10 = .ok (.ireturn, 1) := by decide +kernel
theorem dJ9_min_7cf53_0 : decode cJ9_min_7cf53 0 = .ok (.iload_n 0, 1) := by decide +kernel
theorem dJ9_min_7cf53_1 : decode cJ9_min_7cf53 1 = .ok (.iload_n 1, 1) := by decide +kernel
theorem dJ9_min_7cf53_2 : decode cJ9_min_7cf53 2 = .ok (.if_icmp .gt 7, 3) := by decide +kernel
theorem dJ9_min_7cf53_5 : decode cJ9_min_7cf53 5 = .ok (.iload_n 0, 1) := by decide +kernel
theorem dJ9_min_7cf53_6 : decode cJ9_min_7cf53 6 = .ok (.goto 4, 3) := by decide +kernel
theorem dJ9_min_7cf53_9 : decode cJ9_min_7cf53 9 = .ok (.iload_n 1, 1) := by decide +kernel
theorem dJ9_min_7cf53_10 : decode cJ9_min_7cf53 10 = .ok (.ireturn, 1) := by decide +kernel
theorem dJ0_length_8abf5_0 : decode cJ0_length_8abf5 0 = .ok (.aload_n 0, 1) := by decide +kernel
theorem dJ0_length_8abf5_1 : decode cJ0_length_8abf5 1 = .ok (.getfield 9, 3) := by decide +kernel
theorem dJ0_length_8abf5_4 : decode cJ0_length_8abf5 4 = .ok (.arraylength, 1) := by decide +kernel
theorem dJ0_length_8abf5_5 : decode cJ0_length_8abf5 5 = .ok (.aload_n 0, 1) := by decide +kernel
theorem dJ0_length_8abf5_6 : decode cJ0_length_8abf5 6 = .ok (.invokevirtual 335, 3) := by decide +kernel
theorem dJ0_length_8abf5_9 : decode cJ0_length_8abf5 9 = .ok (.ishr, 1) := by decide +kernel
theorem dJ0_length_8abf5_10 : decode cJ0_length_8abf5 10 = .ok (.ireturn, 1) := by decide +kernel
theorem dJ0_charAt_5068e_0 : decode cJ0_charAt_5068e 0 = .ok (.aload_n 0, 1) := by decide +kernel
theorem dJ0_charAt_5068e_1 : decode cJ0_charAt_5068e 1 = .ok (.invokevirtual 492, 3) := by decide +kernel
theorem dJ0_charAt_5068e_4 : decode cJ0_charAt_5068e 4 = .ok (.ifCond .eq 12, 3) := by decide +kernel
theorem dJ0_charAt_5068e_7 : decode cJ0_charAt_5068e 7 = .ok (.aload_n 0, 1) := by decide +kernel
theorem dJ0_charAt_5068e_8 : decode cJ0_charAt_5068e 8 = .ok (.getfield 9, 3) := by decide +kernel
theorem dJ0_charAt_5068e_11 : decode cJ0_charAt_5068e 11 = .ok (.iload_n 1, 1) := by decide +kernel
theorem dJ0_charAt_5068e_12 : decode cJ0_charAt_5068e 12 = .ok (.invokestatic 495, 3) := by decide +kernel
theorem dJ0_charAt_5068e_15 : decode cJ0_charAt_5068e 15 = .ok (.ireturn, 1) := by decide +kernel
theorem dJ0_charAt_5068e_16 : decode cJ0_charAt_5068e 16 = .ok (.aload_n 0, 1) := by decide +kernel
theorem dJ0_charAt_5068e_17 : decode cJ0_charAt_5068e 17 = .ok (.getfield 9, 3) := by decide +kernel
theorem dJ0_charAt_5068e_20 : decode cJ0_charAt_5068e 20 = .ok (.iload_n 1, 1) := by decide +kernel
theorem dJ0_charAt_5068e_21 : decode cJ0_charAt_5068e 21 = .ok (.invokestatic 498, 3) := by decide +kernel
theorem dJ0_charAt_5068e_24 : decode cJ0_charAt_5068e 24 = .ok (.ireturn, 1) := by decide +kernel
theorem dJ0_coder_7d493_0 : decode cJ0_coder_7d493 0 = .ok (.getstatic 38, 3) := by decide +kernel
theorem dJ0_coder_7d493_3 : decode cJ0_coder_7d493 3 = .ok (.ifCond .eq 10, 3) := by decide +kernel
theorem dJ0_coder_7d493_6 : decode cJ0_coder_7d493 6 = .ok (.aload_n 0, 1) := by decide +kernel
theorem dJ0_coder_7d493_7 : decode cJ0_coder_7d493 7 = .ok (.getfield 15, 3) := by decide +kernel
theorem dJ0_coder_7d493_10 : decode cJ0_coder_7d493 10 = .ok (.goto 4, 3) := by decide +kernel
theorem dJ0_coder_7d493_13 : decode cJ0_coder_7d493 13 = .ok (.iconst 1, 1) := by decide +kernel
theorem dJ0_coder_7d493_14 : decode cJ0_coder_7d493 14 = .ok (.ireturn, 1) := by decide +kernel
theorem dJ0_isLatin1_aae02_0 : decode cJ0_isLatin1_aae02 0 = .ok (.getstatic 38, 3) := by decide +kernel
theorem dJ0_isLatin1_aae02_3 : decode cJ0_isLatin1_aae02 3 = .ok (.ifCond .eq 14, 3) := by decide +kernel
theorem dJ0_isLatin1_aae02_6 : decode cJ0_isLatin1_aae02 6 = .ok (.aload_n 0, 1) := by decide +kernel
theorem dJ0_isLatin1_aae02_7 : decode cJ0_isLatin1_aae02 7 = .ok (.getfield 15, 3) := by decide +kernel
theorem dJ0_isLatin1_aae02_10 : decode cJ0_isLatin1_aae02 10 = .ok (.ifCond .ne 7, 3) := by decide +kernel
theorem dJ0_isLatin1_aae02_13 : decode cJ0_isLatin1_aae02 13 = .ok (.iconst 1, 1) := by decide +kernel
theorem dJ0_isLatin1_aae02_14 : decode cJ0_isLatin1_aae02 14 = .ok (.goto 4, 3) := by decide +kernel
theorem dJ0_isLatin1_aae02_17 : decode cJ0_isLatin1_aae02 17 = .ok (.iconst 0, 1) := by decide +kernel
theorem dJ0_isLatin1_aae02_18 : decode cJ0_isLatin1_aae02 18 = .ok (.ireturn, 1) := by decide +kernel
theorem dJ0_checkIndex_df160_0 : decode cJ0_checkIndex_df160 0 = .ok (.iload_n 0, 1) := by decide +kernel
theorem dJ0_checkIndex_df160_1 : decode cJ0_checkIndex_df160 1 = .ok (.iload_n 1, 1) := by decide +kernel
theorem dJ0_checkIndex_df160_2 : decode cJ0_checkIndex_df160 2 = .ok (.getstatic 1053, 3) := by decide +kernel
theorem dJ0_checkIndex_df160_5 : decode cJ0_checkIndex_df160 5 = .ok (.invokestatic 1059, 3) := by decide +kernel
theorem dJ0_checkIndex_df160_8 : decode cJ0_checkIndex_df160 8 = .ok (.pop, 1) := by decide +kernel
theorem dJ0_checkIndex_df160_9 : decode cJ0_checkIndex_df160 9 = .ok (.return_, 1) := by decide +kernel
theorem dJ1_charAt_3b067_0 : decode cJ1_charAt_3b067 0 = .ok (.iload_n 1, 1) := by decide +kernel
theorem dJ1_charAt_3b067_1 : decode cJ1_charAt_3b067 1 = .ok (.aload_n 0, 1) := by decide +kernel
theorem dJ1_charAt_3b067_2 : decode cJ1_charAt_3b067 2 = .ok (.arraylength, 1) := by decide +kernel
theorem dJ1_charAt_3b067_3 : decode cJ1_charAt_3b067 3 = .ok (.invokestatic 9, 3) := by decide +kernel
theorem dJ1_charAt_3b067_6 : decode cJ1_charAt_3b067 6 = .ok (.aload_n 0, 1) := by decide +kernel
theorem dJ1_charAt_3b067_7 : decode cJ1_charAt_3b067 7 = .ok (.iload_n 1, 1) := by decide +kernel
theorem dJ1_charAt_3b067_8 : decode cJ1_charAt_3b067 8 = .ok (.baload, 1) := by decide +kernel
theorem dJ1_charAt_3b067_9 : decode cJ1_charAt_3b067 9 = .ok (.sipush 255, 3) := by decide +kernel
theorem dJ1_charAt_3b067_12 : decode cJ1_charAt_3b067 12 = .ok (.iand, 1) := by decide +kernel
theorem dJ1_charAt_3b067_13 : decode cJ1_charAt_3b067 13 = .ok (.i2c, 1) := by decide +kernel
theorem dJ1_charAt_3b067_14 : decode cJ1_charAt_3b067 14 = .ok (.ireturn, 1) := by decide +kernel
theorem dJ2_getChar_3b067_0 : decode cJ2_getChar_3b067 0 = .ok (.getstatic 44, 3) := by decide +kernel
theorem dJ2_getChar_3b067_3 : decode cJ2_getChar_3b067 3 = .ok (.ifCond .ne 25, 3) := by decide +kernel
theorem dJ2_getChar_3b067_6 : decode cJ2_getChar_3b067 6 = .ok (.iload_n 1, 1) := by decide +kernel
theorem dJ2_getChar_3b067_7 : decode cJ2_getChar_3b067 7 = .ok (.ifCond .lt 11, 3) := by decide +kernel
theorem dJ2_getChar_3b067_10 : decode cJ2_getChar_3b067 10 = .ok (.iload_n 1, 1) := by decide +kernel
theorem dJ2_getChar_3b067_11 : decode cJ2_getChar_3b067 11 = .ok (.aload_n 0, 1) := by decide +kernel
theorem dJ2_getChar_3b067_12 : decode cJ2_getChar_3b067 12 = .ok (.invokestatic 48, 3) := by decide +kernel
theorem dJ2_getChar_3b067_15 : decode cJ2_getChar_3b067 15 = .ok (.if_icmp .lt 13, 3) := by decide +kernel
theorem dJ2_getChar_3b067_18 : decode cJ2_getChar_3b067 18 = .ok (.new 52, 3) := by decide +kernel
theorem dJ2_getChar_3b067_21 : decode cJ2_getChar_3b067 21 = .ok (.dup, 1) := by decide +kernel
theorem dJ2_getChar_3b067_22 : decode cJ2_getChar_3b067 22 = .ok (.ldc 54, 2) := by decide +kernel
theorem dJ2_getChar_3b067_24 : decode cJ2_getChar_3b067 24 = .ok (.invokespecial 56, 3) := by decide +kernel
theorem dJ2_getChar_3b067_27 : decode cJ2_getChar_3b067 27 = .ok (.athrow, 1) := by decide +kernel
theorem dJ2_getChar_3b067_28 : decode cJ2_getChar_3b067 28 = .ok (.iload_n 1, 1) := by decide +kernel
theorem dJ2_getChar_3b067_29 : decode cJ2_getChar_3b067 29 = .ok (.iconst 1, 1) := by decide +kernel
theorem dJ2_getChar_3b067_30 : decode cJ2_getChar_3b067 30 = .ok (.ishl, 1) := by decide +kernel
theorem dJ2_getChar_3b067_31 : decode cJ2_getChar_3b067 31 = .ok (.istore_n 1, 1) := by decide +kernel
theorem dJ2_getChar_3b067_32 : decode cJ2_getChar_3b067 32 = .ok (.aload_n 0, 1) := by decide +kernel
theorem dJ2_getChar_3b067_33 : decode cJ2_getChar_3b067 33 = .ok (.iload_n 1, 1) := by decide +kernel
theorem dJ2_getChar_3b067_34 : decode cJ2_getChar_3b067 34 = .ok (.iinc 1 1, 3) := by decide +kernel
theorem dJ2_getChar_3b067_37 : decode cJ2_getChar_3b067 37 = .ok (.baload, 1) := by decide +kernel
theorem dJ2_getChar_3b067_38 : decode cJ2_getChar_3b067 38 = .ok (.sipush 255, 3) := by decide +kernel
theorem dJ2_getChar_3b067_41 : decode cJ2_getChar_3b067 41 = .ok (.iand, 1) := by decide +kernel
theorem dJ2_getChar_3b067_42 : decode cJ2_getChar_3b067 42 = .ok (.getstatic 59, 3) := by decide +kernel
theorem dJ2_getChar_3b067_45 : decode cJ2_getChar_3b067 45 = .ok (.ishl, 1) := by decide +kernel
theorem dJ2_getChar_3b067_46 : decode cJ2_getChar_3b067 46 = .ok (.aload_n 0, 1) := by decide +kernel
theorem dJ2_getChar_3b067_47 : decode cJ2_getChar_3b067 47 = .ok (.iload_n 1, 1) := by decide +kernel
theorem dJ2_getChar_3b067_48 : decode cJ2_getChar_3b067 48 = .ok (.baload, 1) := by decide +kernel
theorem dJ2_getChar_3b067_49 : decode cJ2_getChar_3b067 49 = .ok (.sipush 255, 3) := by decide +kernel
theorem dJ2_getChar_3b067_52 : decode cJ2_getChar_3b067 52 = .ok (.iand, 1) := by decide +kernel
theorem dJ2_getChar_3b067_53 : decode cJ2_getChar_3b067 53 = .ok (.getstatic 63, 3) := by decide +kernel
theorem dJ2_getChar_3b067_56 : decode cJ2_getChar_3b067 56 = .ok (.ishl, 1) := by decide +kernel
theorem dJ2_getChar_3b067_57 : decode cJ2_getChar_3b067 57 = .ok (.ior, 1) := by decide +kernel
theorem dJ2_getChar_3b067_58 : decode cJ2_getChar_3b067 58 = .ok (.i2c, 1) := by decide +kernel
theorem dJ2_getChar_3b067_59 : decode cJ2_getChar_3b067 59 = .ok (.ireturn, 1) := by decide +kernel
theorem dJ2_length_9d52b_0 : decode cJ2_length_9d52b 0 = .ok (.aload_n 0, 1) := by decide +kernel
theorem dJ2_length_9d52b_1 : decode cJ2_length_9d52b 1 = .ok (.arraylength, 1) := by decide +kernel
theorem dJ2_length_9d52b_2 : decode cJ2_length_9d52b 2 = .ok (.iconst 1, 1) := by decide +kernel
theorem dJ2_length_9d52b_3 : decode cJ2_length_9d52b 3 = .ok (.ishr, 1) := by decide +kernel
theorem dJ2_length_9d52b_4 : decode cJ2_length_9d52b 4 = .ok (.ireturn, 1) := by decide +kernel
theorem dJ2_charAt_3b067_0 : decode cJ2_charAt_3b067 0 = .ok (.iload_n 1, 1) := by decide +kernel
theorem dJ2_charAt_3b067_1 : decode cJ2_charAt_3b067 1 = .ok (.aload_n 0, 1) := by decide +kernel
theorem dJ2_charAt_3b067_2 : decode cJ2_charAt_3b067 2 = .ok (.invokestatic 67, 3) := by decide +kernel
theorem dJ2_charAt_3b067_5 : decode cJ2_charAt_3b067 5 = .ok (.aload_n 0, 1) := by decide +kernel
theorem dJ2_charAt_3b067_6 : decode cJ2_charAt_3b067 6 = .ok (.iload_n 1, 1) := by decide +kernel
theorem dJ2_charAt_3b067_7 : decode cJ2_charAt_3b067 7 = .ok (.invokestatic 71, 3) := by decide +kernel
theorem dJ2_charAt_3b067_10 : decode cJ2_charAt_3b067 10 = .ok (.ireturn, 1) := by decide +kernel
theorem dJ2_checkIndex_2214a_0 : decode cJ2_checkIndex_2214a 0 = .ok (.iload_n 0, 1) := by decide +kernel
theorem dJ2_checkIndex_2214a_1 : decode cJ2_checkIndex_2214a 1 = .ok (.aload_n 1, 1) := by decide +kernel
theorem dJ2_checkIndex_2214a_2 : decode cJ2_checkIndex_2214a 2 = .ok (.invokestatic 48, 3) := by decide +kernel
theorem dJ2_checkIndex_2214a_5 : decode cJ2_checkIndex_2214a 5 = .ok (.invokestatic 414, 3) := by decide +kernel
theorem dJ2_checkIndex_2214a_8 : decode cJ2_checkIndex_2214a 8 = .ok (.return_, 1) := by decide +kernel
theorem dJ3_checkIndex_8e157_0 : decode cJ3_checkIndex_8e157 0 = .ok (.iload_n 0, 1) := by decide +kernel
theorem dJ3_checkIndex_8e157_1 : decode cJ3_checkIndex_8e157 1 = .ok (.ifCond .lt 8, 3) := by decide +kernel
theorem dJ3_checkIndex_8e157_4 : decode cJ3_checkIndex_8e157 4 = .ok (.iload_n 0, 1) := by decide +kernel
theorem dJ3_checkIndex_8e157_5 : decode cJ3_checkIndex_8e157 5 = .ok (.iload_n 1, 1) := by decide +kernel
theorem dJ3_checkIndex_8e157_6 : decode cJ3_checkIndex_8e157 6 = .ok (.if_icmp .lt 10, 3) := by decide +kernel
theorem dJ3_checkIndex_8e157_9 : decode cJ3_checkIndex_8e157 9 = .ok (.aload_n 2, 1) := by decide +kernel
theorem dJ3_checkIndex_8e157_10 : decode cJ3_checkIndex_8e157 10 = .ok (.iload_n 0, 1) := by decide +kernel
theorem dJ3_checkIndex_8e157_11 : decode cJ3_checkIndex_8e157 11 = .ok (.iload_n 1, 1) := by decide +kernel
theorem dJ3_checkIndex_8e157_12 : decode cJ3_checkIndex_8e157 12 = .ok (.invokestatic 95, 3) := by decide +kernel
theorem dJ3_checkIndex_8e157_15 : decode cJ3_checkIndex_8e157 15 = .ok (.athrow, 1) := by decide +kernel
theorem dJ3_checkIndex_8e157_16 : decode cJ3_checkIndex_8e157 16 = .ok (.iload_n 0, 1) := by decide +kernel
theorem dJ3_checkIndex_8e157_17 : decode cJ3_checkIndex_8e157 17 = .ok (.ireturn, 1) := by decide +kernel
