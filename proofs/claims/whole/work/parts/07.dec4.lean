theorem dX10_init_0 : decode cX10_init 0 = .ok (.aload_n 0, 1) := by decide +kernel
theorem dX10_init_1 : decode cX10_init 1 = .ok (.invokespecial 1, 3) := by decide +kernel
theorem dX10_init_4 : decode cX10_init 4 = .ok (.aload_n 0, 1) := by decide +kernel
theorem dX10_init_5 : decode cX10_init 5 = .ok (.sipush 612, 3) := by decide +kernel
theorem dX10_init_8 : decode cX10_init 8 = .ok (.newarray .int, 2) := by decide +kernel
theorem dX10_init_10 : decode cX10_init 10 = .ok (.putfield 7, 3) := by decide +kernel
theorem dX10_init_13 : decode cX10_init 13 = .ok (.aload_n 0, 1) := by decide +kernel
theorem dX10_init_14 : decode cX10_init 14 = .ok (.iconst 2, 1) := by decide +kernel
theorem dX10_init_15 : decode cX10_init 15 = .ok (.newarray .boolean, 2) := by decide +kernel
theorem dX10_init_17 : decode cX10_init 17 = .ok (.putfield 13, 3) := by decide +kernel
theorem dX10_init_20 : decode cX10_init 20 = .ok (.aload_n 0, 1) := by decide +kernel
theorem dX10_init_21 : decode cX10_init 21 = .ok (.bipush 6, 2) := by decide +kernel
theorem dX10_init_23 : decode cX10_init 23 = .ok (.newarray .int, 2) := by decide +kernel
theorem dX10_init_25 : decode cX10_init 25 = .ok (.putfield 17, 3) := by decide +kernel
theorem dX10_init_28 : decode cX10_init 28 = .ok (.aload_n 0, 1) := by decide +kernel
theorem dX10_init_29 : decode cX10_init 29 = .ok (.bipush 14, 2) := by decide +kernel
theorem dX10_init_31 : decode cX10_init 31 = .ok (.newarray .int, 2) := by decide +kernel
theorem dX10_init_33 : decode cX10_init 33 = .ok (.putfield 20, 3) := by decide +kernel
theorem dX10_init_36 : decode cX10_init 36 = .ok (.aload_n 0, 1) := by decide +kernel
theorem dX10_init_37 : decode cX10_init 37 = .ok (.bipush 14, 2) := by decide +kernel
theorem dX10_init_39 : decode cX10_init 39 = .ok (.newarray .int, 2) := by decide +kernel
theorem dX10_init_41 : decode cX10_init 41 = .ok (.putfield 23, 3) := by decide +kernel
theorem dX10_init_44 : decode cX10_init 44 = .ok (.aload_n 0, 1) := by decide +kernel
theorem dX10_init_45 : decode cX10_init 45 = .ok (.bipush 14, 2) := by decide +kernel
theorem dX10_init_47 : decode cX10_init 47 = .ok (.newarray .int, 2) := by decide +kernel
theorem dX10_init_49 : decode cX10_init 49 = .ok (.putfield 26, 3) := by decide +kernel
theorem dX10_init_52 : decode cX10_init 52 = .ok (.aload_n 0, 1) := by decide +kernel
theorem dX10_init_53 : decode cX10_init 53 = .ok (.bipush 14, 2) := by decide +kernel
theorem dX10_init_55 : decode cX10_init 55 = .ok (.newarray .int, 2) := by decide +kernel
theorem dX10_init_57 : decode cX10_init 57 = .ok (.putfield 29, 3) := by decide +kernel
theorem dX10_init_60 : decode cX10_init 60 = .ok (.aload_n 0, 1) := by decide +kernel
theorem dX10_init_61 : decode cX10_init 61 = .ok (.bipush 14, 2) := by decide +kernel
theorem dX10_init_63 : decode cX10_init 63 = .ok (.newarray .int, 2) := by decide +kernel
theorem dX10_init_65 : decode cX10_init 65 = .ok (.putfield 32, 3) := by decide +kernel
theorem dX10_init_68 : decode cX10_init 68 = .ok (.aload_n 0, 1) := by decide +kernel
theorem dX10_init_69 : decode cX10_init 69 = .ok (.bipush 24, 2) := by decide +kernel
theorem dX10_init_71 : decode cX10_init 71 = .ok (.newarray .int, 2) := by decide +kernel
theorem dX10_init_73 : decode cX10_init 73 = .ok (.putfield 35, 3) := by decide +kernel
theorem dX10_init_76 : decode cX10_init 76 = .ok (.aload_n 0, 1) := by decide +kernel
theorem dX10_init_77 : decode cX10_init 77 = .ok (.sipush 240, 3) := by decide +kernel
theorem dX10_init_80 : decode cX10_init 80 = .ok (.newarray .int, 2) := by decide +kernel
theorem dX10_init_82 : decode cX10_init 82 = .ok (.putfield 38, 3) := by decide +kernel
theorem dX10_init_85 : decode cX10_init 85 = .ok (.aload_n 0, 1) := by decide +kernel
theorem dX10_init_86 : decode cX10_init 86 = .ok (.iconst (-1), 1) := by decide +kernel
theorem dX10_init_87 : decode cX10_init 87 = .ok (.putfield 41, 3) := by decide +kernel
theorem dX10_init_90 : decode cX10_init 90 = .ok (.aload_n 0, 1) := by decide +kernel
theorem dX10_init_91 : decode cX10_init 91 = .ok (.bipush 7, 2) := by decide +kernel
theorem dX10_init_93 : decode cX10_init 93 = .ok (.newarray .int, 2) := by decide +kernel
theorem dX10_init_95 : decode cX10_init 95 = .ok (.putfield 45, 3) := by decide +kernel
theorem dX10_init_98 : decode cX10_init 98 = .ok (.aload_n 0, 1) := by decide +kernel
theorem dX10_init_99 : decode cX10_init 99 = .ok (.bipush 7, 2) := by decide +kernel
theorem dX10_init_101 : decode cX10_init 101 = .ok (.newarray .int, 2) := by decide +kernel
theorem dX10_init_103 : decode cX10_init 103 = .ok (.putfield 48, 3) := by decide +kernel
theorem dX10_init_106 : decode cX10_init 106 = .ok (.aload_n 0, 1) := by decide +kernel
theorem dX10_init_107 : decode cX10_init 107 = .ok (.bipush 6, 2) := by decide +kernel
theorem dX10_init_109 : decode cX10_init 109 = .ok (.newarray .int, 2) := by decide +kernel
theorem dX10_init_111 : decode cX10_init 111 = .ok (.putfield 51, 3) := by decide +kernel
theorem dX10_init_114 : decode cX10_init 114 = .ok (.aload_n 0, 1) := by decide +kernel
theorem dX10_init_115 : decode cX10_init 115 = .ok (.bipush 6, 2) := by decide +kernel
theorem dX10_init_117 : decode cX10_init 117 = .ok (.newarray .boolean, 2) := by decide +kernel
theorem dX10_init_119 : decode cX10_init 119 = .ok (.putfield 54, 3) := by decide +kernel
theorem dX10_init_122 : decode cX10_init 122 = .ok (.aload_n 0, 1) := by decide +kernel
theorem dX10_init_123 : decode cX10_init 123 = .ok (.iconst 4, 1) := by decide +kernel
theorem dX10_init_124 : decode cX10_init 124 = .ok (.newarray .int, 2) := by decide +kernel
theorem dX10_init_126 : decode cX10_init 126 = .ok (.putfield 57, 3) := by decide +kernel
theorem dX10_init_129 : decode cX10_init 129 = .ok (.aload_n 0, 1) := by decide +kernel
theorem dX10_init_130 : decode cX10_init 130 = .ok (.bipush 20, 2) := by decide +kernel
theorem dX10_init_132 : decode cX10_init 132 = .ok (.newarray .int, 2) := by decide +kernel
theorem dX10_init_134 : decode cX10_init 134 = .ok (.putfield 60, 3) := by decide +kernel
theorem dX10_init_137 : decode cX10_init 137 = .ok (.aload_n 0, 1) := by decide +kernel
theorem dX10_init_138 : decode cX10_init 138 = .ok (.bipush 20, 2) := by decide +kernel
theorem dX10_init_140 : decode cX10_init 140 = .ok (.newarray .int, 2) := by decide +kernel
theorem dX10_init_142 : decode cX10_init 142 = .ok (.putfield 63, 3) := by decide +kernel
theorem dX10_init_145 : decode cX10_init 145 = .ok (.return_, 1) := by decide +kernel
theorem dX10_in_0 : decode cX10_in 0 = .ok (.lload_n 0, 1) := by decide +kernel
theorem dX10_in_1 : decode cX10_in 1 = .ok (.lload_n 2, 1) := by decide +kernel
theorem dX10_in_2 : decode cX10_in 2 = .ok (.lcmp, 1) := by decide +kernel
theorem dX10_in_3 : decode cX10_in 3 = .ok (.ifCond .lt 14, 3) := by decide +kernel
theorem dX10_in_6 : decode cX10_in 6 = .ok (.lload_n 0, 1) := by decide +kernel
theorem dX10_in_7 : decode cX10_in 7 = .ok (.lload 4, 2) := by decide +kernel
theorem dX10_in_9 : decode cX10_in 9 = .ok (.lcmp, 1) := by decide +kernel
theorem dX10_in_10 : decode cX10_in 10 = .ok (.ifCond .gt 7, 3) := by decide +kernel
theorem dX10_in_13 : decode cX10_in 13 = .ok (.iconst 1, 1) := by decide +kernel
theorem dX10_in_14 : decode cX10_in 14 = .ok (.goto 4, 3) := by decide +kernel
theorem dX10_in_17 : decode cX10_in 17 = .ok (.iconst 0, 1) := by decide +kernel
theorem dX10_in_18 : decode cX10_in 18 = .ok (.ireturn, 1) := by decide +kernel
theorem dX10_one_0 : decode cX10_one 0 = .ok (.iload_n 0, 1) := by decide +kernel
theorem dX10_one_1 : decode cX10_one 1 = .ok (.ifCond .eq 7, 3) := by decide +kernel
theorem dX10_one_4 : decode cX10_one 4 = .ok (.iconst 1, 1) := by decide +kernel
theorem dX10_one_5 : decode cX10_one 5 = .ok (.goto 4, 3) := by decide +kernel
theorem dX10_one_8 : decode cX10_one 8 = .ok (.iconst 0, 1) := by decide +kernel
theorem dX10_one_9 : decode cX10_one 9 = .ok (.ireturn, 1) := by decide +kernel
theorem dX10_has_0 : decode cX10_has 0 = .ok (.iload_n 0, 1) := by decide +kernel
theorem dX10_has_1 : decode cX10_has 1 = .ok (.iload_n 1, 1) := by decide +kernel
theorem dX10_has_2 : decode cX10_has 2 = .ok (.ishr, 1) := by decide +kernel
theorem dX10_has_3 : decode cX10_has 3 = .ok (.iconst 1, 1) := by decide +kernel
theorem dX10_has_4 : decode cX10_has 4 = .ok (.iand, 1) := by decide +kernel
theorem dX10_has_5 : decode cX10_has 5 = .ok (.iconst 1, 1) := by decide +kernel
theorem dX10_has_6 : decode cX10_has 6 = .ok (.if_icmp .ne 7, 3) := by decide +kernel
theorem dX10_has_9 : decode cX10_has 9 = .ok (.iconst 1, 1) := by decide +kernel
theorem dX10_has_10 : decode cX10_has 10 = .ok (.goto 4, 3) := by decide +kernel
theorem dX10_has_13 : decode cX10_has 13 = .ok (.iconst 0, 1) := by decide +kernel
theorem dX10_has_14 : decode cX10_has 14 = .ok (.ireturn, 1) := by decide +kernel
theorem dX10_far_0 : decode cX10_far 0 = .ok (.iload_n 0, 1) := by decide +kernel
theorem dX10_far_1 : decode cX10_far 1 = .ok (.iload_n 1, 1) := by decide +kernel
theorem dX10_far_2 : decode cX10_far 2 = .ok (.if_icmp .ge 9, 3) := by decide +kernel
theorem dX10_far_5 : decode cX10_far 5 = .ok (.iload_n 1, 1) := by decide +kernel
theorem dX10_far_6 : decode cX10_far 6 = .ok (.iload_n 0, 1) := by decide +kernel
theorem dX10_far_7 : decode cX10_far 7 = .ok (.isub, 1) := by decide +kernel
theorem dX10_far_8 : decode cX10_far 8 = .ok (.goto 6, 3) := by decide +kernel
theorem dX10_far_11 : decode cX10_far 11 = .ok (.iload_n 0, 1) := by decide +kernel
theorem dX10_far_12 : decode cX10_far 12 = .ok (.iload_n 1, 1) := by decide +kernel
theorem dX10_far_13 : decode cX10_far 13 = .ok (.isub, 1) := by decide +kernel
theorem dX10_far_14 : decode cX10_far 14 = .ok (.ireturn, 1) := by decide +kernel
theorem dX10_feed_0 : decode cX10_feed 0 = .ok (.iload_n 1, 1) := by decide +kernel
theorem dX10_feed_1 : decode cX10_feed 1 = .ok (.i2l, 1) := by decide +kernel
theorem dX10_feed_2 : decode cX10_feed 2 = .ok (.lconst 0, 1) := by decide +kernel
theorem dX10_feed_3 : decode cX10_feed 3 = .ok (.ldc2_w 66, 3) := by decide +kernel
theorem dX10_feed_6 : decode cX10_feed 6 = .ok (.invokestatic 68, 3) := by decide +kernel
theorem dX10_feed_9 : decode cX10_feed 9 = .ok (.ifCond .ne 6, 3) := by decide +kernel
theorem dX10_feed_12 : decode cX10_feed 12 = .ok (.ldc 72, 2) := by decide +kernel
theorem dX10_feed_14 : decode cX10_feed 14 = .ok (.ireturn, 1) := by decide +kernel
theorem dX10_feed_15 : decode cX10_feed 15 = .ok (.aload_n 0, 1) := by decide +kernel
theorem dX10_feed_16 : decode cX10_feed 16 = .ok (.getfield 73, 3) := by decide +kernel
theorem dX10_feed_19 : decode cX10_feed 19 = .ok (.sipush 240, 3) := by decide +kernel
theorem dX10_feed_22 : decode cX10_feed 22 = .ok (.if_icmp .ne 6, 3) := by decide +kernel
theorem dX10_feed_25 : decode cX10_feed 25 = .ok (.ldc 76, 2) := by decide +kernel
theorem dX10_feed_27 : decode cX10_feed 27 = .ok (.ireturn, 1) := by decide +kernel
theorem dX10_feed_28 : decode cX10_feed 28 = .ok (.aload_n 0, 1) := by decide +kernel
theorem dX10_feed_29 : decode cX10_feed 29 = .ok (.getfield 38, 3) := by decide +kernel
theorem dX10_feed_32 : decode cX10_feed 32 = .ok (.aload_n 0, 1) := by decide +kernel
theorem dX10_feed_33 : decode cX10_feed 33 = .ok (.getfield 73, 3) := by decide +kernel
theorem dX10_feed_36 : decode cX10_feed 36 = .ok (.iload_n 1, 1) := by decide +kernel
theorem dX10_feed_37 : decode cX10_feed 37 = .ok (.iastore, 1) := by decide +kernel
theorem dX10_feed_38 : decode cX10_feed 38 = .ok (.aload_n 0, 1) := by decide +kernel
theorem dX10_feed_39 : decode cX10_feed 39 = .ok (.dup, 1) := by decide +kernel
theorem dX10_feed_40 : decode cX10_feed 40 = .ok (.getfield 73, 3) := by decide +kernel
theorem dX10_feed_43 : decode cX10_feed 43 = .ok (.iconst 1, 1) := by decide +kernel
theorem dX10_feed_44 : decode cX10_feed 44 = .ok (.iadd, 1) := by decide +kernel
theorem dX10_feed_45 : decode cX10_feed 45 = .ok (.putfield 73, 3) := by decide +kernel
theorem dX10_feed_48 : decode cX10_feed 48 = .ok (.aload_n 0, 1) := by decide +kernel
theorem dX10_feed_49 : decode cX10_feed 49 = .ok (.getfield 73, 3) := by decide +kernel
theorem dX10_feed_52 : decode cX10_feed 52 = .ok (.ireturn, 1) := by decide +kernel
theorem dX10_here_0 : decode cX10_here 0 = .ok (.aload_n 0, 1) := by decide +kernel
theorem dX10_here_1 : decode cX10_here 1 = .ok (.getfield 77, 3) := by decide +kernel
theorem dX10_here_4 : decode cX10_here 4 = .ok (.aload_n 0, 1) := by decide +kernel
theorem dX10_here_5 : decode cX10_here 5 = .ok (.getfield 73, 3) := by decide +kernel
theorem dX10_here_8 : decode cX10_here 8 = .ok (.if_icmp .ge 30, 3) := by decide +kernel
theorem dX10_here_11 : decode cX10_here 11 = .ok (.aload_n 0, 1) := by decide +kernel
theorem dX10_here_12 : decode cX10_here 12 = .ok (.getfield 38, 3) := by decide +kernel
theorem dX10_here_15 : decode cX10_here 15 = .ok (.aload_n 0, 1) := by decide +kernel
theorem dX10_here_16 : decode cX10_here 16 = .ok (.getfield 77, 3) := by decide +kernel
theorem dX10_here_19 : decode cX10_here 19 = .ok (.iaload, 1) := by decide +kernel
theorem dX10_here_20 : decode cX10_here 20 = .ok (.bipush 32, 2) := by decide +kernel
theorem dX10_here_22 : decode cX10_here 22 = .ok (.if_icmp .ne 16, 3) := by decide +kernel
theorem dX10_here_25 : decode cX10_here 25 = .ok (.aload_n 0, 1) := by decide +kernel
theorem dX10_here_26 : decode cX10_here 26 = .ok (.dup, 1) := by decide +kernel
theorem dX10_here_27 : decode cX10_here 27 = .ok (.getfield 77, 3) := by decide +kernel
theorem dX10_here_30 : decode cX10_here 30 = .ok (.iconst 1, 1) := by decide +kernel
theorem dX10_here_31 : decode cX10_here 31 = .ok (.iadd, 1) := by decide +kernel
theorem dX10_here_32 : decode cX10_here 32 = .ok (.putfield 77, 3) := by decide +kernel
theorem dX10_here_35 : decode cX10_here 35 = .ok (.goto (-35), 3) := by decide +kernel
theorem dX10_here_38 : decode cX10_here 38 = .ok (.aload_n 0, 1) := by decide +kernel
theorem dX10_here_39 : decode cX10_here 39 = .ok (.getfield 77, 3) := by decide +kernel
theorem dX10_here_42 : decode cX10_here 42 = .ok (.aload_n 0, 1) := by decide +kernel
theorem dX10_here_43 : decode cX10_here 43 = .ok (.getfield 73, 3) := by decide +kernel
theorem dX10_here_46 : decode cX10_here 46 = .ok (.if_icmp .ge 15, 3) := by decide +kernel
theorem dX10_here_49 : decode cX10_here 49 = .ok (.aload_n 0, 1) := by decide +kernel
theorem dX10_here_50 : decode cX10_here 50 = .ok (.getfield 38, 3) := by decide +kernel
theorem dX10_here_53 : decode cX10_here 53 = .ok (.aload_n 0, 1) := by decide +kernel
theorem dX10_here_54 : decode cX10_here 54 = .ok (.getfield 77, 3) := by decide +kernel
theorem dX10_here_57 : decode cX10_here 57 = .ok (.iaload, 1) := by decide +kernel
theorem dX10_here_58 : decode cX10_here 58 = .ok (.goto 4, 3) := by decide +kernel
theorem dX10_here_61 : decode cX10_here 61 = .ok (.iconst (-1), 1) := by decide +kernel
theorem dX10_here_62 : decode cX10_here 62 = .ok (.ireturn, 1) := by decide +kernel
theorem dX10_want_0 : decode cX10_want 0 = .ok (.iload_n 1, 1) := by decide +kernel
theorem dX10_want_1 : decode cX10_want 1 = .ok (.ifCond .ne 20, 3) := by decide +kernel
theorem dX10_want_4 : decode cX10_want 4 = .ok (.aload_n 0, 1) := by decide +kernel
theorem dX10_want_5 : decode cX10_want 5 = .ok (.getfield 80, 3) := by decide +kernel
theorem dX10_want_8 : decode cX10_want 8 = .ok (.ifCond .ne 13, 3) := by decide +kernel
theorem dX10_want_11 : decode cX10_want 11 = .ok (.aload_n 0, 1) := by decide +kernel
theorem dX10_want_12 : decode cX10_want 12 = .ok (.iload_n 2, 1) := by decide +kernel
theorem dX10_want_13 : decode cX10_want 13 = .ok (.putfield 80, 3) := by decide +kernel
theorem dX10_want_16 : decode cX10_want 16 = .ok (.aload_n 0, 1) := by decide +kernel
theorem dX10_want_17 : decode cX10_want 17 = .ok (.iload_n 3, 1) := by decide +kernel
theorem dX10_want_18 : decode cX10_want 18 = .ok (.putfield 41, 3) := by decide +kernel
theorem dX10_want_21 : decode cX10_want 21 = .ok (.aload_n 0, 1) := by decide +kernel
theorem dX10_want_22 : decode cX10_want 22 = .ok (.getfield 80, 3) := by decide +kernel
theorem dX10_want_25 : decode cX10_want 25 = .ok (.ifCond .ne 7, 3) := by decide +kernel
theorem dX10_want_28 : decode cX10_want 28 = .ok (.iconst 1, 1) := by decide +kernel
theorem dX10_want_29 : decode cX10_want 29 = .ok (.goto 4, 3) := by decide +kernel
theorem dX10_want_32 : decode cX10_want 32 = .ok (.iconst 0, 1) := by decide +kernel
theorem dX10_want_33 : decode cX10_want 33 = .ok (.ireturn, 1) := by decide +kernel
theorem dX10_takeNumber_0 : decode cX10_takeNumber 0 = .ok (.aload_n 0, 1) := by decide +kernel
theorem dX10_takeNumber_1 : decode cX10_takeNumber 1 = .ok (.getfield 80, 3) := by decide +kernel
theorem dX10_takeNumber_4 : decode cX10_takeNumber 4 = .ok (.ifCond .le 5, 3) := by decide +kernel
theorem dX10_takeNumber_7 : decode cX10_takeNumber 7 = .ok (.iconst 0, 1) := by decide +kernel
theorem dX10_takeNumber_8 : decode cX10_takeNumber 8 = .ok (.ireturn, 1) := by decide +kernel
theorem dX10_takeNumber_9 : decode cX10_takeNumber 9 = .ok (.aload_n 0, 1) := by decide +kernel
theorem dX10_takeNumber_10 : decode cX10_takeNumber 10 = .ok (.invokevirtual 83, 3) := by decide +kernel
theorem dX10_takeNumber_13 : decode cX10_takeNumber 13 = .ok (.istore_n 1, 1) := by decide +kernel
theorem dX10_takeNumber_14 : decode cX10_takeNumber 14 = .ok (.aload_n 0, 1) := by decide +kernel
theorem dX10_takeNumber_15 : decode cX10_takeNumber 15 = .ok (.aload_n 0, 1) := by decide +kernel
theorem dX10_takeNumber_16 : decode cX10_takeNumber 16 = .ok (.getfield 77, 3) := by decide +kernel
theorem dX10_takeNumber_19 : decode cX10_takeNumber 19 = .ok (.putfield 87, 3) := by decide +kernel
theorem dX10_takeNumber_22 : decode cX10_takeNumber 22 = .ok (.aload_n 0, 1) := by decide +kernel
theorem dX10_takeNumber_23 : decode cX10_takeNumber 23 = .ok (.iload_n 1, 1) := by decide +kernel
theorem dX10_takeNumber_24 : decode cX10_takeNumber 24 = .ok (.i2l, 1) := by decide +kernel
theorem dX10_takeNumber_25 : decode cX10_takeNumber 25 = .ok (.ldc2_w 90, 3) := by decide +kernel
theorem dX10_takeNumber_28 : decode cX10_takeNumber 28 = .ok (.ldc2_w 92, 3) := by decide +kernel
theorem dX10_takeNumber_31 : decode cX10_takeNumber 31 = .ok (.invokestatic 68, 3) := by decide +kernel
theorem dX10_takeNumber_34 : decode cX10_takeNumber 34 = .ok (.iconst 1, 1) := by decide +kernel
theorem dX10_takeNumber_35 : decode cX10_takeNumber 35 = .ok (.aload_n 0, 1) := by decide +kernel
theorem dX10_takeNumber_36 : decode cX10_takeNumber 36 = .ok (.getfield 77, 3) := by decide +kernel
theorem dX10_takeNumber_39 : decode cX10_takeNumber 39 = .ok (.invokevirtual 94, 3) := by decide +kernel
theorem dX10_takeNumber_42 : decode cX10_takeNumber 42 = .ok (.ifCond .ne 5, 3) := by decide +kernel
theorem dX10_takeNumber_45 : decode cX10_takeNumber 45 = .ok (.iconst 0, 1) := by decide +kernel
theorem dX10_takeNumber_46 : decode cX10_takeNumber 46 = .ok (.ireturn, 1) := by decide +kernel
theorem dX10_takeNumber_47 : decode cX10_takeNumber 47 = .ok (.iconst 0, 1) := by decide +kernel
theorem dX10_takeNumber_48 : decode cX10_takeNumber 48 = .ok (.istore_n 2, 1) := by decide +kernel
theorem dX10_takeNumber_49 : decode cX10_takeNumber 49 = .ok (.aload_n 0, 1) := by decide +kernel
theorem dX10_takeNumber_50 : decode cX10_takeNumber 50 = .ok (.getfield 77, 3) := by decide +kernel
theorem dX10_takeNumber_53 : decode cX10_takeNumber 53 = .ok (.aload_n 0, 1) := by decide +kernel
theorem dX10_takeNumber_54 : decode cX10_takeNumber 54 = .ok (.getfield 73, 3) := by decide +kernel
theorem dX10_takeNumber_57 : decode cX10_takeNumber 57 = .ok (.if_icmp .ge 66, 3) := by decide +kernel
theorem dX10_takeNumber_60 : decode cX10_takeNumber 60 = .ok (.aload_n 0, 1) := by decide +kernel
theorem dX10_takeNumber_61 : decode cX10_takeNumber 61 = .ok (.getfield 38, 3) := by decide +kernel
theorem dX10_takeNumber_64 : decode cX10_takeNumber 64 = .ok (.aload_n 0, 1) := by decide +kernel
theorem dX10_takeNumber_65 : decode cX10_takeNumber 65 = .ok (.getfield 77, 3) := by decide +kernel
theorem dX10_takeNumber_68 : decode cX10_takeNumber 68 = .ok (.iaload, 1) := by decide +kernel
theorem dX10_takeNumber_69 : decode cX10_takeNumber 69 = .ok (.i2l, 1) := by decide +kernel
theorem dX10_takeNumber_70 : decode cX10_takeNumber 70 = .ok (.ldc2_w 90, 3) := by decide +kernel
theorem dX10_takeNumber_73 : decode cX10_takeNumber 73 = .ok (.ldc2_w 92, 3) := by decide +kernel
theorem dX10_takeNumber_76 : decode cX10_takeNumber 76 = .ok (.invokestatic 68, 3) := by decide +kernel
theorem dX10_takeNumber_79 : decode cX10_takeNumber 79 = .ok (.ifCond .eq 44, 3) := by decide +kernel
theorem dX10_takeNumber_82 : decode cX10_takeNumber 82 = .ok (.iload_n 2, 1) := by decide +kernel
theorem dX10_takeNumber_83 : decode cX10_takeNumber 83 = .ok (.ldc 98, 2) := by decide +kernel
theorem dX10_takeNumber_85 : decode cX10_takeNumber 85 = .ok (.if_icmp .le 7, 3) := by decide +kernel
theorem dX10_takeNumber_88 : decode cX10_takeNumber 88 = .ok (.iload_n 2, 1) := by decide +kernel
theorem dX10_takeNumber_89 : decode cX10_takeNumber 89 = .ok (.goto 20, 3) := by decide +kernel
theorem dX10_takeNumber_92 : decode cX10_takeNumber 92 = .ok (.bipush 10, 2) := by decide +kernel
theorem dX10_takeNumber_94 : decode cX10_takeNumber 94 = .ok (.iload_n 2, 1) := by decide +kernel
theorem dX10_takeNumber_95 : decode cX10_takeNumber 95 = .ok (.imul, 1) := by decide +kernel
theorem dX10_takeNumber_96 : decode cX10_takeNumber 96 = .ok (.aload_n 0, 1) := by decide +kernel
theorem dX10_takeNumber_97 : decode cX10_takeNumber 97 = .ok (.getfield 38, 3) := by decide +kernel
theorem dX10_takeNumber_100 : decode cX10_takeNumber 100 = .ok (.aload_n 0, 1) := by decide +kernel
theorem dX10_takeNumber_101 : decode cX10_takeNumber 101 = .ok (.getfield 77, 3) := by decide +kernel
theorem dX10_takeNumber_104 : decode cX10_takeNumber 104 = .ok (.iaload, 1) := by decide +kernel
theorem dX10_takeNumber_105 : decode cX10_takeNumber 105 = .ok (.iadd, 1) := by decide +kernel
theorem dX10_takeNumber_106 : decode cX10_takeNumber 106 = .ok (.bipush 48, 2) := by decide +kernel
theorem dX10_takeNumber_108 : decode cX10_takeNumber 108 = .ok (.isub, 1) := by decide +kernel
theorem dX10_takeNumber_109 : decode cX10_takeNumber 109 = .ok (.istore_n 2, 1) := by decide +kernel
theorem dX10_takeNumber_110 : decode cX10_takeNumber 110 = .ok (.aload_n 0, 1) := by decide +kernel
theorem dX10_takeNumber_111 : decode cX10_takeNumber 111 = .ok (.dup, 1) := by decide +kernel
theorem dX10_takeNumber_112 : decode cX10_takeNumber 112 = .ok (.getfield 77, 3) := by decide +kernel
theorem dX10_takeNumber_115 : decode cX10_takeNumber 115 = .ok (.iconst 1, 1) := by decide +kernel
theorem dX10_takeNumber_116 : decode cX10_takeNumber 116 = .ok (.iadd, 1) := by decide +kernel
theorem dX10_takeNumber_117 : decode cX10_takeNumber 117 = .ok (.putfield 77, 3) := by decide +kernel
theorem dX10_takeNumber_120 : decode cX10_takeNumber 120 = .ok (.goto (-71), 3) := by decide +kernel
theorem dX10_takeNumber_123 : decode cX10_takeNumber 123 = .ok (.aload_n 0, 1) := by decide +kernel
theorem dX10_takeNumber_124 : decode cX10_takeNumber 124 = .ok (.aload_n 0, 1) := by decide +kernel
theorem dX10_takeNumber_125 : decode cX10_takeNumber 125 = .ok (.getfield 77, 3) := by decide +kernel
theorem dX10_takeNumber_128 : decode cX10_takeNumber 128 = .ok (.aload_n 0, 1) := by decide +kernel
theorem dX10_takeNumber_129 : decode cX10_takeNumber 129 = .ok (.getfield 87, 3) := by decide +kernel
theorem dX10_takeNumber_132 : decode cX10_takeNumber 132 = .ok (.isub, 1) := by decide +kernel
theorem dX10_takeNumber_133 : decode cX10_takeNumber 133 = .ok (.iconst 5, 1) := by decide +kernel
theorem dX10_takeNumber_134 : decode cX10_takeNumber 134 = .ok (.if_icmp .ge 7, 3) := by decide +kernel
theorem dX10_takeNumber_137 : decode cX10_takeNumber 137 = .ok (.iconst 1, 1) := by decide +kernel
theorem dX10_takeNumber_138 : decode cX10_takeNumber 138 = .ok (.goto 4, 3) := by decide +kernel
theorem dX10_takeNumber_141 : decode cX10_takeNumber 141 = .ok (.iconst 0, 1) := by decide +kernel
theorem dX10_takeNumber_142 : decode cX10_takeNumber 142 = .ok (.iconst 2, 1) := by decide +kernel
theorem dX10_takeNumber_143 : decode cX10_takeNumber 143 = .ok (.aload_n 0, 1) := by decide +kernel
theorem dX10_takeNumber_144 : decode cX10_takeNumber 144 = .ok (.getfield 87, 3) := by decide +kernel
theorem dX10_takeNumber_147 : decode cX10_takeNumber 147 = .ok (.invokevirtual 94, 3) := by decide +kernel
theorem dX10_takeNumber_150 : decode cX10_takeNumber 150 = .ok (.istore_n 3, 1) := by decide +kernel
theorem dX10_takeNumber_151 : decode cX10_takeNumber 151 = .ok (.iload_n 2, 1) := by decide +kernel
theorem dX10_takeNumber_152 : decode cX10_takeNumber 152 = .ok (.ireturn, 1) := by decide +kernel
theorem dX10_takeIn_0 : decode cX10_takeIn 0 = .ok (.aload_n 0, 1) := by decide +kernel
theorem dX10_takeIn_1 : decode cX10_takeIn 1 = .ok (.invokevirtual 99, 3) := by decide +kernel
theorem dX10_takeIn_4 : decode cX10_takeIn 4 = .ok (.istore_n 3, 1) := by decide +kernel
theorem dX10_takeIn_5 : decode cX10_takeIn 5 = .ok (.aload_n 0, 1) := by decide +kernel
theorem dX10_takeIn_6 : decode cX10_takeIn 6 = .ok (.aload_n 0, 1) := by decide +kernel
theorem dX10_takeIn_7 : decode cX10_takeIn 7 = .ok (.getfield 80, 3) := by decide +kernel
theorem dX10_takeIn_10 : decode cX10_takeIn 10 = .ok (.ifCond .gt 15, 3) := by decide +kernel
theorem dX10_takeIn_13 : decode cX10_takeIn 13 = .ok (.iload_n 3, 1) := by decide +kernel
theorem dX10_takeIn_14 : decode cX10_takeIn 14 = .ok (.i2l, 1) := by decide +kernel
theorem dX10_takeIn_15 : decode cX10_takeIn 15 = .ok (.iload_n 1, 1) := by decide +kernel
theorem dX10_takeIn_16 : decode cX10_takeIn 16 = .ok (.i2l, 1) := by decide +kernel
theorem dX10_takeIn_17 : decode cX10_takeIn 17 = .ok (.iload_n 2, 1) := by decide +kernel
theorem dX10_takeIn_18 : decode cX10_takeIn 18 = .ok (.i2l, 1) := by decide +kernel
theorem dX10_takeIn_19 : decode cX10_takeIn 19 = .ok (.invokestatic 68, 3) := by decide +kernel
theorem dX10_takeIn_22 : decode cX10_takeIn 22 = .ok (.ifCond .eq 7, 3) := by decide +kernel
theorem dX10_takeIn_25 : decode cX10_takeIn 25 = .ok (.iconst 1, 1) := by decide +kernel
theorem dX10_takeIn_26 : decode cX10_takeIn 26 = .ok (.goto 4, 3) := by decide +kernel
theorem dX10_takeIn_29 : decode cX10_takeIn 29 = .ok (.iconst 0, 1) := by decide +kernel
theorem dX10_takeIn_30 : decode cX10_takeIn 30 = .ok (.iconst 2, 1) := by decide +kernel
theorem dX10_takeIn_31 : decode cX10_takeIn 31 = .ok (.aload_n 0, 1) := by decide +kernel
theorem dX10_takeIn_32 : decode cX10_takeIn 32 = .ok (.getfield 87, 3) := by decide +kernel
theorem dX10_takeIn_35 : decode cX10_takeIn 35 = .ok (.invokevirtual 94, 3) := by decide +kernel
theorem dX10_takeIn_38 : decode cX10_takeIn 38 = .ok (.istore 4, 2) := by decide +kernel
theorem dX10_takeIn_40 : decode cX10_takeIn 40 = .ok (.aload_n 0, 1) := by decide +kernel
theorem dX10_takeIn_41 : decode cX10_takeIn 41 = .ok (.getfield 80, 3) := by decide +kernel
theorem dX10_takeIn_44 : decode cX10_takeIn 44 = .ok (.ifCond .le 7, 3) := by decide +kernel
theorem dX10_takeIn_47 : decode cX10_takeIn 47 = .ok (.iconst 0, 1) := by decide +kernel
theorem dX10_takeIn_48 : decode cX10_takeIn 48 = .ok (.goto 4, 3) := by decide +kernel
theorem dX10_takeIn_51 : decode cX10_takeIn 51 = .ok (.iload_n 3, 1) := by decide +kernel
theorem dX10_takeIn_52 : decode cX10_takeIn 52 = .ok (.ireturn, 1) := by decide +kernel
theorem dX10_takeRule_0 : decode cX10_takeRule 0 = .ok (.aload_n 0, 1) := by decide +kernel
theorem dX10_takeRule_1 : decode cX10_takeRule 1 = .ok (.aload_n 0, 1) := by decide +kernel
theorem dX10_takeRule_2 : decode cX10_takeRule 2 = .ok (.getfield 17, 3) := by decide +kernel
theorem dX10_takeRule_5 : decode cX10_takeRule 5 = .ok (.iconst 3, 1) := by decide +kernel
theorem dX10_takeRule_6 : decode cX10_takeRule 6 = .ok (.iaload, 1) := by decide +kernel
theorem dX10_takeRule_7 : decode cX10_takeRule 7 = .ok (.ifCond .ne 7, 3) := by decide +kernel
theorem dX10_takeRule_10 : decode cX10_takeRule 10 = .ok (.iconst 1, 1) := by decide +kernel
theorem dX10_takeRule_11 : decode cX10_takeRule 11 = .ok (.goto 4, 3) := by decide +kernel
theorem dX10_takeRule_14 : decode cX10_takeRule 14 = .ok (.iconst 0, 1) := by decide +kernel
theorem dX10_takeRule_15 : decode cX10_takeRule 15 = .ok (.iconst 3, 1) := by decide +kernel
theorem dX10_takeRule_16 : decode cX10_takeRule 16 = .ok (.iload_n 1, 1) := by decide +kernel
theorem dX10_takeRule_17 : decode cX10_takeRule 17 = .ok (.invokevirtual 94, 3) := by decide +kernel
theorem dX10_takeRule_20 : decode cX10_takeRule 20 = .ok (.ifCond .eq 44, 3) := by decide +kernel
theorem dX10_takeRule_23 : decode cX10_takeRule 23 = .ok (.aload_n 0, 1) := by decide +kernel
theorem dX10_takeRule_24 : decode cX10_takeRule 24 = .ok (.iconst 1, 1) := by decide +kernel
theorem dX10_takeRule_25 : decode cX10_takeRule 25 = .ok (.bipush 90, 2) := by decide +kernel
theorem dX10_takeRule_27 : decode cX10_takeRule 27 = .ok (.invokevirtual 102, 3) := by decide +kernel
theorem dX10_takeRule_30 : decode cX10_takeRule 30 = .ok (.istore_n 2, 1) := by decide +kernel
theorem dX10_takeRule_31 : decode cX10_takeRule 31 = .ok (.aload_n 0, 1) := by decide +kernel
theorem dX10_takeRule_32 : decode cX10_takeRule 32 = .ok (.getfield 17, 3) := by decide +kernel
theorem dX10_takeRule_35 : decode cX10_takeRule 35 = .ok (.iconst 4, 1) := by decide +kernel
theorem dX10_takeRule_36 : decode cX10_takeRule 36 = .ok (.aload_n 0, 1) := by decide +kernel
theorem dX10_takeRule_37 : decode cX10_takeRule 37 = .ok (.iconst 0, 1) := by decide +kernel
theorem dX10_takeRule_38 : decode cX10_takeRule 38 = .ok (.bipush 99, 2) := by decide +kernel
theorem dX10_takeRule_40 : decode cX10_takeRule 40 = .ok (.invokevirtual 102, 3) := by decide +kernel
theorem dX10_takeRule_43 : decode cX10_takeRule 43 = .ok (.iastore, 1) := by decide +kernel
theorem dX10_takeRule_44 : decode cX10_takeRule 44 = .ok (.aload_n 0, 1) := by decide +kernel
theorem dX10_takeRule_45 : decode cX10_takeRule 45 = .ok (.getfield 17, 3) := by decide +kernel
theorem dX10_takeRule_48 : decode cX10_takeRule 48 = .ok (.iconst 5, 1) := by decide +kernel
theorem dX10_takeRule_49 : decode cX10_takeRule 49 = .ok (.aload_n 0, 1) := by decide +kernel
theorem dX10_takeRule_50 : decode cX10_takeRule 50 = .ok (.iconst 1, 1) := by decide +kernel
theorem dX10_takeRule_51 : decode cX10_takeRule 51 = .ok (.bipush 30, 2) := by decide +kernel
theorem dX10_takeRule_53 : decode cX10_takeRule 53 = .ok (.invokevirtual 102, 3) := by decide +kernel
theorem dX10_takeRule_56 : decode cX10_takeRule 56 = .ok (.iastore, 1) := by decide +kernel
theorem dX10_takeRule_57 : decode cX10_takeRule 57 = .ok (.aload_n 0, 1) := by decide +kernel
theorem dX10_takeRule_58 : decode cX10_takeRule 58 = .ok (.getfield 17, 3) := by decide +kernel
theorem dX10_takeRule_61 : decode cX10_takeRule 61 = .ok (.iconst 3, 1) := by decide +kernel
theorem dX10_takeRule_62 : decode cX10_takeRule 62 = .ok (.iload_n 2, 1) := by decide +kernel
theorem dX10_takeRule_63 : decode cX10_takeRule 63 = .ok (.iastore, 1) := by decide +kernel
theorem dX10_takeRule_64 : decode cX10_takeRule 64 = .ok (.return_, 1) := by decide +kernel
theorem dX10_takeStop_0 : decode cX10_takeStop 0 = .ok (.aload_n 0, 1) := by decide +kernel
theorem dX10_takeStop_1 : decode cX10_takeStop 1 = .ok (.aload_n 0, 1) := by decide +kernel
theorem dX10_takeStop_2 : decode cX10_takeStop 2 = .ok (.getfield 106, 3) := by decide +kernel
theorem dX10_takeStop_5 : decode cX10_takeStop 5 = .ok (.bipush 7, 2) := by decide +kernel
theorem dX10_takeStop_7 : decode cX10_takeStop 7 = .ok (.if_icmp .ge 7, 3) := by decide +kernel
theorem dX10_takeStop_10 : decode cX10_takeStop 10 = .ok (.iconst 1, 1) := by decide +kernel
theorem dX10_takeStop_11 : decode cX10_takeStop 11 = .ok (.goto 4, 3) := by decide +kernel
theorem dX10_takeStop_14 : decode cX10_takeStop 14 = .ok (.iconst 0, 1) := by decide +kernel
theorem dX10_takeStop_15 : decode cX10_takeStop 15 = .ok (.iconst 3, 1) := by decide +kernel
theorem dX10_takeStop_16 : decode cX10_takeStop 16 = .ok (.iload_n 1, 1) := by decide +kernel
theorem dX10_takeStop_17 : decode cX10_takeStop 17 = .ok (.invokevirtual 94, 3) := by decide +kernel
theorem dX10_takeStop_20 : decode cX10_takeStop 20 = .ok (.ifCond .eq 75, 3) := by decide +kernel
theorem dX10_takeStop_23 : decode cX10_takeStop 23 = .ok (.bipush 7, 2) := by decide +kernel
theorem dX10_takeStop_25 : decode cX10_takeStop 25 = .ok (.aload_n 0, 1) := by decide +kernel
theorem dX10_takeStop_26 : decode cX10_takeStop 26 = .ok (.getfield 106, 3) := by decide +kernel
theorem dX10_takeStop_29 : decode cX10_takeStop 29 = .ok (.iadd, 1) := by decide +kernel
theorem dX10_takeStop_30 : decode cX10_takeStop 30 = .ok (.istore_n 2, 1) := by decide +kernel
theorem dX10_takeStop_31 : decode cX10_takeStop 31 = .ok (.aload_n 0, 1) := by decide +kernel
theorem dX10_takeStop_32 : decode cX10_takeStop 32 = .ok (.getfield 20, 3) := by decide +kernel
theorem dX10_takeStop_35 : decode cX10_takeStop 35 = .ok (.iload_n 2, 1) := by decide +kernel
theorem dX10_takeStop_36 : decode cX10_takeStop 36 = .ok (.aload_n 0, 1) := by decide +kernel
theorem dX10_takeStop_37 : decode cX10_takeStop 37 = .ok (.iconst 0, 1) := by decide +kernel
theorem dX10_takeStop_38 : decode cX10_takeStop 38 = .ok (.bipush 99, 2) := by decide +kernel
theorem dX10_takeStop_40 : decode cX10_takeStop 40 = .ok (.invokevirtual 102, 3) := by decide +kernel
theorem dX10_takeStop_43 : decode cX10_takeStop 43 = .ok (.iastore, 1) := by decide +kernel
theorem dX10_takeStop_44 : decode cX10_takeStop 44 = .ok (.aload_n 0, 1) := by decide +kernel
theorem dX10_takeStop_45 : decode cX10_takeStop 45 = .ok (.getfield 23, 3) := by decide +kernel
theorem dX10_takeStop_48 : decode cX10_takeStop 48 = .ok (.iload_n 2, 1) := by decide +kernel
theorem dX10_takeStop_49 : decode cX10_takeStop 49 = .ok (.aload_n 0, 1) := by decide +kernel
theorem dX10_takeStop_50 : decode cX10_takeStop 50 = .ok (.iconst 0, 1) := by decide +kernel
theorem dX10_takeStop_51 : decode cX10_takeStop 51 = .ok (.sipush 4095, 3) := by decide +kernel
theorem dX10_takeStop_54 : decode cX10_takeStop 54 = .ok (.invokevirtual 102, 3) := by decide +kernel
theorem dX10_takeStop_57 : decode cX10_takeStop 57 = .ok (.iastore, 1) := by decide +kernel
theorem dX10_takeStop_58 : decode cX10_takeStop 58 = .ok (.aload_n 0, 1) := by decide +kernel
theorem dX10_takeStop_59 : decode cX10_takeStop 59 = .ok (.getfield 26, 3) := by decide +kernel
theorem dX10_takeStop_62 : decode cX10_takeStop 62 = .ok (.iload_n 2, 1) := by decide +kernel
theorem dX10_takeStop_63 : decode cX10_takeStop 63 = .ok (.aload_n 0, 1) := by decide +kernel
theorem dX10_takeStop_64 : decode cX10_takeStop 64 = .ok (.iconst 0, 1) := by decide +kernel
theorem dX10_takeStop_65 : decode cX10_takeStop 65 = .ok (.bipush 9, 2) := by decide +kernel
theorem dX10_takeStop_67 : decode cX10_takeStop 67 = .ok (.invokevirtual 102, 3) := by decide +kernel
theorem dX10_takeStop_70 : decode cX10_takeStop 70 = .ok (.iastore, 1) := by decide +kernel
theorem dX10_takeStop_71 : decode cX10_takeStop 71 = .ok (.aload_n 0, 1) := by decide +kernel
theorem dX10_takeStop_72 : decode cX10_takeStop 72 = .ok (.getfield 29, 3) := by decide +kernel
theorem dX10_takeStop_75 : decode cX10_takeStop 75 = .ok (.iload_n 2, 1) := by decide +kernel
theorem dX10_takeStop_76 : decode cX10_takeStop 76 = .ok (.iconst (-1), 1) := by decide +kernel
theorem dX10_takeStop_77 : decode cX10_takeStop 77 = .ok (.iastore, 1) := by decide +kernel
theorem dX10_takeStop_78 : decode cX10_takeStop 78 = .ok (.aload_n 0, 1) := by decide +kernel
theorem dX10_takeStop_79 : decode cX10_takeStop 79 = .ok (.getfield 32, 3) := by decide +kernel
theorem dX10_takeStop_82 : decode cX10_takeStop 82 = .ok (.iload_n 2, 1) := by decide +kernel
theorem dX10_takeStop_83 : decode cX10_takeStop 83 = .ok (.iconst 0, 1) := by decide +kernel
theorem dX10_takeStop_84 : decode cX10_takeStop 84 = .ok (.iastore, 1) := by decide +kernel
theorem dX10_takeStop_85 : decode cX10_takeStop 85 = .ok (.aload_n 0, 1) := by decide +kernel
theorem dX10_takeStop_86 : decode cX10_takeStop 86 = .ok (.dup, 1) := by decide +kernel
theorem dX10_takeStop_87 : decode cX10_takeStop 87 = .ok (.getfield 106, 3) := by decide +kernel
theorem dX10_takeStop_90 : decode cX10_takeStop 90 = .ok (.iconst 1, 1) := by decide +kernel
theorem dX10_takeStop_91 : decode cX10_takeStop 91 = .ok (.iadd, 1) := by decide +kernel
theorem dX10_takeStop_92 : decode cX10_takeStop 92 = .ok (.putfield 106, 3) := by decide +kernel
theorem dX10_takeStop_95 : decode cX10_takeStop 95 = .ok (.return_, 1) := by decide +kernel
theorem dX10_takeDins_0 : decode cX10_takeDins 0 = .ok (.aload_n 0, 1) := by decide +kernel
theorem dX10_takeDins_1 : decode cX10_takeDins 1 = .ok (.aload_n 0, 1) := by decide +kernel
theorem dX10_takeDins_2 : decode cX10_takeDins 2 = .ok (.getfield 109, 3) := by decide +kernel
theorem dX10_takeDins_5 : decode cX10_takeDins 5 = .ok (.ifCond .ne 7, 3) := by decide +kernel
theorem dX10_takeDins_8 : decode cX10_takeDins 8 = .ok (.iconst 1, 1) := by decide +kernel
theorem dX10_takeDins_9 : decode cX10_takeDins 9 = .ok (.goto 4, 3) := by decide +kernel
theorem dX10_takeDins_12 : decode cX10_takeDins 12 = .ok (.iconst 0, 1) := by decide +kernel
theorem dX10_takeDins_13 : decode cX10_takeDins 13 = .ok (.iconst 3, 1) := by decide +kernel
theorem dX10_takeDins_14 : decode cX10_takeDins 14 = .ok (.iload_n 1, 1) := by decide +kernel
theorem dX10_takeDins_15 : decode cX10_takeDins 15 = .ok (.invokevirtual 94, 3) := by decide +kernel
theorem dX10_takeDins_18 : decode cX10_takeDins 18 = .ok (.istore_n 2, 1) := by decide +kernel
theorem dX10_takeDins_19 : decode cX10_takeDins 19 = .ok (.iload_n 2, 1) := by decide +kernel
theorem dX10_takeDins_20 : decode cX10_takeDins 20 = .ok (.ifCond .eq 114, 3) := by decide +kernel
theorem dX10_takeDins_23 : decode cX10_takeDins 23 = .ok (.aload_n 0, 1) := by decide +kernel
theorem dX10_takeDins_24 : decode cX10_takeDins 24 = .ok (.getfield 35, 3) := by decide +kernel
theorem dX10_takeDins_27 : decode cX10_takeDins 27 = .ok (.bipush 12, 2) := by decide +kernel
theorem dX10_takeDins_29 : decode cX10_takeDins 29 = .ok (.aload_n 0, 1) := by decide +kernel
theorem dX10_takeDins_30 : decode cX10_takeDins 30 = .ok (.getfield 109, 3) := by decide +kernel
theorem dX10_takeDins_33 : decode cX10_takeDins 33 = .ok (.iadd, 1) := by decide +kernel
theorem dX10_takeDins_34 : decode cX10_takeDins 34 = .ok (.aload_n 0, 1) := by decide +kernel
theorem dX10_takeDins_35 : decode cX10_takeDins 35 = .ok (.iconst 0, 1) := by decide +kernel
theorem dX10_takeDins_36 : decode cX10_takeDins 36 = .ok (.bipush 9, 2) := by decide +kernel
theorem dX10_takeDins_38 : decode cX10_takeDins 38 = .ok (.invokevirtual 102, 3) := by decide +kernel
theorem dX10_takeDins_41 : decode cX10_takeDins 41 = .ok (.iastore, 1) := by decide +kernel
theorem dX10_takeDins_42 : decode cX10_takeDins 42 = .ok (.aload_n 0, 1) := by decide +kernel
theorem dX10_takeDins_43 : decode cX10_takeDins 43 = .ok (.dup, 1) := by decide +kernel
theorem dX10_takeDins_44 : decode cX10_takeDins 44 = .ok (.getfield 109, 3) := by decide +kernel
theorem dX10_takeDins_47 : decode cX10_takeDins 47 = .ok (.iconst 1, 1) := by decide +kernel
theorem dX10_takeDins_48 : decode cX10_takeDins 48 = .ok (.iadd, 1) := by decide +kernel
theorem dX10_takeDins_49 : decode cX10_takeDins 49 = .ok (.putfield 109, 3) := by decide +kernel
theorem dX10_takeDins_52 : decode cX10_takeDins 52 = .ok (.aload_n 0, 1) := by decide +kernel
theorem dX10_takeDins_53 : decode cX10_takeDins 53 = .ok (.getfield 80, 3) := by decide +kernel
theorem dX10_takeDins_56 : decode cX10_takeDins 56 = .ok (.ifCond .ne 16, 3) := by decide +kernel
theorem dX10_takeDins_59 : decode cX10_takeDins 59 = .ok (.aload_n 0, 1) := by decide +kernel
theorem dX10_takeDins_60 : decode cX10_takeDins 60 = .ok (.invokevirtual 83, 3) := by decide +kernel
theorem dX10_takeDins_63 : decode cX10_takeDins 63 = .ok (.bipush 44, 2) := by decide +kernel
theorem dX10_takeDins_65 : decode cX10_takeDins 65 = .ok (.if_icmp .ne 7, 3) := by decide +kernel
theorem dX10_takeDins_68 : decode cX10_takeDins 68 = .ok (.iconst 1, 1) := by decide +kernel
theorem dX10_takeDins_69 : decode cX10_takeDins 69 = .ok (.goto 4, 3) := by decide +kernel
theorem dX10_takeDins_72 : decode cX10_takeDins 72 = .ok (.iconst 0, 1) := by decide +kernel
theorem dX10_takeDins_73 : decode cX10_takeDins 73 = .ok (.istore_n 2, 1) := by decide +kernel
theorem dX10_takeDins_74 : decode cX10_takeDins 74 = .ok (.iload_n 2, 1) := by decide +kernel
theorem dX10_takeDins_75 : decode cX10_takeDins 75 = .ok (.ifCond .eq 39, 3) := by decide +kernel
theorem dX10_takeDins_78 : decode cX10_takeDins 78 = .ok (.aload_n 0, 1) := by decide +kernel
theorem dX10_takeDins_79 : decode cX10_takeDins 79 = .ok (.aload_n 0, 1) := by decide +kernel
theorem dX10_takeDins_80 : decode cX10_takeDins 80 = .ok (.getfield 109, 3) := by decide +kernel
theorem dX10_takeDins_83 : decode cX10_takeDins 83 = .ok (.bipush 12, 2) := by decide +kernel
theorem dX10_takeDins_85 : decode cX10_takeDins 85 = .ok (.if_icmp .ge 7, 3) := by decide +kernel
theorem dX10_takeDins_88 : decode cX10_takeDins 88 = .ok (.iconst 1, 1) := by decide +kernel
theorem dX10_takeDins_89 : decode cX10_takeDins 89 = .ok (.goto 4, 3) := by decide +kernel
theorem dX10_takeDins_92 : decode cX10_takeDins 92 = .ok (.iconst 0, 1) := by decide +kernel
theorem dX10_takeDins_93 : decode cX10_takeDins 93 = .ok (.iconst 1, 1) := by decide +kernel
theorem dX10_takeDins_94 : decode cX10_takeDins 94 = .ok (.aload_n 0, 1) := by decide +kernel
theorem dX10_takeDins_95 : decode cX10_takeDins 95 = .ok (.getfield 77, 3) := by decide +kernel
theorem dX10_takeDins_98 : decode cX10_takeDins 98 = .ok (.invokevirtual 94, 3) := by decide +kernel
theorem dX10_takeDins_101 : decode cX10_takeDins 101 = .ok (.ifCond .eq 13, 3) := by decide +kernel
theorem dX10_takeDins_104 : decode cX10_takeDins 104 = .ok (.aload_n 0, 1) := by decide +kernel
theorem dX10_takeDins_105 : decode cX10_takeDins 105 = .ok (.dup, 1) := by decide +kernel
theorem dX10_takeDins_106 : decode cX10_takeDins 106 = .ok (.getfield 77, 3) := by decide +kernel
theorem dX10_takeDins_109 : decode cX10_takeDins 109 = .ok (.iconst 1, 1) := by decide +kernel
theorem dX10_takeDins_110 : decode cX10_takeDins 110 = .ok (.iadd, 1) := by decide +kernel
theorem dX10_takeDins_111 : decode cX10_takeDins 111 = .ok (.putfield 77, 3) := by decide +kernel
theorem dX10_takeDins_114 : decode cX10_takeDins 114 = .ok (.iload_n 2, 1) := by decide +kernel
theorem dX10_takeDins_115 : decode cX10_takeDins 115 = .ok (.ifCond .eq 14, 3) := by decide +kernel
theorem dX10_takeDins_118 : decode cX10_takeDins 118 = .ok (.aload_n 0, 1) := by decide +kernel
theorem dX10_takeDins_119 : decode cX10_takeDins 119 = .ok (.getfield 80, 3) := by decide +kernel
theorem dX10_takeDins_122 : decode cX10_takeDins 122 = .ok (.ifCond .ne 7, 3) := by decide +kernel
theorem dX10_takeDins_125 : decode cX10_takeDins 125 = .ok (.iconst 1, 1) := by decide +kernel
theorem dX10_takeDins_126 : decode cX10_takeDins 126 = .ok (.goto 4, 3) := by decide +kernel
theorem dX10_takeDins_129 : decode cX10_takeDins 129 = .ok (.iconst 0, 1) := by decide +kernel
theorem dX10_takeDins_130 : decode cX10_takeDins 130 = .ok (.istore_n 2, 1) := by decide +kernel
theorem dX10_takeDins_131 : decode cX10_takeDins 131 = .ok (.goto (-112), 3) := by decide +kernel
theorem dX10_takeDins_134 : decode cX10_takeDins 134 = .ok (.return_, 1) := by decide +kernel
theorem dX10_takeNeighbour_0 : decode cX10_takeNeighbour 0 = .ok (.aload_n 0, 1) := by decide +kernel
theorem dX10_takeNeighbour_1 : decode cX10_takeNeighbour 1 = .ok (.iconst 0, 1) := by decide +kernel
theorem dX10_takeNeighbour_2 : decode cX10_takeNeighbour 2 = .ok (.aload_n 0, 1) := by decide +kernel
theorem dX10_takeNeighbour_3 : decode cX10_takeNeighbour 3 = .ok (.getfield 106, 3) := by decide +kernel
theorem dX10_takeNeighbour_6 : decode cX10_takeNeighbour 6 = .ok (.iconst 1, 1) := by decide +kernel
theorem dX10_takeNeighbour_7 : decode cX10_takeNeighbour 7 = .ok (.isub, 1) := by decide +kernel
theorem dX10_takeNeighbour_8 : decode cX10_takeNeighbour 8 = .ok (.invokevirtual 102, 3) := by decide +kernel
theorem dX10_takeNeighbour_11 : decode cX10_takeNeighbour 11 = .ok (.istore_n 1, 1) := by decide +kernel
theorem dX10_takeNeighbour_12 : decode cX10_takeNeighbour 12 = .ok (.aload_n 0, 1) := by decide +kernel
theorem dX10_takeNeighbour_13 : decode cX10_takeNeighbour 13 = .ok (.getfield 80, 3) := by decide +kernel
theorem dX10_takeNeighbour_16 : decode cX10_takeNeighbour 16 = .ok (.ifCond .gt 33, 3) := by decide +kernel
theorem dX10_takeNeighbour_19 : decode cX10_takeNeighbour 19 = .ok (.aload_n 0, 1) := by decide +kernel
theorem dX10_takeNeighbour_20 : decode cX10_takeNeighbour 20 = .ok (.aload_n 0, 1) := by decide +kernel
theorem dX10_takeNeighbour_21 : decode cX10_takeNeighbour 21 = .ok (.getfield 29, 3) := by decide +kernel
theorem dX10_takeNeighbour_24 : decode cX10_takeNeighbour 24 = .ok (.bipush 7, 2) := by decide +kernel
theorem dX10_takeNeighbour_26 : decode cX10_takeNeighbour 26 = .ok (.iload_n 1, 1) := by decide +kernel
theorem dX10_takeNeighbour_27 : decode cX10_takeNeighbour 27 = .ok (.iadd, 1) := by decide +kernel
theorem dX10_takeNeighbour_28 : decode cX10_takeNeighbour 28 = .ok (.iaload, 1) := by decide +kernel
theorem dX10_takeNeighbour_29 : decode cX10_takeNeighbour 29 = .ok (.iconst (-1), 1) := by decide +kernel
theorem dX10_takeNeighbour_30 : decode cX10_takeNeighbour 30 = .ok (.if_icmp .ne 7, 3) := by decide +kernel
theorem dX10_takeNeighbour_33 : decode cX10_takeNeighbour 33 = .ok (.iconst 1, 1) := by decide +kernel
theorem dX10_takeNeighbour_34 : decode cX10_takeNeighbour 34 = .ok (.goto 4, 3) := by decide +kernel
theorem dX10_takeNeighbour_37 : decode cX10_takeNeighbour 37 = .ok (.iconst 0, 1) := by decide +kernel
theorem dX10_takeNeighbour_38 : decode cX10_takeNeighbour 38 = .ok (.iconst 4, 1) := by decide +kernel
theorem dX10_takeNeighbour_39 : decode cX10_takeNeighbour 39 = .ok (.aload_n 0, 1) := by decide +kernel
theorem dX10_takeNeighbour_40 : decode cX10_takeNeighbour 40 = .ok (.getfield 87, 3) := by decide +kernel
theorem dX10_takeNeighbour_43 : decode cX10_takeNeighbour 43 = .ok (.invokevirtual 94, 3) := by decide +kernel
theorem dX10_takeNeighbour_46 : decode cX10_takeNeighbour 46 = .ok (.ifCond .ne 4, 3) := by decide +kernel
theorem dX10_takeNeighbour_49 : decode cX10_takeNeighbour 49 = .ok (.return_, 1) := by decide +kernel
theorem dX10_takeNeighbour_50 : decode cX10_takeNeighbour 50 = .ok (.aload_n 0, 1) := by decide +kernel
theorem dX10_takeNeighbour_51 : decode cX10_takeNeighbour 51 = .ok (.iconst 0, 1) := by decide +kernel
theorem dX10_takeNeighbour_52 : decode cX10_takeNeighbour 52 = .ok (.aload_n 0, 1) := by decide +kernel
theorem dX10_takeNeighbour_53 : decode cX10_takeNeighbour 53 = .ok (.getfield 106, 3) := by decide +kernel
theorem dX10_takeNeighbour_56 : decode cX10_takeNeighbour 56 = .ok (.iconst 1, 1) := by decide +kernel
theorem dX10_takeNeighbour_57 : decode cX10_takeNeighbour 57 = .ok (.isub, 1) := by decide +kernel
theorem dX10_takeNeighbour_58 : decode cX10_takeNeighbour 58 = .ok (.invokevirtual 102, 3) := by decide +kernel
theorem dX10_takeNeighbour_61 : decode cX10_takeNeighbour 61 = .ok (.istore_n 2, 1) := by decide +kernel
theorem dX10_takeNeighbour_62 : decode cX10_takeNeighbour 62 = .ok (.aload_n 0, 1) := by decide +kernel
theorem dX10_takeNeighbour_63 : decode cX10_takeNeighbour 63 = .ok (.getfield 80, 3) := by decide +kernel
theorem dX10_takeNeighbour_66 : decode cX10_takeNeighbour 66 = .ok (.ifCond .gt 25, 3) := by decide +kernel
theorem dX10_takeNeighbour_69 : decode cX10_takeNeighbour 69 = .ok (.aload_n 0, 1) := by decide +kernel
theorem dX10_takeNeighbour_70 : decode cX10_takeNeighbour 70 = .ok (.iload_n 2, 1) := by decide +kernel
theorem dX10_takeNeighbour_71 : decode cX10_takeNeighbour 71 = .ok (.iload_n 1, 1) := by decide +kernel
theorem dX10_takeNeighbour_72 : decode cX10_takeNeighbour 72 = .ok (.if_icmp .eq 7, 3) := by decide +kernel
theorem dX10_takeNeighbour_75 : decode cX10_takeNeighbour 75 = .ok (.iconst 1, 1) := by decide +kernel
theorem dX10_takeNeighbour_76 : decode cX10_takeNeighbour 76 = .ok (.goto 4, 3) := by decide +kernel
theorem dX10_takeNeighbour_79 : decode cX10_takeNeighbour 79 = .ok (.iconst 0, 1) := by decide +kernel
theorem dX10_takeNeighbour_80 : decode cX10_takeNeighbour 80 = .ok (.iconst 4, 1) := by decide +kernel
theorem dX10_takeNeighbour_81 : decode cX10_takeNeighbour 81 = .ok (.aload_n 0, 1) := by decide +kernel
theorem dX10_takeNeighbour_82 : decode cX10_takeNeighbour 82 = .ok (.getfield 87, 3) := by decide +kernel
theorem dX10_takeNeighbour_85 : decode cX10_takeNeighbour 85 = .ok (.invokevirtual 94, 3) := by decide +kernel
theorem dX10_takeNeighbour_88 : decode cX10_takeNeighbour 88 = .ok (.ifCond .ne 4, 3) := by decide +kernel
theorem dX10_takeNeighbour_91 : decode cX10_takeNeighbour 91 = .ok (.return_, 1) := by decide +kernel
theorem dX10_takeNeighbour_92 : decode cX10_takeNeighbour 92 = .ok (.aload_n 0, 1) := by decide +kernel
theorem dX10_takeNeighbour_93 : decode cX10_takeNeighbour 93 = .ok (.getfield 32, 3) := by decide +kernel
theorem dX10_takeNeighbour_96 : decode cX10_takeNeighbour 96 = .ok (.bipush 7, 2) := by decide +kernel
theorem dX10_takeNeighbour_98 : decode cX10_takeNeighbour 98 = .ok (.iload_n 1, 1) := by decide +kernel
theorem dX10_takeNeighbour_99 : decode cX10_takeNeighbour 99 = .ok (.iadd, 1) := by decide +kernel
theorem dX10_takeNeighbour_100 : decode cX10_takeNeighbour 100 = .ok (.aload_n 0, 1) := by decide +kernel
theorem dX10_takeNeighbour_101 : decode cX10_takeNeighbour 101 = .ok (.iconst 1, 1) := by decide +kernel
theorem dX10_takeNeighbour_102 : decode cX10_takeNeighbour 102 = .ok (.bipush 9, 2) := by decide +kernel
theorem dX10_takeNeighbour_104 : decode cX10_takeNeighbour 104 = .ok (.invokevirtual 102, 3) := by decide +kernel
theorem dX10_takeNeighbour_107 : decode cX10_takeNeighbour 107 = .ok (.iastore, 1) := by decide +kernel
theorem dX10_takeNeighbour_108 : decode cX10_takeNeighbour 108 = .ok (.aload_n 0, 1) := by decide +kernel
theorem dX10_takeNeighbour_109 : decode cX10_takeNeighbour 109 = .ok (.getfield 29, 3) := by decide +kernel
theorem dX10_takeNeighbour_112 : decode cX10_takeNeighbour 112 = .ok (.bipush 7, 2) := by decide +kernel
theorem dX10_takeNeighbour_114 : decode cX10_takeNeighbour 114 = .ok (.iload_n 1, 1) := by decide +kernel
theorem dX10_takeNeighbour_115 : decode cX10_takeNeighbour 115 = .ok (.iadd, 1) := by decide +kernel
theorem dX10_takeNeighbour_116 : decode cX10_takeNeighbour 116 = .ok (.iload_n 2, 1) := by decide +kernel
theorem dX10_takeNeighbour_117 : decode cX10_takeNeighbour 117 = .ok (.iastore, 1) := by decide +kernel
theorem dX10_takeNeighbour_118 : decode cX10_takeNeighbour 118 = .ok (.return_, 1) := by decide +kernel
theorem dX10_takeClause_0 : decode cX10_takeClause 0 = .ok (.aload_n 0, 1) := by decide +kernel
theorem dX10_takeClause_1 : decode cX10_takeClause 1 = .ok (.invokevirtual 83, 3) := by decide +kernel
theorem dX10_takeClause_4 : decode cX10_takeClause 4 = .ok (.istore_n 1, 1) := by decide +kernel
theorem dX10_takeClause_5 : decode cX10_takeClause 5 = .ok (.aload_n 0, 1) := by decide +kernel
theorem dX10_takeClause_6 : decode cX10_takeClause 6 = .ok (.getfield 77, 3) := by decide +kernel
theorem dX10_takeClause_9 : decode cX10_takeClause 9 = .ok (.istore_n 2, 1) := by decide +kernel
theorem dX10_takeClause_10 : decode cX10_takeClause 10 = .ok (.aload_n 0, 1) := by decide +kernel
theorem dX10_takeClause_11 : decode cX10_takeClause 11 = .ok (.dup, 1) := by decide +kernel
theorem dX10_takeClause_12 : decode cX10_takeClause 12 = .ok (.getfield 77, 3) := by decide +kernel
theorem dX10_takeClause_15 : decode cX10_takeClause 15 = .ok (.iconst 1, 1) := by decide +kernel
theorem dX10_takeClause_16 : decode cX10_takeClause 16 = .ok (.iadd, 1) := by decide +kernel
theorem dX10_takeClause_17 : decode cX10_takeClause 17 = .ok (.putfield 77, 3) := by decide +kernel
theorem dX10_takeClause_20 : decode cX10_takeClause 20 = .ok (.aload_n 0, 1) := by decide +kernel
theorem dX10_takeClause_21 : decode cX10_takeClause 21 = .ok (.iload_n 1, 1) := by decide +kernel
theorem dX10_takeClause_22 : decode cX10_takeClause 22 = .ok (.bipush 118, 2) := by decide +kernel
theorem dX10_takeClause_24 : decode cX10_takeClause 24 = .ok (.if_icmp .eq 12, 3) := by decide +kernel
theorem dX10_takeClause_27 : decode cX10_takeClause 27 = .ok (.aload_n 0, 1) := by decide +kernel
theorem dX10_takeClause_28 : decode cX10_takeClause 28 = .ok (.getfield 17, 3) := by decide +kernel
theorem dX10_takeClause_31 : decode cX10_takeClause 31 = .ok (.iconst 3, 1) := by decide +kernel
theorem dX10_takeClause_32 : decode cX10_takeClause 32 = .ok (.iaload, 1) := by decide +kernel
theorem dX10_takeClause_33 : decode cX10_takeClause 33 = .ok (.ifCond .le 7, 3) := by decide +kernel
theorem dX10_takeClause_36 : decode cX10_takeClause 36 = .ok (.iconst 1, 1) := by decide +kernel
theorem dX10_takeClause_37 : decode cX10_takeClause 37 = .ok (.goto 4, 3) := by decide +kernel
theorem dX10_takeClause_40 : decode cX10_takeClause 40 = .ok (.iconst 0, 1) := by decide +kernel
theorem dX10_takeClause_41 : decode cX10_takeClause 41 = .ok (.iconst 1, 1) := by decide +kernel
theorem dX10_takeClause_42 : decode cX10_takeClause 42 = .ok (.iload_n 2, 1) := by decide +kernel
theorem dX10_takeClause_43 : decode cX10_takeClause 43 = .ok (.invokevirtual 94, 3) := by decide +kernel
theorem dX10_takeClause_46 : decode cX10_takeClause 46 = .ok (.ifCond .ne 4, 3) := by decide +kernel
theorem dX10_takeClause_49 : decode cX10_takeClause 49 = .ok (.return_, 1) := by decide +kernel
theorem dX10_takeClause_50 : decode cX10_takeClause 50 = .ok (.iload_n 1, 1) := by decide +kernel
theorem dX10_takeClause_51 : decode cX10_takeClause 51 = .ok (.bipush 118, 2) := by decide +kernel
theorem dX10_takeClause_53 : decode cX10_takeClause 53 = .ok (.if_icmp .ne 11, 3) := by decide +kernel
theorem dX10_takeClause_56 : decode cX10_takeClause 56 = .ok (.aload_n 0, 1) := by decide +kernel
theorem dX10_takeClause_57 : decode cX10_takeClause 57 = .ok (.iload_n 2, 1) := by decide +kernel
theorem dX10_takeClause_58 : decode cX10_takeClause 58 = .ok (.invokevirtual 112, 3) := by decide +kernel
theorem dX10_takeClause_61 : decode cX10_takeClause 61 = .ok (.goto 55, 3) := by decide +kernel
theorem dX10_takeClause_64 : decode cX10_takeClause 64 = .ok (.iload_n 1, 1) := by decide +kernel
theorem dX10_takeClause_65 : decode cX10_takeClause 65 = .ok (.bipush 115, 2) := by decide +kernel
theorem dX10_takeClause_67 : decode cX10_takeClause 67 = .ok (.if_icmp .ne 11, 3) := by decide +kernel
theorem dX10_takeClause_70 : decode cX10_takeClause 70 = .ok (.aload_n 0, 1) := by decide +kernel
theorem dX10_takeClause_71 : decode cX10_takeClause 71 = .ok (.iload_n 2, 1) := by decide +kernel
theorem dX10_takeClause_72 : decode cX10_takeClause 72 = .ok (.invokevirtual 116, 3) := by decide +kernel
theorem dX10_takeClause_75 : decode cX10_takeClause 75 = .ok (.goto 41, 3) := by decide +kernel
theorem dX10_takeClause_78 : decode cX10_takeClause 78 = .ok (.iload_n 1, 1) := by decide +kernel
theorem dX10_takeClause_79 : decode cX10_takeClause 79 = .ok (.bipush 100, 2) := by decide +kernel
theorem dX10_takeClause_81 : decode cX10_takeClause 81 = .ok (.if_icmp .ne 11, 3) := by decide +kernel
theorem dX10_takeClause_84 : decode cX10_takeClause 84 = .ok (.aload_n 0, 1) := by decide +kernel
theorem dX10_takeClause_85 : decode cX10_takeClause 85 = .ok (.iload_n 2, 1) := by decide +kernel
theorem dX10_takeClause_86 : decode cX10_takeClause 86 = .ok (.invokevirtual 119, 3) := by decide +kernel
theorem dX10_takeClause_89 : decode cX10_takeClause 89 = .ok (.goto 27, 3) := by decide +kernel
theorem dX10_takeClause_92 : decode cX10_takeClause 92 = .ok (.aload_n 0, 1) := by decide +kernel
theorem dX10_takeClause_93 : decode cX10_takeClause 93 = .ok (.iload_n 1, 1) := by decide +kernel
theorem dX10_takeClause_94 : decode cX10_takeClause 94 = .ok (.bipush 110, 2) := by decide +kernel
theorem dX10_takeClause_96 : decode cX10_takeClause 96 = .ok (.if_icmp .ne 7, 3) := by decide +kernel
theorem dX10_takeClause_99 : decode cX10_takeClause 99 = .ok (.iconst 1, 1) := by decide +kernel
theorem dX10_takeClause_100 : decode cX10_takeClause 100 = .ok (.goto 4, 3) := by decide +kernel
theorem dX10_takeClause_103 : decode cX10_takeClause 103 = .ok (.iconst 0, 1) := by decide +kernel
theorem dX10_takeClause_104 : decode cX10_takeClause 104 = .ok (.iconst 1, 1) := by decide +kernel
theorem dX10_takeClause_105 : decode cX10_takeClause 105 = .ok (.iload_n 2, 1) := by decide +kernel
theorem dX10_takeClause_106 : decode cX10_takeClause 106 = .ok (.invokevirtual 94, 3) := by decide +kernel
theorem dX10_takeClause_109 : decode cX10_takeClause 109 = .ok (.ifCond .eq 7, 3) := by decide +kernel
theorem dX10_takeClause_112 : decode cX10_takeClause 112 = .ok (.aload_n 0, 1) := by decide +kernel
theorem dX10_takeClause_113 : decode cX10_takeClause 113 = .ok (.invokevirtual 122, 3) := by decide +kernel
theorem dX10_takeClause_116 : decode cX10_takeClause 116 = .ok (.return_, 1) := by decide +kernel
theorem dX10_street_0 : decode cX10_street 0 = .ok (.aload_n 0, 1) := by decide +kernel
theorem dX10_street_1 : decode cX10_street 1 = .ok (.iconst 0, 1) := by decide +kernel
theorem dX10_street_2 : decode cX10_street 2 = .ok (.putfield 77, 3) := by decide +kernel
theorem dX10_street_5 : decode cX10_street 5 = .ok (.aload_n 0, 1) := by decide +kernel
theorem dX10_street_6 : decode cX10_street 6 = .ok (.iconst 0, 1) := by decide +kernel
theorem dX10_street_7 : decode cX10_street 7 = .ok (.putfield 80, 3) := by decide +kernel
theorem dX10_street_10 : decode cX10_street 10 = .ok (.aload_n 0, 1) := by decide +kernel
theorem dX10_street_11 : decode cX10_street 11 = .ok (.iconst (-1), 1) := by decide +kernel
theorem dX10_street_12 : decode cX10_street 12 = .ok (.putfield 41, 3) := by decide +kernel
theorem dX10_street_15 : decode cX10_street 15 = .ok (.aload_n 0, 1) := by decide +kernel
theorem dX10_street_16 : decode cX10_street 16 = .ok (.iconst 0, 1) := by decide +kernel
theorem dX10_street_17 : decode cX10_street 17 = .ok (.putfield 106, 3) := by decide +kernel
theorem dX10_street_20 : decode cX10_street 20 = .ok (.aload_n 0, 1) := by decide +kernel
theorem dX10_street_21 : decode cX10_street 21 = .ok (.iconst 0, 1) := by decide +kernel
theorem dX10_street_22 : decode cX10_street 22 = .ok (.putfield 109, 3) := by decide +kernel
theorem dX10_street_25 : decode cX10_street 25 = .ok (.iconst 3, 1) := by decide +kernel
theorem dX10_street_26 : decode cX10_street 26 = .ok (.istore_n 1, 1) := by decide +kernel
theorem dX10_street_27 : decode cX10_street 27 = .ok (.iload_n 1, 1) := by decide +kernel
theorem dX10_street_28 : decode cX10_street 28 = .ok (.bipush 6, 2) := by decide +kernel
theorem dX10_street_30 : decode cX10_street 30 = .ok (.if_icmp .ge 16, 3) := by decide +kernel
theorem dX10_street_33 : decode cX10_street 33 = .ok (.aload_n 0, 1) := by decide +kernel
theorem dX10_street_34 : decode cX10_street 34 = .ok (.getfield 17, 3) := by decide +kernel
theorem dX10_street_37 : decode cX10_street 37 = .ok (.iload_n 1, 1) := by decide +kernel
theorem dX10_street_38 : decode cX10_street 38 = .ok (.iconst 0, 1) := by decide +kernel
theorem dX10_street_39 : decode cX10_street 39 = .ok (.iastore, 1) := by decide +kernel
theorem dX10_street_40 : decode cX10_street 40 = .ok (.iinc 1 1, 3) := by decide +kernel
theorem dX10_street_43 : decode cX10_street 43 = .ok (.goto (-16), 3) := by decide +kernel
theorem dX10_street_46 : decode cX10_street 46 = .ok (.aload_n 0, 1) := by decide +kernel
theorem dX10_street_47 : decode cX10_street 47 = .ok (.getfield 80, 3) := by decide +kernel
theorem dX10_street_50 : decode cX10_street 50 = .ok (.ifCond .ne 60, 3) := by decide +kernel
theorem dX10_street_53 : decode cX10_street 53 = .ok (.aload_n 0, 1) := by decide +kernel
theorem dX10_street_54 : decode cX10_street 54 = .ok (.invokevirtual 83, 3) := by decide +kernel
theorem dX10_street_57 : decode cX10_street 57 = .ok (.ifCond .lt 53, 3) := by decide +kernel
theorem dX10_street_60 : decode cX10_street 60 = .ok (.aload_n 0, 1) := by decide +kernel
theorem dX10_street_61 : decode cX10_street 61 = .ok (.invokevirtual 125, 3) := by decide +kernel
theorem dX10_street_64 : decode cX10_street 64 = .ok (.aload_n 0, 1) := by decide +kernel
theorem dX10_street_65 : decode cX10_street 65 = .ok (.getfield 80, 3) := by decide +kernel
theorem dX10_street_68 : decode cX10_street 68 = .ok (.ifCond .ne (-22), 3) := by decide +kernel
theorem dX10_street_71 : decode cX10_street 71 = .ok (.aload_n 0, 1) := by decide +kernel
theorem dX10_street_72 : decode cX10_street 72 = .ok (.aload_n 0, 1) := by decide +kernel
theorem dX10_street_73 : decode cX10_street 73 = .ok (.invokevirtual 83, 3) := by decide +kernel
theorem dX10_street_76 : decode cX10_street 76 = .ok (.bipush 59, 2) := by decide +kernel
theorem dX10_street_78 : decode cX10_street 78 = .ok (.if_icmp .ne 7, 3) := by decide +kernel
theorem dX10_street_81 : decode cX10_street 81 = .ok (.iconst 1, 1) := by decide +kernel
theorem dX10_street_82 : decode cX10_street 82 = .ok (.goto 4, 3) := by decide +kernel
theorem dX10_street_85 : decode cX10_street 85 = .ok (.iconst 0, 1) := by decide +kernel
theorem dX10_street_86 : decode cX10_street 86 = .ok (.iconst 1, 1) := by decide +kernel
theorem dX10_street_87 : decode cX10_street 87 = .ok (.aload_n 0, 1) := by decide +kernel
theorem dX10_street_88 : decode cX10_street 88 = .ok (.getfield 77, 3) := by decide +kernel
theorem dX10_street_91 : decode cX10_street 91 = .ok (.invokevirtual 94, 3) := by decide +kernel
theorem dX10_street_94 : decode cX10_street 94 = .ok (.ifCond .eq (-48), 3) := by decide +kernel
theorem dX10_street_97 : decode cX10_street 97 = .ok (.aload_n 0, 1) := by decide +kernel
theorem dX10_street_98 : decode cX10_street 98 = .ok (.dup, 1) := by decide +kernel
theorem dX10_street_99 : decode cX10_street 99 = .ok (.getfield 77, 3) := by decide +kernel
theorem dX10_street_102 : decode cX10_street 102 = .ok (.iconst 1, 1) := by decide +kernel
theorem dX10_street_103 : decode cX10_street 103 = .ok (.iadd, 1) := by decide +kernel
theorem dX10_street_104 : decode cX10_street 104 = .ok (.putfield 77, 3) := by decide +kernel
theorem dX10_street_107 : decode cX10_street 107 = .ok (.goto (-61), 3) := by decide +kernel
theorem dX10_street_110 : decode cX10_street 110 = .ok (.aload_n 0, 1) := by decide +kernel
theorem dX10_street_111 : decode cX10_street 111 = .ok (.iconst 0, 1) := by decide +kernel
theorem dX10_street_112 : decode cX10_street 112 = .ok (.putfield 73, 3) := by decide +kernel
theorem dX10_street_115 : decode cX10_street 115 = .ok (.aload_n 0, 1) := by decide +kernel
theorem dX10_street_116 : decode cX10_street 116 = .ok (.getfield 80, 3) := by decide +kernel
theorem dX10_street_119 : decode cX10_street 119 = .ok (.ifCond .le 11, 3) := by decide +kernel
theorem dX10_street_122 : decode cX10_street 122 = .ok (.bipush (-10), 2) := by decide +kernel
theorem dX10_street_124 : decode cX10_street 124 = .ok (.aload_n 0, 1) := by decide +kernel
theorem dX10_street_125 : decode cX10_street 125 = .ok (.getfield 80, 3) := by decide +kernel
theorem dX10_street_128 : decode cX10_street 128 = .ok (.isub, 1) := by decide +kernel
theorem dX10_street_129 : decode cX10_street 129 = .ok (.ireturn, 1) := by decide +kernel
theorem dX10_street_130 : decode cX10_street 130 = .ok (.aload_n 0, 1) := by decide +kernel
theorem dX10_street_131 : decode cX10_street 131 = .ok (.invokevirtual 128, 3) := by decide +kernel
theorem dX10_street_134 : decode cX10_street 134 = .ok (.aload_n 0, 1) := by decide +kernel
theorem dX10_street_135 : decode cX10_street 135 = .ok (.getfield 131, 3) := by decide +kernel
theorem dX10_street_138 : decode cX10_street 138 = .ok (.ireturn, 1) := by decide +kernel
theorem dX10_take_0 : decode cX10_take 0 = .ok (.iconst 0, 1) := by decide +kernel
theorem dX10_take_1 : decode cX10_take 1 = .ok (.istore_n 1, 1) := by decide +kernel
theorem dX10_take_2 : decode cX10_take 2 = .ok (.iload_n 1, 1) := by decide +kernel
theorem dX10_take_3 : decode cX10_take 3 = .ok (.iconst 3, 1) := by decide +kernel
theorem dX10_take_4 : decode cX10_take 4 = .ok (.if_icmp .ge 23, 3) := by decide +kernel
theorem dX10_take_7 : decode cX10_take 7 = .ok (.aload_n 0, 1) := by decide +kernel
theorem dX10_take_8 : decode cX10_take 8 = .ok (.getfield 17, 3) := by decide +kernel
theorem dX10_take_11 : decode cX10_take 11 = .ok (.iload_n 1, 1) := by decide +kernel
theorem dX10_take_12 : decode cX10_take 12 = .ok (.aload_n 0, 1) := by decide +kernel
theorem dX10_take_13 : decode cX10_take 13 = .ok (.getfield 17, 3) := by decide +kernel
theorem dX10_take_16 : decode cX10_take 16 = .ok (.iconst 3, 1) := by decide +kernel
theorem dX10_take_17 : decode cX10_take 17 = .ok (.iload_n 1, 1) := by decide +kernel
theorem dX10_take_18 : decode cX10_take 18 = .ok (.iadd, 1) := by decide +kernel
theorem dX10_take_19 : decode cX10_take 19 = .ok (.iaload, 1) := by decide +kernel
theorem dX10_take_20 : decode cX10_take 20 = .ok (.iastore, 1) := by decide +kernel
theorem dX10_take_21 : decode cX10_take 21 = .ok (.iinc 1 1, 3) := by decide +kernel
theorem dX10_take_24 : decode cX10_take 24 = .ok (.goto (-22), 3) := by decide +kernel
theorem dX10_take_27 : decode cX10_take 27 = .ok (.aload_n 0, 1) := by decide +kernel
theorem dX10_take_28 : decode cX10_take 28 = .ok (.aload_n 0, 1) := by decide +kernel
theorem dX10_take_29 : decode cX10_take 29 = .ok (.getfield 106, 3) := by decide +kernel
theorem dX10_take_32 : decode cX10_take 32 = .ok (.putfield 131, 3) := by decide +kernel
theorem dX10_take_35 : decode cX10_take 35 = .ok (.aload_n 0, 1) := by decide +kernel
theorem dX10_take_36 : decode cX10_take 36 = .ok (.aload_n 0, 1) := by decide +kernel
theorem dX10_take_37 : decode cX10_take 37 = .ok (.getfield 109, 3) := by decide +kernel
theorem dX10_take_40 : decode cX10_take 40 = .ok (.putfield 134, 3) := by decide +kernel
theorem dX10_take_43 : decode cX10_take 43 = .ok (.iconst 0, 1) := by decide +kernel
theorem dX10_take_44 : decode cX10_take 44 = .ok (.istore_n 1, 1) := by decide +kernel
theorem dX10_take_45 : decode cX10_take 45 = .ok (.iload_n 1, 1) := by decide +kernel
theorem dX10_take_46 : decode cX10_take 46 = .ok (.bipush 12, 2) := by decide +kernel
theorem dX10_take_48 : decode cX10_take 48 = .ok (.if_icmp .ge 24, 3) := by decide +kernel
theorem dX10_take_51 : decode cX10_take 51 = .ok (.aload_n 0, 1) := by decide +kernel
theorem dX10_take_52 : decode cX10_take 52 = .ok (.getfield 35, 3) := by decide +kernel
theorem dX10_take_55 : decode cX10_take 55 = .ok (.iload_n 1, 1) := by decide +kernel
theorem dX10_take_56 : decode cX10_take 56 = .ok (.aload_n 0, 1) := by decide +kernel
theorem dX10_take_57 : decode cX10_take 57 = .ok (.getfield 35, 3) := by decide +kernel
theorem dX10_take_60 : decode cX10_take 60 = .ok (.bipush 12, 2) := by decide +kernel
theorem dX10_take_62 : decode cX10_take 62 = .ok (.iload_n 1, 1) := by decide +kernel
theorem dX10_take_63 : decode cX10_take 63 = .ok (.iadd, 1) := by decide +kernel
theorem dX10_take_64 : decode cX10_take 64 = .ok (.iaload, 1) := by decide +kernel
theorem dX10_take_65 : decode cX10_take 65 = .ok (.iastore, 1) := by decide +kernel
theorem dX10_take_66 : decode cX10_take 66 = .ok (.iinc 1 1, 3) := by decide +kernel
theorem dX10_take_69 : decode cX10_take 69 = .ok (.goto (-24), 3) := by decide +kernel
theorem dX10_take_72 : decode cX10_take 72 = .ok (.iconst 0, 1) := by decide +kernel
theorem dX10_take_73 : decode cX10_take 73 = .ok (.istore_n 1, 1) := by decide +kernel
theorem dX10_take_74 : decode cX10_take 74 = .ok (.iload_n 1, 1) := by decide +kernel
theorem dX10_take_75 : decode cX10_take 75 = .ok (.bipush 7, 2) := by decide +kernel
theorem dX10_take_77 : decode cX10_take 77 = .ok (.if_icmp .ge 101, 3) := by decide +kernel
theorem dX10_take_80 : decode cX10_take 80 = .ok (.aload_n 0, 1) := by decide +kernel
theorem dX10_take_81 : decode cX10_take 81 = .ok (.getfield 20, 3) := by decide +kernel
theorem dX10_take_84 : decode cX10_take 84 = .ok (.iload_n 1, 1) := by decide +kernel
theorem dX10_take_85 : decode cX10_take 85 = .ok (.aload_n 0, 1) := by decide +kernel
theorem dX10_take_86 : decode cX10_take 86 = .ok (.getfield 20, 3) := by decide +kernel
theorem dX10_take_89 : decode cX10_take 89 = .ok (.bipush 7, 2) := by decide +kernel
theorem dX10_take_91 : decode cX10_take 91 = .ok (.iload_n 1, 1) := by decide +kernel
theorem dX10_take_92 : decode cX10_take 92 = .ok (.iadd, 1) := by decide +kernel
theorem dX10_take_93 : decode cX10_take 93 = .ok (.iaload, 1) := by decide +kernel
theorem dX10_take_94 : decode cX10_take 94 = .ok (.iastore, 1) := by decide +kernel
theorem dX10_take_95 : decode cX10_take 95 = .ok (.aload_n 0, 1) := by decide +kernel
theorem dX10_take_96 : decode cX10_take 96 = .ok (.getfield 23, 3) := by decide +kernel
theorem dX10_take_99 : decode cX10_take 99 = .ok (.iload_n 1, 1) := by decide +kernel
theorem dX10_take_100 : decode cX10_take 100 = .ok (.aload_n 0, 1) := by decide +kernel
theorem dX10_take_101 : decode cX10_take 101 = .ok (.getfield 23, 3) := by decide +kernel
theorem dX10_take_104 : decode cX10_take 104 = .ok (.bipush 7, 2) := by decide +kernel
theorem dX10_take_106 : decode cX10_take 106 = .ok (.iload_n 1, 1) := by decide +kernel
theorem dX10_take_107 : decode cX10_take 107 = .ok (.iadd, 1) := by decide +kernel
theorem dX10_take_108 : decode cX10_take 108 = .ok (.iaload, 1) := by decide +kernel
theorem dX10_take_109 : decode cX10_take 109 = .ok (.iastore, 1) := by decide +kernel
theorem dX10_take_110 : decode cX10_take 110 = .ok (.aload_n 0, 1) := by decide +kernel
theorem dX10_take_111 : decode cX10_take 111 = .ok (.getfield 26, 3) := by decide +kernel
theorem dX10_take_114 : decode cX10_take 114 = .ok (.iload_n 1, 1) := by decide +kernel
theorem dX10_take_115 : decode cX10_take 115 = .ok (.aload_n 0, 1) := by decide +kernel
theorem dX10_take_116 : decode cX10_take 116 = .ok (.getfield 26, 3) := by decide +kernel
theorem dX10_take_119 : decode cX10_take 119 = .ok (.bipush 7, 2) := by decide +kernel
theorem dX10_take_121 : decode cX10_take 121 = .ok (.iload_n 1, 1) := by decide +kernel
theorem dX10_take_122 : decode cX10_take 122 = .ok (.iadd, 1) := by decide +kernel
theorem dX10_take_123 : decode cX10_take 123 = .ok (.iaload, 1) := by decide +kernel
theorem dX10_take_124 : decode cX10_take 124 = .ok (.iastore, 1) := by decide +kernel
theorem dX10_take_125 : decode cX10_take 125 = .ok (.aload_n 0, 1) := by decide +kernel
theorem dX10_take_126 : decode cX10_take 126 = .ok (.getfield 29, 3) := by decide +kernel
theorem dX10_take_129 : decode cX10_take 129 = .ok (.iload_n 1, 1) := by decide +kernel
theorem dX10_take_130 : decode cX10_take 130 = .ok (.aload_n 0, 1) := by decide +kernel
theorem dX10_take_131 : decode cX10_take 131 = .ok (.getfield 29, 3) := by decide +kernel
theorem dX10_take_134 : decode cX10_take 134 = .ok (.bipush 7, 2) := by decide +kernel
theorem dX10_take_136 : decode cX10_take 136 = .ok (.iload_n 1, 1) := by decide +kernel
theorem dX10_take_137 : decode cX10_take 137 = .ok (.iadd, 1) := by decide +kernel
theorem dX10_take_138 : decode cX10_take 138 = .ok (.iaload, 1) := by decide +kernel
theorem dX10_take_139 : decode cX10_take 139 = .ok (.iastore, 1) := by decide +kernel
theorem dX10_take_140 : decode cX10_take 140 = .ok (.aload_n 0, 1) := by decide +kernel
theorem dX10_take_141 : decode cX10_take 141 = .ok (.getfield 32, 3) := by decide +kernel
theorem dX10_take_144 : decode cX10_take 144 = .ok (.iload_n 1, 1) := by decide +kernel
theorem dX10_take_145 : decode cX10_take 145 = .ok (.aload_n 0, 1) := by decide +kernel
theorem dX10_take_146 : decode cX10_take 146 = .ok (.getfield 32, 3) := by decide +kernel
theorem dX10_take_149 : decode cX10_take 149 = .ok (.bipush 7, 2) := by decide +kernel
theorem dX10_take_151 : decode cX10_take 151 = .ok (.iload_n 1, 1) := by decide +kernel
theorem dX10_take_152 : decode cX10_take 152 = .ok (.iadd, 1) := by decide +kernel
theorem dX10_take_153 : decode cX10_take 153 = .ok (.iaload, 1) := by decide +kernel
theorem dX10_take_154 : decode cX10_take 154 = .ok (.iastore, 1) := by decide +kernel
theorem dX10_take_155 : decode cX10_take 155 = .ok (.aload_n 0, 1) := by decide +kernel
theorem dX10_take_156 : decode cX10_take 156 = .ok (.getfield 7, 3) := by decide +kernel
theorem dX10_take_159 : decode cX10_take 159 = .ok (.iload_n 1, 1) := by decide +kernel
theorem dX10_take_160 : decode cX10_take 160 = .ok (.iconst 1, 1) := by decide +kernel
theorem dX10_take_161 : decode cX10_take 161 = .ok (.iastore, 1) := by decide +kernel
theorem dX10_take_162 : decode cX10_take 162 = .ok (.aload_n 0, 1) := by decide +kernel
theorem dX10_take_163 : decode cX10_take 163 = .ok (.getfield 7, 3) := by decide +kernel
theorem dX10_take_166 : decode cX10_take 166 = .ok (.bipush 7, 2) := by decide +kernel
theorem dX10_take_168 : decode cX10_take 168 = .ok (.iload_n 1, 1) := by decide +kernel
theorem dX10_take_169 : decode cX10_take 169 = .ok (.iadd, 1) := by decide +kernel
theorem dX10_take_170 : decode cX10_take 170 = .ok (.iconst 0, 1) := by decide +kernel
theorem dX10_take_171 : decode cX10_take 171 = .ok (.iastore, 1) := by decide +kernel
theorem dX10_take_172 : decode cX10_take 172 = .ok (.iinc 1 1, 3) := by decide +kernel
theorem dX10_take_175 : decode cX10_take 175 = .ok (.goto (-101), 3) := by decide +kernel
theorem dX10_take_178 : decode cX10_take 178 = .ok (.aload_n 0, 1) := by decide +kernel
theorem dX10_take_179 : decode cX10_take 179 = .ok (.getfield 7, 3) := by decide +kernel
theorem dX10_take_182 : decode cX10_take 182 = .ok (.bipush 14, 2) := by decide +kernel
theorem dX10_take_184 : decode cX10_take 184 = .ok (.iconst 0, 1) := by decide +kernel
theorem dX10_take_185 : decode cX10_take 185 = .ok (.iastore, 1) := by decide +kernel
theorem dX10_take_186 : decode cX10_take 186 = .ok (.aload_n 0, 1) := by decide +kernel
theorem dX10_take_187 : decode cX10_take 187 = .ok (.getfield 7, 3) := by decide +kernel
theorem dX10_take_190 : decode cX10_take 190 = .ok (.bipush 15, 2) := by decide +kernel
theorem dX10_take_192 : decode cX10_take 192 = .ok (.iconst 0, 1) := by decide +kernel
theorem dX10_take_193 : decode cX10_take 193 = .ok (.iastore, 1) := by decide +kernel
theorem dX10_take_194 : decode cX10_take 194 = .ok (.aload_n 0, 1) := by decide +kernel
theorem dX10_take_195 : decode cX10_take 195 = .ok (.getfield 7, 3) := by decide +kernel
theorem dX10_take_198 : decode cX10_take 198 = .ok (.bipush 16, 2) := by decide +kernel
theorem dX10_take_200 : decode cX10_take 200 = .ok (.iconst 0, 1) := by decide +kernel
theorem dX10_take_201 : decode cX10_take 201 = .ok (.iastore, 1) := by decide +kernel
theorem dX10_take_202 : decode cX10_take 202 = .ok (.aload_n 0, 1) := by decide +kernel
theorem dX10_take_203 : decode cX10_take 203 = .ok (.iconst 0, 1) := by decide +kernel
theorem dX10_take_204 : decode cX10_take 204 = .ok (.putfield 137, 3) := by decide +kernel
theorem dX10_take_207 : decode cX10_take 207 = .ok (.aload_n 0, 1) := by decide +kernel
theorem dX10_take_208 : decode cX10_take 208 = .ok (.iconst 0, 1) := by decide +kernel
theorem dX10_take_209 : decode cX10_take 209 = .ok (.putfield 140, 3) := by decide +kernel
theorem dX10_take_212 : decode cX10_take 212 = .ok (.aload_n 0, 1) := by decide +kernel
theorem dX10_take_213 : decode cX10_take 213 = .ok (.iconst 0, 1) := by decide +kernel
theorem dX10_take_214 : decode cX10_take 214 = .ok (.putfield 143, 3) := by decide +kernel
theorem dX10_take_217 : decode cX10_take 217 = .ok (.aload_n 0, 1) := by decide +kernel
theorem dX10_take_218 : decode cX10_take 218 = .ok (.getfield 13, 3) := by decide +kernel
theorem dX10_take_221 : decode cX10_take 221 = .ok (.iconst 0, 1) := by decide +kernel
theorem dX10_take_222 : decode cX10_take 222 = .ok (.iconst 0, 1) := by decide +kernel
theorem dX10_take_223 : decode cX10_take 223 = .ok (.bastore, 1) := by decide +kernel
theorem dX10_take_224 : decode cX10_take 224 = .ok (.aload_n 0, 1) := by decide +kernel
theorem dX10_take_225 : decode cX10_take 225 = .ok (.getfield 13, 3) := by decide +kernel
theorem dX10_take_228 : decode cX10_take 228 = .ok (.iconst 1, 1) := by decide +kernel
theorem dX10_take_229 : decode cX10_take 229 = .ok (.iconst 0, 1) := by decide +kernel
theorem dX10_take_230 : decode cX10_take 230 = .ok (.bastore, 1) := by decide +kernel
theorem dX10_take_231 : decode cX10_take 231 = .ok (.return_, 1) := by decide +kernel
theorem dX10_fault_0 : decode cX10_fault 0 = .ok (.aload_n 0, 1) := by decide +kernel
theorem dX10_fault_1 : decode cX10_fault 1 = .ok (.getfield 41, 3) := by decide +kernel
theorem dX10_fault_4 : decode cX10_fault 4 = .ok (.ireturn, 1) := by decide +kernel
theorem dX10_isStop_0 : decode cX10_isStop 0 = .ok (.iload_n 1, 1) := by decide +kernel
theorem dX10_isStop_1 : decode cX10_isStop 1 = .ok (.i2l, 1) := by decide +kernel
theorem dX10_isStop_2 : decode cX10_isStop 2 = .ok (.lconst 0, 1) := by decide +kernel
theorem dX10_isStop_3 : decode cX10_isStop 3 = .ok (.aload_n 0, 1) := by decide +kernel
theorem dX10_isStop_4 : decode cX10_isStop 4 = .ok (.getfield 131, 3) := by decide +kernel
theorem dX10_isStop_7 : decode cX10_isStop 7 = .ok (.iconst 1, 1) := by decide +kernel
theorem dX10_isStop_8 : decode cX10_isStop 8 = .ok (.isub, 1) := by decide +kernel
theorem dX10_isStop_9 : decode cX10_isStop 9 = .ok (.i2l, 1) := by decide +kernel
theorem dX10_isStop_10 : decode cX10_isStop 10 = .ok (.invokestatic 68, 3) := by decide +kernel
theorem dX10_isStop_13 : decode cX10_isStop 13 = .ok (.ireturn, 1) := by decide +kernel
theorem dX10_figures_0 : decode cX10_figures 0 = .ok (.iconst 0, 1) := by decide +kernel
theorem dX10_figures_1 : decode cX10_figures 1 = .ok (.istore_n 1, 1) := by decide +kernel
theorem dX10_figures_2 : decode cX10_figures 2 = .ok (.iload_n 0, 1) := by decide +kernel
theorem dX10_figures_3 : decode cX10_figures 3 = .ok (.istore_n 2, 1) := by decide +kernel
theorem dX10_figures_4 : decode cX10_figures 4 = .ok (.iload_n 2, 1) := by decide +kernel
theorem dX10_figures_5 : decode cX10_figures 5 = .ok (.ifCond .le 14, 3) := by decide +kernel
theorem dX10_figures_8 : decode cX10_figures 8 = .ok (.iload_n 2, 1) := by decide +kernel
theorem dX10_figures_9 : decode cX10_figures 9 = .ok (.bipush 10, 2) := by decide +kernel
theorem dX10_figures_11 : decode cX10_figures 11 = .ok (.idiv, 1) := by decide +kernel
theorem dX10_figures_12 : decode cX10_figures 12 = .ok (.istore_n 2, 1) := by decide +kernel
theorem dX10_figures_13 : decode cX10_figures 13 = .ok (.iinc 1 1, 3) := by decide +kernel
theorem dX10_figures_16 : decode cX10_figures 16 = .ok (.goto (-12), 3) := by decide +kernel
theorem dX10_figures_19 : decode cX10_figures 19 = .ok (.iload_n 1, 1) := by decide +kernel
theorem dX10_figures_20 : decode cX10_figures 20 = .ok (.ireturn, 1) := by decide +kernel
theorem dX10_stopOf_0 : decode cX10_stopOf 0 = .ok (.iload_n 0, 1) := by decide +kernel
theorem dX10_stopOf_1 : decode cX10_stopOf 1 = .ok (.istore_n 2, 1) := by decide +kernel
theorem dX10_stopOf_2 : decode cX10_stopOf 2 = .ok (.iload_n 0, 1) := by decide +kernel
theorem dX10_stopOf_3 : decode cX10_stopOf 3 = .ok (.invokestatic 146, 3) := by decide +kernel
theorem dX10_stopOf_6 : decode cX10_stopOf 6 = .ok (.iconst 1, 1) := by decide +kernel
theorem dX10_stopOf_7 : decode cX10_stopOf 7 = .ok (.isub, 1) := by decide +kernel
theorem dX10_stopOf_8 : decode cX10_stopOf 8 = .ok (.istore_n 3, 1) := by decide +kernel
theorem dX10_stopOf_9 : decode cX10_stopOf 9 = .ok (.iload_n 3, 1) := by decide +kernel
theorem dX10_stopOf_10 : decode cX10_stopOf 10 = .ok (.iload_n 1, 1) := by decide +kernel
theorem dX10_stopOf_11 : decode cX10_stopOf 11 = .ok (.if_icmp .le 14, 3) := by decide +kernel
theorem dX10_stopOf_14 : decode cX10_stopOf 14 = .ok (.iload_n 2, 1) := by decide +kernel
theorem dX10_stopOf_15 : decode cX10_stopOf 15 = .ok (.bipush 10, 2) := by decide +kernel
theorem dX10_stopOf_17 : decode cX10_stopOf 17 = .ok (.idiv, 1) := by decide +kernel
theorem dX10_stopOf_18 : decode cX10_stopOf 18 = .ok (.istore_n 2, 1) := by decide +kernel
theorem dX10_stopOf_19 : decode cX10_stopOf 19 = .ok (.iinc 3 (-1), 3) := by decide +kernel
theorem dX10_stopOf_22 : decode cX10_stopOf 22 = .ok (.goto (-13), 3) := by decide +kernel
theorem dX10_stopOf_25 : decode cX10_stopOf 25 = .ok (.iload_n 2, 1) := by decide +kernel
theorem dX10_stopOf_26 : decode cX10_stopOf 26 = .ok (.bipush 10, 2) := by decide +kernel
theorem dX10_stopOf_28 : decode cX10_stopOf 28 = .ok (.irem, 1) := by decide +kernel
theorem dX10_stopOf_29 : decode cX10_stopOf 29 = .ok (.iconst 1, 1) := by decide +kernel
theorem dX10_stopOf_30 : decode cX10_stopOf 30 = .ok (.isub, 1) := by decide +kernel
theorem dX10_stopOf_31 : decode cX10_stopOf 31 = .ok (.ireturn, 1) := by decide +kernel
theorem dX10_isWay_0 : decode cX10_isWay 0 = .ok (.iload_n 1, 1) := by decide +kernel
theorem dX10_isWay_1 : decode cX10_isWay 1 = .ok (.ifCond .le 7, 3) := by decide +kernel
theorem dX10_isWay_4 : decode cX10_isWay 4 = .ok (.iconst 1, 1) := by decide +kernel
theorem dX10_isWay_5 : decode cX10_isWay 5 = .ok (.goto 4, 3) := by decide +kernel
theorem dX10_isWay_8 : decode cX10_isWay 8 = .ok (.iconst 0, 1) := by decide +kernel
theorem dX10_isWay_9 : decode cX10_isWay 9 = .ok (.istore_n 2, 1) := by decide +kernel
theorem dX10_isWay_10 : decode cX10_isWay 10 = .ok (.iconst 0, 1) := by decide +kernel
theorem dX10_isWay_11 : decode cX10_isWay 11 = .ok (.istore_n 3, 1) := by decide +kernel
theorem dX10_isWay_12 : decode cX10_isWay 12 = .ok (.iload_n 1, 1) := by decide +kernel
theorem dX10_isWay_13 : decode cX10_isWay 13 = .ok (.istore 4, 2) := by decide +kernel
theorem dX10_isWay_15 : decode cX10_isWay 15 = .ok (.iload 4, 2) := by decide +kernel
theorem dX10_isWay_17 : decode cX10_isWay 17 = .ok (.ifCond .le 65, 3) := by decide +kernel
theorem dX10_isWay_20 : decode cX10_isWay 20 = .ok (.iload_n 2, 1) := by decide +kernel
theorem dX10_isWay_21 : decode cX10_isWay 21 = .ok (.ifCond .eq 61, 3) := by decide +kernel
theorem dX10_isWay_24 : decode cX10_isWay 24 = .ok (.iload 4, 2) := by decide +kernel
theorem dX10_isWay_26 : decode cX10_isWay 26 = .ok (.bipush 10, 2) := by decide +kernel
theorem dX10_isWay_28 : decode cX10_isWay 28 = .ok (.irem, 1) := by decide +kernel
theorem dX10_isWay_29 : decode cX10_isWay 29 = .ok (.iconst 1, 1) := by decide +kernel
theorem dX10_isWay_30 : decode cX10_isWay 30 = .ok (.isub, 1) := by decide +kernel
theorem dX10_isWay_31 : decode cX10_isWay 31 = .ok (.istore 5, 2) := by decide +kernel
theorem dX10_isWay_33 : decode cX10_isWay 33 = .ok (.aload_n 0, 1) := by decide +kernel
theorem dX10_isWay_34 : decode cX10_isWay 34 = .ok (.iload 5, 2) := by decide +kernel
theorem dX10_isWay_36 : decode cX10_isWay 36 = .ok (.invokevirtual 150, 3) := by decide +kernel
theorem dX10_isWay_39 : decode cX10_isWay 39 = .ok (.ifCond .eq 16, 3) := by decide +kernel
theorem dX10_isWay_42 : decode cX10_isWay 42 = .ok (.iload_n 3, 1) := by decide +kernel
theorem dX10_isWay_43 : decode cX10_isWay 43 = .ok (.iload 5, 2) := by decide +kernel
theorem dX10_isWay_45 : decode cX10_isWay 45 = .ok (.invokestatic 154, 3) := by decide +kernel
theorem dX10_isWay_48 : decode cX10_isWay 48 = .ok (.ifCond .ne 7, 3) := by decide +kernel
theorem dX10_isWay_51 : decode cX10_isWay 51 = .ok (.iconst 1, 1) := by decide +kernel
theorem dX10_isWay_52 : decode cX10_isWay 52 = .ok (.goto 4, 3) := by decide +kernel
theorem dX10_isWay_55 : decode cX10_isWay 55 = .ok (.iconst 0, 1) := by decide +kernel
theorem dX10_isWay_56 : decode cX10_isWay 56 = .ok (.istore_n 2, 1) := by decide +kernel
theorem dX10_isWay_57 : decode cX10_isWay 57 = .ok (.iload_n 3, 1) := by decide +kernel
theorem dX10_isWay_58 : decode cX10_isWay 58 = .ok (.iload_n 2, 1) := by decide +kernel
theorem dX10_isWay_59 : decode cX10_isWay 59 = .ok (.ifCond .eq 10, 3) := by decide +kernel
theorem dX10_isWay_62 : decode cX10_isWay 62 = .ok (.iconst 1, 1) := by decide +kernel
theorem dX10_isWay_63 : decode cX10_isWay 63 = .ok (.iload 5, 2) := by decide +kernel
theorem dX10_isWay_65 : decode cX10_isWay 65 = .ok (.ishl, 1) := by decide +kernel
theorem dX10_isWay_66 : decode cX10_isWay 66 = .ok (.goto 4, 3) := by decide +kernel
theorem dX10_isWay_69 : decode cX10_isWay 69 = .ok (.iconst 0, 1) := by decide +kernel
theorem dX10_isWay_70 : decode cX10_isWay 70 = .ok (.ior, 1) := by decide +kernel
theorem dX10_isWay_71 : decode cX10_isWay 71 = .ok (.istore_n 3, 1) := by decide +kernel
theorem dX10_isWay_72 : decode cX10_isWay 72 = .ok (.iload 4, 2) := by decide +kernel
theorem dX10_isWay_74 : decode cX10_isWay 74 = .ok (.bipush 10, 2) := by decide +kernel
theorem dX10_isWay_76 : decode cX10_isWay 76 = .ok (.idiv, 1) := by decide +kernel
theorem dX10_isWay_77 : decode cX10_isWay 77 = .ok (.istore 4, 2) := by decide +kernel
theorem dX10_isWay_79 : decode cX10_isWay 79 = .ok (.goto (-64), 3) := by decide +kernel
theorem dX10_isWay_82 : decode cX10_isWay 82 = .ok (.iload_n 2, 1) := by decide +kernel
theorem dX10_isWay_83 : decode cX10_isWay 83 = .ok (.ireturn, 1) := by decide +kernel
theorem dX10_isHaste_0 : decode cX10_isHaste 0 = .ok (.iload_n 0, 1) := by decide +kernel
theorem dX10_isHaste_1 : decode cX10_isHaste 1 = .ok (.i2l, 1) := by decide +kernel
theorem dX10_isHaste_2 : decode cX10_isHaste 2 = .ok (.lconst 0, 1) := by decide +kernel
theorem dX10_isHaste_3 : decode cX10_isHaste 3 = .ok (.ldc2_w 158, 3) := by decide +kernel
theorem dX10_isHaste_6 : decode cX10_isHaste 6 = .ok (.invokestatic 68, 3) := by decide +kernel
theorem dX10_isHaste_9 : decode cX10_isHaste 9 = .ok (.ireturn, 1) := by decide +kernel
theorem dX10_which_0 : decode cX10_which 0 = .ok (.iconst 0, 1) := by decide +kernel
theorem dX10_which_1 : decode cX10_which 1 = .ok (.istore_n 2, 1) := by decide +kernel
theorem dX10_which_2 : decode cX10_which 2 = .ok (.iconst 0, 1) := by decide +kernel
theorem dX10_which_3 : decode cX10_which 3 = .ok (.istore_n 3, 1) := by decide +kernel
theorem dX10_which_4 : decode cX10_which 4 = .ok (.iload_n 3, 1) := by decide +kernel
theorem dX10_which_5 : decode cX10_which 5 = .ok (.aload_n 0, 1) := by decide +kernel
theorem dX10_which_6 : decode cX10_which 6 = .ok (.getfield 131, 3) := by decide +kernel
theorem dX10_which_9 : decode cX10_which 9 = .ok (.if_icmp .ge 32, 3) := by decide +kernel
theorem dX10_which_12 : decode cX10_which 12 = .ok (.iload_n 2, 1) := by decide +kernel
theorem dX10_which_13 : decode cX10_which 13 = .ok (.aload_n 0, 1) := by decide +kernel
theorem dX10_which_14 : decode cX10_which 14 = .ok (.getfield 7, 3) := by decide +kernel
theorem dX10_which_17 : decode cX10_which 17 = .ok (.iload_n 3, 1) := by decide +kernel
theorem dX10_which_18 : decode cX10_which 18 = .ok (.iaload, 1) := by decide +kernel
theorem dX10_which_19 : decode cX10_which 19 = .ok (.iload_n 1, 1) := by decide +kernel
theorem dX10_which_20 : decode cX10_which 20 = .ok (.if_icmp .ne 7, 3) := by decide +kernel
theorem dX10_which_23 : decode cX10_which 23 = .ok (.iconst 1, 1) := by decide +kernel
theorem dX10_which_24 : decode cX10_which 24 = .ok (.goto 4, 3) := by decide +kernel
theorem dX10_which_27 : decode cX10_which 27 = .ok (.iconst 0, 1) := by decide +kernel
theorem dX10_which_28 : decode cX10_which 28 = .ok (.invokestatic 160, 3) := by decide +kernel
theorem dX10_which_31 : decode cX10_which 31 = .ok (.iload_n 3, 1) := by decide +kernel
theorem dX10_which_32 : decode cX10_which 32 = .ok (.ishl, 1) := by decide +kernel
theorem dX10_which_33 : decode cX10_which 33 = .ok (.ior, 1) := by decide +kernel
theorem dX10_which_34 : decode cX10_which 34 = .ok (.istore_n 2, 1) := by decide +kernel
theorem dX10_which_35 : decode cX10_which 35 = .ok (.iinc 3 1, 3) := by decide +kernel
theorem dX10_which_38 : decode cX10_which 38 = .ok (.goto (-34), 3) := by decide +kernel
theorem dX10_which_41 : decode cX10_which 41 = .ok (.iload_n 2, 1) := by decide +kernel
theorem dX10_which_42 : decode cX10_which 42 = .ok (.ireturn, 1) := by decide +kernel
theorem dX10_told_0 : decode cX10_told 0 = .ok (.iload_n 1, 1) := by decide +kernel
theorem dX10_told_1 : decode cX10_told 1 = .ok (.tableswitch 169 0 14 #[75, 82, 89, 96, 101, 106, 114, 122, 130, 136, 142, 148, 154, 159, 164], 75) := by decide +kernel
theorem dX10_told_76 : decode cX10_told 76 = .ok (.aload_n 0, 1) := by decide +kernel
theorem dX10_told_77 : decode cX10_told 77 = .ok (.getfield 17, 3) := by decide +kernel
theorem dX10_told_80 : decode cX10_told 80 = .ok (.iconst 0, 1) := by decide +kernel
theorem dX10_told_81 : decode cX10_told 81 = .ok (.iaload, 1) := by decide +kernel
theorem dX10_told_82 : decode cX10_told 82 = .ok (.ireturn, 1) := by decide +kernel
theorem dX10_told_83 : decode cX10_told 83 = .ok (.aload_n 0, 1) := by decide +kernel
theorem dX10_told_84 : decode cX10_told 84 = .ok (.getfield 17, 3) := by decide +kernel
theorem dX10_told_87 : decode cX10_told 87 = .ok (.iconst 1, 1) := by decide +kernel
theorem dX10_told_88 : decode cX10_told 88 = .ok (.iaload, 1) := by decide +kernel
theorem dX10_told_89 : decode cX10_told 89 = .ok (.ireturn, 1) := by decide +kernel
theorem dX10_told_90 : decode cX10_told 90 = .ok (.aload_n 0, 1) := by decide +kernel
theorem dX10_told_91 : decode cX10_told 91 = .ok (.getfield 17, 3) := by decide +kernel
theorem dX10_told_94 : decode cX10_told 94 = .ok (.iconst 2, 1) := by decide +kernel
theorem dX10_told_95 : decode cX10_told 95 = .ok (.iaload, 1) := by decide +kernel
theorem dX10_told_96 : decode cX10_told 96 = .ok (.ireturn, 1) := by decide +kernel
theorem dX10_told_97 : decode cX10_told 97 = .ok (.aload_n 0, 1) := by decide +kernel
theorem dX10_told_98 : decode cX10_told 98 = .ok (.getfield 131, 3) := by decide +kernel
theorem dX10_told_101 : decode cX10_told 101 = .ok (.ireturn, 1) := by decide +kernel
theorem dX10_told_102 : decode cX10_told 102 = .ok (.aload_n 0, 1) := by decide +kernel
theorem dX10_told_103 : decode cX10_told 103 = .ok (.getfield 73, 3) := by decide +kernel
theorem dX10_told_106 : decode cX10_told 106 = .ok (.ireturn, 1) := by decide +kernel
theorem dX10_told_107 : decode cX10_told 107 = .ok (.aload_n 0, 1) := by decide +kernel
theorem dX10_told_108 : decode cX10_told 108 = .ok (.getfield 7, 3) := by decide +kernel
theorem dX10_told_111 : decode cX10_told 111 = .ok (.bipush 14, 2) := by decide +kernel
theorem dX10_told_113 : decode cX10_told 113 = .ok (.iaload, 1) := by decide +kernel
theorem dX10_told_114 : decode cX10_told 114 = .ok (.ireturn, 1) := by decide +kernel
theorem dX10_told_115 : decode cX10_told 115 = .ok (.aload_n 0, 1) := by decide +kernel
theorem dX10_told_116 : decode cX10_told 116 = .ok (.getfield 7, 3) := by decide +kernel
theorem dX10_told_119 : decode cX10_told 119 = .ok (.bipush 15, 2) := by decide +kernel
theorem dX10_told_121 : decode cX10_told 121 = .ok (.iaload, 1) := by decide +kernel
theorem dX10_told_122 : decode cX10_told 122 = .ok (.ireturn, 1) := by decide +kernel
theorem dX10_told_123 : decode cX10_told 123 = .ok (.aload_n 0, 1) := by decide +kernel
theorem dX10_told_124 : decode cX10_told 124 = .ok (.getfield 7, 3) := by decide +kernel
theorem dX10_told_127 : decode cX10_told 127 = .ok (.bipush 16, 2) := by decide +kernel
theorem dX10_told_129 : decode cX10_told 129 = .ok (.iaload, 1) := by decide +kernel
theorem dX10_told_130 : decode cX10_told 130 = .ok (.ireturn, 1) := by decide +kernel
theorem dX10_told_131 : decode cX10_told 131 = .ok (.aload_n 0, 1) := by decide +kernel
theorem dX10_told_132 : decode cX10_told 132 = .ok (.iconst 1, 1) := by decide +kernel
theorem dX10_told_133 : decode cX10_told 133 = .ok (.invokevirtual 164, 3) := by decide +kernel
theorem dX10_told_136 : decode cX10_told 136 = .ok (.ireturn, 1) := by decide +kernel
theorem dX10_told_137 : decode cX10_told 137 = .ok (.aload_n 0, 1) := by decide +kernel
theorem dX10_told_138 : decode cX10_told 138 = .ok (.iconst 2, 1) := by decide +kernel
theorem dX10_told_139 : decode cX10_told 139 = .ok (.invokevirtual 164, 3) := by decide +kernel
theorem dX10_told_142 : decode cX10_told 142 = .ok (.ireturn, 1) := by decide +kernel
theorem dX10_told_143 : decode cX10_told 143 = .ok (.aload_n 0, 1) := by decide +kernel
theorem dX10_told_144 : decode cX10_told 144 = .ok (.iconst 3, 1) := by decide +kernel
theorem dX10_told_145 : decode cX10_told 145 = .ok (.invokevirtual 164, 3) := by decide +kernel
theorem dX10_told_148 : decode cX10_told 148 = .ok (.ireturn, 1) := by decide +kernel
theorem dX10_told_149 : decode cX10_told 149 = .ok (.aload_n 0, 1) := by decide +kernel
theorem dX10_told_150 : decode cX10_told 150 = .ok (.iconst 4, 1) := by decide +kernel
theorem dX10_told_151 : decode cX10_told 151 = .ok (.invokevirtual 164, 3) := by decide +kernel
theorem dX10_told_154 : decode cX10_told 154 = .ok (.ireturn, 1) := by decide +kernel
theorem dX10_told_155 : decode cX10_told 155 = .ok (.aload_n 0, 1) := by decide +kernel
theorem dX10_told_156 : decode cX10_told 156 = .ok (.getfield 137, 3) := by decide +kernel
theorem dX10_told_159 : decode cX10_told 159 = .ok (.ireturn, 1) := by decide +kernel
theorem dX10_told_160 : decode cX10_told 160 = .ok (.aload_n 0, 1) := by decide +kernel
theorem dX10_told_161 : decode cX10_told 161 = .ok (.getfield 140, 3) := by decide +kernel
theorem dX10_told_164 : decode cX10_told 164 = .ok (.ireturn, 1) := by decide +kernel
theorem dX10_told_165 : decode cX10_told 165 = .ok (.aload_n 0, 1) := by decide +kernel
theorem dX10_told_166 : decode cX10_told 166 = .ok (.getfield 143, 3) := by decide +kernel
theorem dX10_told_169 : decode cX10_told 169 = .ok (.ireturn, 1) := by decide +kernel
theorem dX10_told_170 : decode cX10_told 170 = .ok (.ldc 72, 2) := by decide +kernel
theorem dX10_told_172 : decode cX10_told 172 = .ok (.ireturn, 1) := by decide +kernel
theorem dX10_stop_0 : decode cX10_stop 0 = .ok (.aload_n 0, 1) := by decide +kernel
theorem dX10_stop_1 : decode cX10_stop 1 = .ok (.iload_n 1, 1) := by decide +kernel
theorem dX10_stop_2 : decode cX10_stop 2 = .ok (.invokevirtual 150, 3) := by decide +kernel
theorem dX10_stop_5 : decode cX10_stop 5 = .ok (.ifCond .ne 6, 3) := by decide +kernel
theorem dX10_stop_8 : decode cX10_stop 8 = .ok (.ldc 167, 2) := by decide +kernel
theorem dX10_stop_10 : decode cX10_stop 10 = .ok (.ireturn, 1) := by decide +kernel
theorem dX10_stop_11 : decode cX10_stop 11 = .ok (.iload_n 2, 1) := by decide +kernel
theorem dX10_stop_12 : decode cX10_stop 12 = .ok (.tableswitch 96 0 6 #[44, 51, 58, 65, 72, 79, 86], 44) := by decide +kernel
theorem dX10_stop_56 : decode cX10_stop 56 = .ok (.aload_n 0, 1) := by decide +kernel
theorem dX10_stop_57 : decode cX10_stop 57 = .ok (.getfield 20, 3) := by decide +kernel
theorem dX10_stop_60 : decode cX10_stop 60 = .ok (.iload_n 1, 1) := by decide +kernel
theorem dX10_stop_61 : decode cX10_stop 61 = .ok (.iaload, 1) := by decide +kernel
theorem dX10_stop_62 : decode cX10_stop 62 = .ok (.ireturn, 1) := by decide +kernel
theorem dX10_stop_63 : decode cX10_stop 63 = .ok (.aload_n 0, 1) := by decide +kernel
theorem dX10_stop_64 : decode cX10_stop 64 = .ok (.getfield 23, 3) := by decide +kernel
theorem dX10_stop_67 : decode cX10_stop 67 = .ok (.iload_n 1, 1) := by decide +kernel
theorem dX10_stop_68 : decode cX10_stop 68 = .ok (.iaload, 1) := by decide +kernel
theorem dX10_stop_69 : decode cX10_stop 69 = .ok (.ireturn, 1) := by decide +kernel
theorem dX10_stop_70 : decode cX10_stop 70 = .ok (.aload_n 0, 1) := by decide +kernel
theorem dX10_stop_71 : decode cX10_stop 71 = .ok (.getfield 26, 3) := by decide +kernel
theorem dX10_stop_74 : decode cX10_stop 74 = .ok (.iload_n 1, 1) := by decide +kernel
theorem dX10_stop_75 : decode cX10_stop 75 = .ok (.iaload, 1) := by decide +kernel
theorem dX10_stop_76 : decode cX10_stop 76 = .ok (.ireturn, 1) := by decide +kernel
theorem dX10_stop_77 : decode cX10_stop 77 = .ok (.aload_n 0, 1) := by decide +kernel
theorem dX10_stop_78 : decode cX10_stop 78 = .ok (.getfield 7, 3) := by decide +kernel
theorem dX10_stop_81 : decode cX10_stop 81 = .ok (.iload_n 1, 1) := by decide +kernel
theorem dX10_stop_82 : decode cX10_stop 82 = .ok (.iaload, 1) := by decide +kernel
theorem dX10_stop_83 : decode cX10_stop 83 = .ok (.ireturn, 1) := by decide +kernel
theorem dX10_stop_84 : decode cX10_stop 84 = .ok (.aload_n 0, 1) := by decide +kernel
theorem dX10_stop_85 : decode cX10_stop 85 = .ok (.getfield 29, 3) := by decide +kernel
theorem dX10_stop_88 : decode cX10_stop 88 = .ok (.iload_n 1, 1) := by decide +kernel
theorem dX10_stop_89 : decode cX10_stop 89 = .ok (.iaload, 1) := by decide +kernel
theorem dX10_stop_90 : decode cX10_stop 90 = .ok (.ireturn, 1) := by decide +kernel
theorem dX10_stop_91 : decode cX10_stop 91 = .ok (.aload_n 0, 1) := by decide +kernel
theorem dX10_stop_92 : decode cX10_stop 92 = .ok (.getfield 32, 3) := by decide +kernel
theorem dX10_stop_95 : decode cX10_stop 95 = .ok (.iload_n 1, 1) := by decide +kernel
theorem dX10_stop_96 : decode cX10_stop 96 = .ok (.iaload, 1) := by decide +kernel
theorem dX10_stop_97 : decode cX10_stop 97 = .ok (.ireturn, 1) := by decide +kernel
theorem dX10_stop_98 : decode cX10_stop 98 = .ok (.aload_n 0, 1) := by decide +kernel
theorem dX10_stop_99 : decode cX10_stop 99 = .ok (.getfield 7, 3) := by decide +kernel
theorem dX10_stop_102 : decode cX10_stop 102 = .ok (.bipush 7, 2) := by decide +kernel
theorem dX10_stop_104 : decode cX10_stop 104 = .ok (.iload_n 1, 1) := by decide +kernel
theorem dX10_stop_105 : decode cX10_stop 105 = .ok (.iadd, 1) := by decide +kernel
theorem dX10_stop_106 : decode cX10_stop 106 = .ok (.iaload, 1) := by decide +kernel
theorem dX10_stop_107 : decode cX10_stop 107 = .ok (.ireturn, 1) := by decide +kernel
theorem dX10_stop_108 : decode cX10_stop 108 = .ok (.ldc 72, 2) := by decide +kernel
theorem dX10_stop_110 : decode cX10_stop 110 = .ok (.ireturn, 1) := by decide +kernel
theorem dX10_dinAt_0 : decode cX10_dinAt 0 = .ok (.aload_n 0, 1) := by decide +kernel
theorem dX10_dinAt_1 : decode cX10_dinAt 1 = .ok (.getfield 134, 3) := by decide +kernel
theorem dX10_dinAt_4 : decode cX10_dinAt 4 = .ok (.ifCond .ne 7, 3) := by decide +kernel
theorem dX10_dinAt_7 : decode cX10_dinAt 7 = .ok (.iconst 0, 1) := by decide +kernel
theorem dX10_dinAt_8 : decode cX10_dinAt 8 = .ok (.goto 14, 3) := by decide +kernel
theorem dX10_dinAt_11 : decode cX10_dinAt 11 = .ok (.aload_n 0, 1) := by decide +kernel
theorem dX10_dinAt_12 : decode cX10_dinAt 12 = .ok (.getfield 35, 3) := by decide +kernel
theorem dX10_dinAt_15 : decode cX10_dinAt 15 = .ok (.iload_n 1, 1) := by decide +kernel
theorem dX10_dinAt_16 : decode cX10_dinAt 16 = .ok (.aload_n 0, 1) := by decide +kernel
theorem dX10_dinAt_17 : decode cX10_dinAt 17 = .ok (.getfield 134, 3) := by decide +kernel
theorem dX10_dinAt_20 : decode cX10_dinAt 20 = .ok (.irem, 1) := by decide +kernel
theorem dX10_dinAt_21 : decode cX10_dinAt 21 = .ok (.iaload, 1) := by decide +kernel
theorem dX10_dinAt_22 : decode cX10_dinAt 22 = .ok (.ireturn, 1) := by decide +kernel
theorem dX10_din_0 : decode cX10_din 0 = .ok (.iload_n 1, 1) := by decide +kernel
theorem dX10_din_1 : decode cX10_din 1 = .ok (.i2l, 1) := by decide +kernel
theorem dX10_din_2 : decode cX10_din 2 = .ok (.lconst 0, 1) := by decide +kernel
theorem dX10_din_3 : decode cX10_din 3 = .ok (.ldc2_w 168, 3) := by decide +kernel
theorem dX10_din_6 : decode cX10_din 6 = .ok (.invokestatic 68, 3) := by decide +kernel
theorem dX10_din_9 : decode cX10_din 9 = .ok (.ifCond .eq 11, 3) := by decide +kernel
theorem dX10_din_12 : decode cX10_din 12 = .ok (.aload_n 0, 1) := by decide +kernel
theorem dX10_din_13 : decode cX10_din 13 = .ok (.iload_n 1, 1) := by decide +kernel
theorem dX10_din_14 : decode cX10_din 14 = .ok (.invokevirtual 170, 3) := by decide +kernel
theorem dX10_din_17 : decode cX10_din 17 = .ok (.goto 5, 3) := by decide +kernel
theorem dX10_din_20 : decode cX10_din 20 = .ok (.ldc 72, 2) := by decide +kernel
theorem dX10_din_22 : decode cX10_din 22 = .ok (.ireturn, 1) := by decide +kernel
theorem dX10_isInAt_0 : decode cX10_isInAt 0 = .ok (.iload_n 2, 1) := by decide +kernel
theorem dX10_isInAt_1 : decode cX10_isInAt 1 = .ok (.bipush 12, 2) := by decide +kernel
theorem dX10_isInAt_3 : decode cX10_isInAt 3 = .ok (.if_icmp .ge 20, 3) := by decide +kernel
theorem dX10_isInAt_6 : decode cX10_isInAt 6 = .ok (.aload_n 0, 1) := by decide +kernel
theorem dX10_isInAt_7 : decode cX10_isInAt 7 = .ok (.getfield 23, 3) := by decide +kernel
theorem dX10_isInAt_10 : decode cX10_isInAt 10 = .ok (.iload_n 1, 1) := by decide +kernel
theorem dX10_isInAt_11 : decode cX10_isInAt 11 = .ok (.iaload, 1) := by decide +kernel
theorem dX10_isInAt_12 : decode cX10_isInAt 12 = .ok (.iload_n 2, 1) := by decide +kernel
theorem dX10_isInAt_13 : decode cX10_isInAt 13 = .ok (.invokestatic 154, 3) := by decide +kernel
theorem dX10_isInAt_16 : decode cX10_isInAt 16 = .ok (.ifCond .eq 7, 3) := by decide +kernel
theorem dX10_isInAt_19 : decode cX10_isInAt 19 = .ok (.iconst 1, 1) := by decide +kernel
theorem dX10_isInAt_20 : decode cX10_isInAt 20 = .ok (.goto 4, 3) := by decide +kernel
theorem dX10_isInAt_23 : decode cX10_isInAt 23 = .ok (.iconst 0, 1) := by decide +kernel
theorem dX10_isInAt_24 : decode cX10_isInAt 24 = .ok (.ireturn, 1) := by decide +kernel
theorem dX10_visit_0 : decode cX10_visit 0 = .ok (.iload_n 3, 1) := by decide +kernel
theorem dX10_visit_1 : decode cX10_visit 1 = .ok (.sipush 3600, 3) := by decide +kernel
theorem dX10_visit_4 : decode cX10_visit 4 = .ok (.idiv, 1) := by decide +kernel
theorem dX10_visit_5 : decode cX10_visit 5 = .ok (.istore 5, 2) := by decide +kernel
theorem dX10_visit_7 : decode cX10_visit 7 = .ok (.iload 4, 2) := by decide +kernel
theorem dX10_visit_9 : decode cX10_visit 9 = .ok (.ifCond .eq 12, 3) := by decide +kernel
theorem dX10_visit_12 : decode cX10_visit 12 = .ok (.aload_n 0, 1) := by decide +kernel
theorem dX10_visit_13 : decode cX10_visit 13 = .ok (.getfield 17, 3) := by decide +kernel
theorem dX10_visit_16 : decode cX10_visit 16 = .ok (.iconst 0, 1) := by decide +kernel
theorem dX10_visit_17 : decode cX10_visit 17 = .ok (.iaload, 1) := by decide +kernel
theorem dX10_visit_18 : decode cX10_visit 18 = .ok (.goto 4, 3) := by decide +kernel
theorem dX10_visit_21 : decode cX10_visit 21 = .ok (.iconst 0, 1) := by decide +kernel
theorem dX10_visit_22 : decode cX10_visit 22 = .ok (.istore 6, 2) := by decide +kernel
theorem dX10_visit_24 : decode cX10_visit 24 = .ok (.iload 4, 2) := by decide +kernel
theorem dX10_visit_26 : decode cX10_visit 26 = .ok (.ifCond .eq 50, 3) := by decide +kernel
theorem dX10_visit_29 : decode cX10_visit 29 = .ok (.aload_n 0, 1) := by decide +kernel
theorem dX10_visit_30 : decode cX10_visit 30 = .ok (.iload_n 2, 1) := by decide +kernel
theorem dX10_visit_31 : decode cX10_visit 31 = .ok (.iload 5, 2) := by decide +kernel
theorem dX10_visit_33 : decode cX10_visit 33 = .ok (.invokevirtual 173, 3) := by decide +kernel
theorem dX10_visit_36 : decode cX10_visit 36 = .ok (.ifCond .eq 40, 3) := by decide +kernel
theorem dX10_visit_39 : decode cX10_visit 39 = .ok (.aload_n 0, 1) := by decide +kernel
theorem dX10_visit_40 : decode cX10_visit 40 = .ok (.iload 5, 2) := by decide +kernel
theorem dX10_visit_42 : decode cX10_visit 42 = .ok (.invokevirtual 170, 3) := by decide +kernel
theorem dX10_visit_45 : decode cX10_visit 45 = .ok (.aload_n 0, 1) := by decide +kernel
theorem dX10_visit_46 : decode cX10_visit 46 = .ok (.getfield 26, 3) := by decide +kernel
theorem dX10_visit_49 : decode cX10_visit 49 = .ok (.iload_n 2, 1) := by decide +kernel
theorem dX10_visit_50 : decode cX10_visit 50 = .ok (.iaload, 1) := by decide +kernel
theorem dX10_visit_51 : decode cX10_visit 51 = .ok (.if_icmp .ge 25, 3) := by decide +kernel
theorem dX10_visit_54 : decode cX10_visit 54 = .ok (.aload_n 0, 1) := by decide +kernel
theorem dX10_visit_55 : decode cX10_visit 55 = .ok (.getfield 7, 3) := by decide +kernel
theorem dX10_visit_58 : decode cX10_visit 58 = .ok (.iload_n 1, 1) := by decide +kernel
theorem dX10_visit_59 : decode cX10_visit 59 = .ok (.iload_n 2, 1) := by decide +kernel
theorem dX10_visit_60 : decode cX10_visit 60 = .ok (.iadd, 1) := by decide +kernel
theorem dX10_visit_61 : decode cX10_visit 61 = .ok (.iconst 2, 1) := by decide +kernel
theorem dX10_visit_62 : decode cX10_visit 62 = .ok (.iastore, 1) := by decide +kernel
theorem dX10_visit_63 : decode cX10_visit 63 = .ok (.aload_n 0, 1) := by decide +kernel
theorem dX10_visit_64 : decode cX10_visit 64 = .ok (.dup, 1) := by decide +kernel
theorem dX10_visit_65 : decode cX10_visit 65 = .ok (.getfield 176, 3) := by decide +kernel
theorem dX10_visit_68 : decode cX10_visit 68 = .ok (.iconst 1, 1) := by decide +kernel
theorem dX10_visit_69 : decode cX10_visit 69 = .ok (.iadd, 1) := by decide +kernel
theorem dX10_visit_70 : decode cX10_visit 70 = .ok (.putfield 176, 3) := by decide +kernel
theorem dX10_visit_73 : decode cX10_visit 73 = .ok (.iload 6, 2) := by decide +kernel
theorem dX10_visit_75 : decode cX10_visit 75 = .ok (.ireturn, 1) := by decide +kernel
theorem dX10_visit_76 : decode cX10_visit 76 = .ok (.aload_n 0, 1) := by decide +kernel
theorem dX10_visit_77 : decode cX10_visit 77 = .ok (.getfield 29, 3) := by decide +kernel
theorem dX10_visit_80 : decode cX10_visit 80 = .ok (.iload_n 2, 1) := by decide +kernel
theorem dX10_visit_81 : decode cX10_visit 81 = .ok (.iaload, 1) := by decide +kernel
theorem dX10_visit_82 : decode cX10_visit 82 = .ok (.iconst (-1), 1) := by decide +kernel
theorem dX10_visit_83 : decode cX10_visit 83 = .ok (.if_icmp .eq 42, 3) := by decide +kernel
theorem dX10_visit_86 : decode cX10_visit 86 = .ok (.aload_n 0, 1) := by decide +kernel
theorem dX10_visit_87 : decode cX10_visit 87 = .ok (.aload_n 0, 1) := by decide +kernel
theorem dX10_visit_88 : decode cX10_visit 88 = .ok (.getfield 29, 3) := by decide +kernel
theorem dX10_visit_91 : decode cX10_visit 91 = .ok (.iload_n 2, 1) := by decide +kernel
theorem dX10_visit_92 : decode cX10_visit 92 = .ok (.iaload, 1) := by decide +kernel
theorem dX10_visit_93 : decode cX10_visit 93 = .ok (.iload 5, 2) := by decide +kernel
theorem dX10_visit_95 : decode cX10_visit 95 = .ok (.invokevirtual 173, 3) := by decide +kernel
theorem dX10_visit_98 : decode cX10_visit 98 = .ok (.ifCond .eq 27, 3) := by decide +kernel
theorem dX10_visit_101 : decode cX10_visit 101 = .ok (.aload_n 0, 1) := by decide +kernel
theorem dX10_visit_102 : decode cX10_visit 102 = .ok (.getfield 7, 3) := by decide +kernel
theorem dX10_visit_105 : decode cX10_visit 105 = .ok (.iload_n 1, 1) := by decide +kernel
theorem dX10_visit_106 : decode cX10_visit 106 = .ok (.bipush 7, 2) := by decide +kernel
theorem dX10_visit_108 : decode cX10_visit 108 = .ok (.iadd, 1) := by decide +kernel
theorem dX10_visit_109 : decode cX10_visit 109 = .ok (.iload_n 2, 1) := by decide +kernel
theorem dX10_visit_110 : decode cX10_visit 110 = .ok (.iadd, 1) := by decide +kernel
theorem dX10_visit_111 : decode cX10_visit 111 = .ok (.iaload, 1) := by decide +kernel
theorem dX10_visit_112 : decode cX10_visit 112 = .ok (.aload_n 0, 1) := by decide +kernel
theorem dX10_visit_113 : decode cX10_visit 113 = .ok (.getfield 32, 3) := by decide +kernel
theorem dX10_visit_116 : decode cX10_visit 116 = .ok (.iload_n 2, 1) := by decide +kernel
theorem dX10_visit_117 : decode cX10_visit 117 = .ok (.iaload, 1) := by decide +kernel
theorem dX10_visit_118 : decode cX10_visit 118 = .ok (.if_icmp .ge 7, 3) := by decide +kernel
theorem dX10_visit_121 : decode cX10_visit 121 = .ok (.iconst 1, 1) := by decide +kernel
theorem dX10_visit_122 : decode cX10_visit 122 = .ok (.goto 4, 3) := by decide +kernel
theorem dX10_visit_125 : decode cX10_visit 125 = .ok (.iconst 0, 1) := by decide +kernel
theorem dX10_visit_126 : decode cX10_visit 126 = .ok (.istore 7, 2) := by decide +kernel
theorem dX10_visit_128 : decode cX10_visit 128 = .ok (.aload_n 0, 1) := by decide +kernel
theorem dX10_visit_129 : decode cX10_visit 129 = .ok (.getfield 7, 3) := by decide +kernel
theorem dX10_visit_132 : decode cX10_visit 132 = .ok (.iload_n 1, 1) := by decide +kernel
theorem dX10_visit_133 : decode cX10_visit 133 = .ok (.iload_n 2, 1) := by decide +kernel
theorem dX10_visit_134 : decode cX10_visit 134 = .ok (.iadd, 1) := by decide +kernel
theorem dX10_visit_135 : decode cX10_visit 135 = .ok (.iload 7, 2) := by decide +kernel
theorem dX10_visit_137 : decode cX10_visit 137 = .ok (.ifCond .eq 7, 3) := by decide +kernel
theorem dX10_visit_140 : decode cX10_visit 140 = .ok (.iconst 3, 1) := by decide +kernel
theorem dX10_visit_141 : decode cX10_visit 141 = .ok (.goto 4, 3) := by decide +kernel
theorem dX10_visit_144 : decode cX10_visit 144 = .ok (.iconst 4, 1) := by decide +kernel
theorem dX10_visit_145 : decode cX10_visit 145 = .ok (.iastore, 1) := by decide +kernel
theorem dX10_visit_146 : decode cX10_visit 146 = .ok (.aload_n 0, 1) := by decide +kernel
theorem dX10_visit_147 : decode cX10_visit 147 = .ok (.getfield 7, 3) := by decide +kernel
theorem dX10_visit_150 : decode cX10_visit 150 = .ok (.iload_n 1, 1) := by decide +kernel
theorem dX10_visit_151 : decode cX10_visit 151 = .ok (.bipush 7, 2) := by decide +kernel
theorem dX10_visit_153 : decode cX10_visit 153 = .ok (.iadd, 1) := by decide +kernel
theorem dX10_visit_154 : decode cX10_visit 154 = .ok (.iload_n 2, 1) := by decide +kernel
theorem dX10_visit_155 : decode cX10_visit 155 = .ok (.iadd, 1) := by decide +kernel
theorem dX10_visit_156 : decode cX10_visit 156 = .ok (.dup2, 1) := by decide +kernel
theorem dX10_visit_157 : decode cX10_visit 157 = .ok (.iaload, 1) := by decide +kernel
theorem dX10_visit_158 : decode cX10_visit 158 = .ok (.iload 7, 2) := by decide +kernel
theorem dX10_visit_160 : decode cX10_visit 160 = .ok (.invokestatic 160, 3) := by decide +kernel
theorem dX10_visit_163 : decode cX10_visit 163 = .ok (.iadd, 1) := by decide +kernel
theorem dX10_visit_164 : decode cX10_visit 164 = .ok (.iastore, 1) := by decide +kernel
theorem dX10_visit_165 : decode cX10_visit 165 = .ok (.aload_n 0, 1) := by decide +kernel
theorem dX10_visit_166 : decode cX10_visit 166 = .ok (.dup, 1) := by decide +kernel
theorem dX10_visit_167 : decode cX10_visit 167 = .ok (.getfield 179, 3) := by decide +kernel
theorem dX10_visit_170 : decode cX10_visit 170 = .ok (.iload 7, 2) := by decide +kernel
theorem dX10_visit_172 : decode cX10_visit 172 = .ok (.ifCond .ne 7, 3) := by decide +kernel
theorem dX10_visit_175 : decode cX10_visit 175 = .ok (.iconst 1, 1) := by decide +kernel
theorem dX10_visit_176 : decode cX10_visit 176 = .ok (.goto 4, 3) := by decide +kernel
theorem dX10_visit_179 : decode cX10_visit 179 = .ok (.iconst 0, 1) := by decide +kernel
theorem dX10_visit_180 : decode cX10_visit 180 = .ok (.invokestatic 160, 3) := by decide +kernel
theorem dX10_visit_183 : decode cX10_visit 183 = .ok (.iload_n 2, 1) := by decide +kernel
theorem dX10_visit_184 : decode cX10_visit 184 = .ok (.ishl, 1) := by decide +kernel
theorem dX10_visit_185 : decode cX10_visit 185 = .ok (.ior, 1) := by decide +kernel
theorem dX10_visit_186 : decode cX10_visit 186 = .ok (.putfield 179, 3) := by decide +kernel
theorem dX10_visit_189 : decode cX10_visit 189 = .ok (.aload_n 0, 1) := by decide +kernel
theorem dX10_visit_190 : decode cX10_visit 190 = .ok (.getfield 7, 3) := by decide +kernel
theorem dX10_visit_193 : decode cX10_visit 193 = .ok (.iload_n 1, 1) := by decide +kernel
theorem dX10_visit_194 : decode cX10_visit 194 = .ok (.bipush 16, 2) := by decide +kernel
theorem dX10_visit_196 : decode cX10_visit 196 = .ok (.iadd, 1) := by decide +kernel
theorem dX10_visit_197 : decode cX10_visit 197 = .ok (.dup2, 1) := by decide +kernel
theorem dX10_visit_198 : decode cX10_visit 198 = .ok (.iaload, 1) := by decide +kernel
theorem dX10_visit_199 : decode cX10_visit 199 = .ok (.iload 7, 2) := by decide +kernel
theorem dX10_visit_201 : decode cX10_visit 201 = .ok (.ifCond .ne 7, 3) := by decide +kernel
theorem dX10_visit_204 : decode cX10_visit 204 = .ok (.iconst 1, 1) := by decide +kernel
theorem dX10_visit_205 : decode cX10_visit 205 = .ok (.goto 4, 3) := by decide +kernel
theorem dX10_visit_208 : decode cX10_visit 208 = .ok (.iconst 0, 1) := by decide +kernel
theorem dX10_visit_209 : decode cX10_visit 209 = .ok (.invokestatic 160, 3) := by decide +kernel
theorem dX10_visit_212 : decode cX10_visit 212 = .ok (.iadd, 1) := by decide +kernel
theorem dX10_visit_213 : decode cX10_visit 213 = .ok (.iastore, 1) := by decide +kernel
theorem dX10_visit_214 : decode cX10_visit 214 = .ok (.iload 6, 2) := by decide +kernel
theorem dX10_visit_216 : decode cX10_visit 216 = .ok (.aload_n 0, 1) := by decide +kernel
theorem dX10_visit_217 : decode cX10_visit 217 = .ok (.getfield 17, 3) := by decide +kernel
theorem dX10_visit_220 : decode cX10_visit 220 = .ok (.iconst 2, 1) := by decide +kernel
theorem dX10_visit_221 : decode cX10_visit 221 = .ok (.iaload, 1) := by decide +kernel
theorem dX10_visit_222 : decode cX10_visit 222 = .ok (.iadd, 1) := by decide +kernel
theorem dX10_visit_223 : decode cX10_visit 223 = .ok (.ireturn, 1) := by decide +kernel
theorem dX10_roundIn_0 : decode cX10_roundIn 0 = .ok (.iconst 0, 1) := by decide +kernel
theorem dX10_roundIn_1 : decode cX10_roundIn 1 = .ok (.istore 4, 2) := by decide +kernel
theorem dX10_roundIn_3 : decode cX10_roundIn 3 = .ok (.iload 4, 2) := by decide +kernel
theorem dX10_roundIn_5 : decode cX10_roundIn 5 = .ok (.bipush 7, 2) := by decide +kernel
theorem dX10_roundIn_7 : decode cX10_roundIn 7 = .ok (.if_icmp .ge 17, 3) := by decide +kernel
theorem dX10_roundIn_10 : decode cX10_roundIn 10 = .ok (.aload_n 0, 1) := by decide +kernel
theorem dX10_roundIn_11 : decode cX10_roundIn 11 = .ok (.getfield 45, 3) := by decide +kernel
theorem dX10_roundIn_14 : decode cX10_roundIn 14 = .ok (.iload 4, 2) := by decide +kernel
theorem dX10_roundIn_16 : decode cX10_roundIn 16 = .ok (.iconst (-1), 1) := by decide +kernel
theorem dX10_roundIn_17 : decode cX10_roundIn 17 = .ok (.iastore, 1) := by decide +kernel
theorem dX10_roundIn_18 : decode cX10_roundIn 18 = .ok (.iinc 4 1, 3) := by decide +kernel
theorem dX10_roundIn_21 : decode cX10_roundIn 21 = .ok (.goto (-18), 3) := by decide +kernel
theorem dX10_roundIn_24 : decode cX10_roundIn 24 = .ok (.aload_n 0, 1) := by decide +kernel
theorem dX10_roundIn_25 : decode cX10_roundIn 25 = .ok (.iconst 0, 1) := by decide +kernel
theorem dX10_roundIn_26 : decode cX10_roundIn 26 = .ok (.putfield 176, 3) := by decide +kernel
theorem dX10_roundIn_29 : decode cX10_roundIn 29 = .ok (.aload_n 0, 1) := by decide +kernel
theorem dX10_roundIn_30 : decode cX10_roundIn 30 = .ok (.iconst 0, 1) := by decide +kernel
theorem dX10_roundIn_31 : decode cX10_roundIn 31 = .ok (.putfield 179, 3) := by decide +kernel
theorem dX10_roundIn_34 : decode cX10_roundIn 34 = .ok (.iconst 0, 1) := by decide +kernel
theorem dX10_roundIn_35 : decode cX10_roundIn 35 = .ok (.istore 4, 2) := by decide +kernel
theorem dX10_roundIn_37 : decode cX10_roundIn 37 = .ok (.iconst 0, 1) := by decide +kernel
theorem dX10_roundIn_38 : decode cX10_roundIn 38 = .ok (.istore 5, 2) := by decide +kernel
theorem dX10_roundIn_40 : decode cX10_roundIn 40 = .ok (.iconst 0, 1) := by decide +kernel
theorem dX10_roundIn_41 : decode cX10_roundIn 41 = .ok (.istore 6, 2) := by decide +kernel
theorem dX10_roundIn_43 : decode cX10_roundIn 43 = .ok (.iconst 0, 1) := by decide +kernel
theorem dX10_roundIn_44 : decode cX10_roundIn 44 = .ok (.istore 7, 2) := by decide +kernel
theorem dX10_roundIn_46 : decode cX10_roundIn 46 = .ok (.iload 7, 2) := by decide +kernel
theorem dX10_roundIn_48 : decode cX10_roundIn 48 = .ok (.iload_n 2, 1) := by decide +kernel
theorem dX10_roundIn_49 : decode cX10_roundIn 49 = .ok (.invokestatic 146, 3) := by decide +kernel
theorem dX10_roundIn_52 : decode cX10_roundIn 52 = .ok (.if_icmp .ge 120, 3) := by decide +kernel
theorem dX10_roundIn_55 : decode cX10_roundIn 55 = .ok (.iload_n 2, 1) := by decide +kernel
theorem dX10_roundIn_56 : decode cX10_roundIn 56 = .ok (.iload 7, 2) := by decide +kernel
theorem dX10_roundIn_58 : decode cX10_roundIn 58 = .ok (.invokestatic 182, 3) := by decide +kernel
theorem dX10_roundIn_61 : decode cX10_roundIn 61 = .ok (.istore 8, 2) := by decide +kernel
theorem dX10_roundIn_63 : decode cX10_roundIn 63 = .ok (.iload 4, 2) := by decide +kernel
theorem dX10_roundIn_65 : decode cX10_roundIn 65 = .ok (.aload_n 0, 1) := by decide +kernel
theorem dX10_roundIn_66 : decode cX10_roundIn 66 = .ok (.getfield 20, 3) := by decide +kernel
theorem dX10_roundIn_69 : decode cX10_roundIn 69 = .ok (.iload 8, 2) := by decide +kernel
theorem dX10_roundIn_71 : decode cX10_roundIn 71 = .ok (.iaload, 1) := by decide +kernel
theorem dX10_roundIn_72 : decode cX10_roundIn 72 = .ok (.iload 5, 2) := by decide +kernel
theorem dX10_roundIn_74 : decode cX10_roundIn 74 = .ok (.invokestatic 185, 3) := by decide +kernel
theorem dX10_roundIn_77 : decode cX10_roundIn 77 = .ok (.aload_n 0, 1) := by decide +kernel
theorem dX10_roundIn_78 : decode cX10_roundIn 78 = .ok (.getfield 17, 3) := by decide +kernel
theorem dX10_roundIn_81 : decode cX10_roundIn 81 = .ok (.iconst 1, 1) := by decide +kernel
theorem dX10_roundIn_82 : decode cX10_roundIn 82 = .ok (.iaload, 1) := by decide +kernel
theorem dX10_roundIn_83 : decode cX10_roundIn 83 = .ok (.imul, 1) := by decide +kernel
theorem dX10_roundIn_84 : decode cX10_roundIn 84 = .ok (.iadd, 1) := by decide +kernel
theorem dX10_roundIn_85 : decode cX10_roundIn 85 = .ok (.istore 4, 2) := by decide +kernel
theorem dX10_roundIn_87 : decode cX10_roundIn 87 = .ok (.aload_n 0, 1) := by decide +kernel
theorem dX10_roundIn_88 : decode cX10_roundIn 88 = .ok (.getfield 20, 3) := by decide +kernel
theorem dX10_roundIn_91 : decode cX10_roundIn 91 = .ok (.iload 8, 2) := by decide +kernel
theorem dX10_roundIn_93 : decode cX10_roundIn 93 = .ok (.iaload, 1) := by decide +kernel
theorem dX10_roundIn_94 : decode cX10_roundIn 94 = .ok (.istore 5, 2) := by decide +kernel
theorem dX10_roundIn_96 : decode cX10_roundIn 96 = .ok (.aload_n 0, 1) := by decide +kernel
theorem dX10_roundIn_97 : decode cX10_roundIn 97 = .ok (.getfield 45, 3) := by decide +kernel
theorem dX10_roundIn_100 : decode cX10_roundIn 100 = .ok (.iload 8, 2) := by decide +kernel
theorem dX10_roundIn_102 : decode cX10_roundIn 102 = .ok (.iload 4, 2) := by decide +kernel
theorem dX10_roundIn_104 : decode cX10_roundIn 104 = .ok (.iastore, 1) := by decide +kernel
theorem dX10_roundIn_105 : decode cX10_roundIn 105 = .ok (.aload_n 0, 1) := by decide +kernel
theorem dX10_roundIn_106 : decode cX10_roundIn 106 = .ok (.getfield 7, 3) := by decide +kernel
theorem dX10_roundIn_109 : decode cX10_roundIn 109 = .ok (.iload_n 1, 1) := by decide +kernel
theorem dX10_roundIn_110 : decode cX10_roundIn 110 = .ok (.iload 8, 2) := by decide +kernel
theorem dX10_roundIn_112 : decode cX10_roundIn 112 = .ok (.iadd, 1) := by decide +kernel
theorem dX10_roundIn_113 : decode cX10_roundIn 113 = .ok (.iaload, 1) := by decide +kernel
theorem dX10_roundIn_114 : decode cX10_roundIn 114 = .ok (.iconst 1, 1) := by decide +kernel
theorem dX10_roundIn_115 : decode cX10_roundIn 115 = .ok (.if_icmp .eq 16, 3) := by decide +kernel
theorem dX10_roundIn_118 : decode cX10_roundIn 118 = .ok (.aload_n 0, 1) := by decide +kernel
theorem dX10_roundIn_119 : decode cX10_roundIn 119 = .ok (.getfield 7, 3) := by decide +kernel
theorem dX10_roundIn_122 : decode cX10_roundIn 122 = .ok (.iload_n 1, 1) := by decide +kernel
theorem dX10_roundIn_123 : decode cX10_roundIn 123 = .ok (.iload 8, 2) := by decide +kernel
theorem dX10_roundIn_125 : decode cX10_roundIn 125 = .ok (.iadd, 1) := by decide +kernel
theorem dX10_roundIn_126 : decode cX10_roundIn 126 = .ok (.iaload, 1) := by decide +kernel
theorem dX10_roundIn_127 : decode cX10_roundIn 127 = .ok (.iconst 4, 1) := by decide +kernel
theorem dX10_roundIn_128 : decode cX10_roundIn 128 = .ok (.if_icmp .ne 38, 3) := by decide +kernel
theorem dX10_roundIn_131 : decode cX10_roundIn 131 = .ok (.iinc 6 1, 3) := by decide +kernel
theorem dX10_roundIn_134 : decode cX10_roundIn 134 = .ok (.iload 4, 2) := by decide +kernel
theorem dX10_roundIn_136 : decode cX10_roundIn 136 = .ok (.aload_n 0, 1) := by decide +kernel
theorem dX10_roundIn_137 : decode cX10_roundIn 137 = .ok (.iload_n 1, 1) := by decide +kernel
theorem dX10_roundIn_138 : decode cX10_roundIn 138 = .ok (.iload 8, 2) := by decide +kernel
theorem dX10_roundIn_140 : decode cX10_roundIn 140 = .ok (.iload 4, 2) := by decide +kernel
theorem dX10_roundIn_142 : decode cX10_roundIn 142 = .ok (.iload_n 3, 1) := by decide +kernel
theorem dX10_roundIn_143 : decode cX10_roundIn 143 = .ok (.ifCond .eq 12, 3) := by decide +kernel
theorem dX10_roundIn_146 : decode cX10_roundIn 146 = .ok (.iload 6, 2) := by decide +kernel
theorem dX10_roundIn_148 : decode cX10_roundIn 148 = .ok (.iconst 5, 1) := by decide +kernel
theorem dX10_roundIn_149 : decode cX10_roundIn 149 = .ok (.iload_n 3, 1) := by decide +kernel
theorem dX10_roundIn_150 : decode cX10_roundIn 150 = .ok (.isub, 1) := by decide +kernel
theorem dX10_roundIn_151 : decode cX10_roundIn 151 = .ok (.irem, 1) := by decide +kernel
theorem dX10_roundIn_152 : decode cX10_roundIn 152 = .ok (.ifCond .eq 7, 3) := by decide +kernel
theorem dX10_roundIn_155 : decode cX10_roundIn 155 = .ok (.iconst 1, 1) := by decide +kernel
theorem dX10_roundIn_156 : decode cX10_roundIn 156 = .ok (.goto 4, 3) := by decide +kernel
theorem dX10_roundIn_159 : decode cX10_roundIn 159 = .ok (.iconst 0, 1) := by decide +kernel
theorem dX10_roundIn_160 : decode cX10_roundIn 160 = .ok (.invokevirtual 188, 3) := by decide +kernel
theorem dX10_roundIn_163 : decode cX10_roundIn 163 = .ok (.iadd, 1) := by decide +kernel
theorem dX10_roundIn_164 : decode cX10_roundIn 164 = .ok (.istore 4, 2) := by decide +kernel
theorem dX10_roundIn_166 : decode cX10_roundIn 166 = .ok (.iinc 7 1, 3) := by decide +kernel
theorem dX10_roundIn_169 : decode cX10_roundIn 169 = .ok (.goto (-123), 3) := by decide +kernel
theorem dX10_roundIn_172 : decode cX10_roundIn 172 = .ok (.iload 4, 2) := by decide +kernel
theorem dX10_roundIn_174 : decode cX10_roundIn 174 = .ok (.iload 5, 2) := by decide +kernel
theorem dX10_roundIn_176 : decode cX10_roundIn 176 = .ok (.aload_n 0, 1) := by decide +kernel
theorem dX10_roundIn_177 : decode cX10_roundIn 177 = .ok (.getfield 17, 3) := by decide +kernel
theorem dX10_roundIn_180 : decode cX10_roundIn 180 = .ok (.iconst 1, 1) := by decide +kernel
theorem dX10_roundIn_181 : decode cX10_roundIn 181 = .ok (.iaload, 1) := by decide +kernel
theorem dX10_roundIn_182 : decode cX10_roundIn 182 = .ok (.imul, 1) := by decide +kernel
theorem dX10_roundIn_183 : decode cX10_roundIn 183 = .ok (.iadd, 1) := by decide +kernel
theorem dX10_roundIn_184 : decode cX10_roundIn 184 = .ok (.istore 4, 2) := by decide +kernel
theorem dX10_roundIn_186 : decode cX10_roundIn 186 = .ok (.aload_n 0, 1) := by decide +kernel
theorem dX10_roundIn_187 : decode cX10_roundIn 187 = .ok (.getfield 7, 3) := by decide +kernel
theorem dX10_roundIn_190 : decode cX10_roundIn 190 = .ok (.iload_n 1, 1) := by decide +kernel
theorem dX10_roundIn_191 : decode cX10_roundIn 191 = .ok (.bipush 14, 2) := by decide +kernel
theorem dX10_roundIn_193 : decode cX10_roundIn 193 = .ok (.iadd, 1) := by decide +kernel
theorem dX10_roundIn_194 : decode cX10_roundIn 194 = .ok (.dup2, 1) := by decide +kernel
theorem dX10_roundIn_195 : decode cX10_roundIn 195 = .ok (.iaload, 1) := by decide +kernel
theorem dX10_roundIn_196 : decode cX10_roundIn 196 = .ok (.iconst 1, 1) := by decide +kernel
theorem dX10_roundIn_197 : decode cX10_roundIn 197 = .ok (.iadd, 1) := by decide +kernel
theorem dX10_roundIn_198 : decode cX10_roundIn 198 = .ok (.iastore, 1) := by decide +kernel
theorem dX10_roundIn_199 : decode cX10_roundIn 199 = .ok (.aload_n 0, 1) := by decide +kernel
theorem dX10_roundIn_200 : decode cX10_roundIn 200 = .ok (.getfield 7, 3) := by decide +kernel
theorem dX10_roundIn_203 : decode cX10_roundIn 203 = .ok (.iload_n 1, 1) := by decide +kernel
theorem dX10_roundIn_204 : decode cX10_roundIn 204 = .ok (.bipush 15, 2) := by decide +kernel
theorem dX10_roundIn_206 : decode cX10_roundIn 206 = .ok (.iadd, 1) := by decide +kernel
theorem dX10_roundIn_207 : decode cX10_roundIn 207 = .ok (.dup2, 1) := by decide +kernel
theorem dX10_roundIn_208 : decode cX10_roundIn 208 = .ok (.iaload, 1) := by decide +kernel
theorem dX10_roundIn_209 : decode cX10_roundIn 209 = .ok (.iload 4, 2) := by decide +kernel
theorem dX10_roundIn_211 : decode cX10_roundIn 211 = .ok (.iadd, 1) := by decide +kernel
theorem dX10_roundIn_212 : decode cX10_roundIn 212 = .ok (.iastore, 1) := by decide +kernel
theorem dX10_roundIn_213 : decode cX10_roundIn 213 = .ok (.iload 4, 2) := by decide +kernel
theorem dX10_roundIn_215 : decode cX10_roundIn 215 = .ok (.ireturn, 1) := by decide +kernel
theorem dX10_tryRound_0 : decode cX10_tryRound 0 = .ok (.aload_n 0, 1) := by decide +kernel
theorem dX10_tryRound_1 : decode cX10_tryRound 1 = .ok (.iconst 0, 1) := by decide +kernel
theorem dX10_tryRound_2 : decode cX10_tryRound 2 = .ok (.bipush 18, 2) := by decide +kernel
theorem dX10_tryRound_4 : decode cX10_tryRound 4 = .ok (.invokevirtual 192, 3) := by decide +kernel
theorem dX10_tryRound_7 : decode cX10_tryRound 7 = .ok (.aload_n 0, 1) := by decide +kernel
theorem dX10_tryRound_8 : decode cX10_tryRound 8 = .ok (.bipush 18, 2) := by decide +kernel
theorem dX10_tryRound_10 : decode cX10_tryRound 10 = .ok (.iload_n 1, 1) := by decide +kernel
theorem dX10_tryRound_11 : decode cX10_tryRound 11 = .ok (.iload_n 2, 1) := by decide +kernel
theorem dX10_tryRound_12 : decode cX10_tryRound 12 = .ok (.invokevirtual 196, 3) := by decide +kernel
theorem dX10_tryRound_15 : decode cX10_tryRound 15 = .ok (.ireturn, 1) := by decide +kernel
theorem dX10_copy_0 : decode cX10_copy 0 = .ok (.iconst 0, 1) := by decide +kernel
theorem dX10_copy_1 : decode cX10_copy 1 = .ok (.istore_n 3, 1) := by decide +kernel
theorem dX10_copy_2 : decode cX10_copy 2 = .ok (.iload_n 3, 1) := by decide +kernel
theorem dX10_copy_3 : decode cX10_copy 3 = .ok (.bipush 18, 2) := by decide +kernel
theorem dX10_copy_5 : decode cX10_copy 5 = .ok (.if_icmp .ge 25, 3) := by decide +kernel
theorem dX10_copy_8 : decode cX10_copy 8 = .ok (.aload_n 0, 1) := by decide +kernel
theorem dX10_copy_9 : decode cX10_copy 9 = .ok (.getfield 7, 3) := by decide +kernel
theorem dX10_copy_12 : decode cX10_copy 12 = .ok (.iload_n 2, 1) := by decide +kernel
theorem dX10_copy_13 : decode cX10_copy 13 = .ok (.iload_n 3, 1) := by decide +kernel
theorem dX10_copy_14 : decode cX10_copy 14 = .ok (.iadd, 1) := by decide +kernel
theorem dX10_copy_15 : decode cX10_copy 15 = .ok (.aload_n 0, 1) := by decide +kernel
theorem dX10_copy_16 : decode cX10_copy 16 = .ok (.getfield 7, 3) := by decide +kernel
theorem dX10_copy_19 : decode cX10_copy 19 = .ok (.iload_n 1, 1) := by decide +kernel
theorem dX10_copy_20 : decode cX10_copy 20 = .ok (.iload_n 3, 1) := by decide +kernel
theorem dX10_copy_21 : decode cX10_copy 21 = .ok (.iadd, 1) := by decide +kernel
theorem dX10_copy_22 : decode cX10_copy 22 = .ok (.iaload, 1) := by decide +kernel
theorem dX10_copy_23 : decode cX10_copy 23 = .ok (.iastore, 1) := by decide +kernel
theorem dX10_copy_24 : decode cX10_copy 24 = .ok (.iinc 3 1, 3) := by decide +kernel
theorem dX10_copy_27 : decode cX10_copy 27 = .ok (.goto (-25), 3) := by decide +kernel
theorem dX10_copy_30 : decode cX10_copy 30 = .ok (.return_, 1) := by decide +kernel
theorem dX10_remember_0 : decode cX10_remember 0 = .ok (.aload_n 0, 1) := by decide +kernel
theorem dX10_remember_1 : decode cX10_remember 1 = .ok (.getfield 143, 3) := by decide +kernel
theorem dX10_remember_4 : decode cX10_remember 4 = .ok (.bipush 30, 2) := by decide +kernel
theorem dX10_remember_6 : decode cX10_remember 6 = .ok (.if_icmp .ne 47, 3) := by decide +kernel
theorem dX10_remember_9 : decode cX10_remember 9 = .ok (.iconst 1, 1) := by decide +kernel
theorem dX10_remember_10 : decode cX10_remember 10 = .ok (.istore_n 1, 1) := by decide +kernel
theorem dX10_remember_11 : decode cX10_remember 11 = .ok (.iload_n 1, 1) := by decide +kernel
theorem dX10_remember_12 : decode cX10_remember 12 = .ok (.bipush 30, 2) := by decide +kernel
theorem dX10_remember_14 : decode cX10_remember 14 = .ok (.if_icmp .ge 29, 3) := by decide +kernel
theorem dX10_remember_17 : decode cX10_remember 17 = .ok (.aload_n 0, 1) := by decide +kernel
theorem dX10_remember_18 : decode cX10_remember 18 = .ok (.bipush 72, 2) := by decide +kernel
theorem dX10_remember_20 : decode cX10_remember 20 = .ok (.bipush 18, 2) := by decide +kernel
theorem dX10_remember_22 : decode cX10_remember 22 = .ok (.iload_n 1, 1) := by decide +kernel
theorem dX10_remember_23 : decode cX10_remember 23 = .ok (.imul, 1) := by decide +kernel
theorem dX10_remember_24 : decode cX10_remember 24 = .ok (.iadd, 1) := by decide +kernel
theorem dX10_remember_25 : decode cX10_remember 25 = .ok (.bipush 72, 2) := by decide +kernel
theorem dX10_remember_27 : decode cX10_remember 27 = .ok (.bipush 18, 2) := by decide +kernel
theorem dX10_remember_29 : decode cX10_remember 29 = .ok (.iload_n 1, 1) := by decide +kernel
theorem dX10_remember_30 : decode cX10_remember 30 = .ok (.iconst 1, 1) := by decide +kernel
theorem dX10_remember_31 : decode cX10_remember 31 = .ok (.isub, 1) := by decide +kernel
theorem dX10_remember_32 : decode cX10_remember 32 = .ok (.imul, 1) := by decide +kernel
theorem dX10_remember_33 : decode cX10_remember 33 = .ok (.iadd, 1) := by decide +kernel
theorem dX10_remember_34 : decode cX10_remember 34 = .ok (.invokevirtual 192, 3) := by decide +kernel
theorem dX10_remember_37 : decode cX10_remember 37 = .ok (.iinc 1 1, 3) := by decide +kernel
theorem dX10_remember_40 : decode cX10_remember 40 = .ok (.goto (-29), 3) := by decide +kernel
theorem dX10_remember_43 : decode cX10_remember 43 = .ok (.aload_n 0, 1) := by decide +kernel
theorem dX10_remember_44 : decode cX10_remember 44 = .ok (.dup, 1) := by decide +kernel
theorem dX10_remember_45 : decode cX10_remember 45 = .ok (.getfield 143, 3) := by decide +kernel
theorem dX10_remember_48 : decode cX10_remember 48 = .ok (.iconst 1, 1) := by decide +kernel
theorem dX10_remember_49 : decode cX10_remember 49 = .ok (.isub, 1) := by decide +kernel
theorem dX10_remember_50 : decode cX10_remember 50 = .ok (.putfield 143, 3) := by decide +kernel
theorem dX10_remember_53 : decode cX10_remember 53 = .ok (.aload_n 0, 1) := by decide +kernel
theorem dX10_remember_54 : decode cX10_remember 54 = .ok (.iconst 0, 1) := by decide +kernel
theorem dX10_remember_55 : decode cX10_remember 55 = .ok (.bipush 72, 2) := by decide +kernel
theorem dX10_remember_57 : decode cX10_remember 57 = .ok (.bipush 18, 2) := by decide +kernel
theorem dX10_remember_59 : decode cX10_remember 59 = .ok (.aload_n 0, 1) := by decide +kernel
theorem dX10_remember_60 : decode cX10_remember 60 = .ok (.getfield 143, 3) := by decide +kernel
theorem dX10_remember_63 : decode cX10_remember 63 = .ok (.imul, 1) := by decide +kernel
theorem dX10_remember_64 : decode cX10_remember 64 = .ok (.iadd, 1) := by decide +kernel
theorem dX10_remember_65 : decode cX10_remember 65 = .ok (.invokevirtual 192, 3) := by decide +kernel
theorem dX10_remember_68 : decode cX10_remember 68 = .ok (.aload_n 0, 1) := by decide +kernel
theorem dX10_remember_69 : decode cX10_remember 69 = .ok (.dup, 1) := by decide +kernel
theorem dX10_remember_70 : decode cX10_remember 70 = .ok (.getfield 143, 3) := by decide +kernel
theorem dX10_remember_73 : decode cX10_remember 73 = .ok (.iconst 1, 1) := by decide +kernel
theorem dX10_remember_74 : decode cX10_remember 74 = .ok (.iadd, 1) := by decide +kernel
theorem dX10_remember_75 : decode cX10_remember 75 = .ok (.putfield 143, 3) := by decide +kernel
theorem dX10_remember_78 : decode cX10_remember 78 = .ok (.return_, 1) := by decide +kernel
theorem dX10_round_0 : decode cX10_round 0 = .ok (.aload_n 0, 1) := by decide +kernel
theorem dX10_round_1 : decode cX10_round 1 = .ok (.iload_n 1, 1) := by decide +kernel
theorem dX10_round_2 : decode cX10_round 2 = .ok (.invokevirtual 200, 3) := by decide +kernel
theorem dX10_round_5 : decode cX10_round 5 = .ok (.ifCond .ne 6, 3) := by decide +kernel
theorem dX10_round_8 : decode cX10_round 8 = .ok (.ldc 167, 2) := by decide +kernel
theorem dX10_round_10 : decode cX10_round 10 = .ok (.ireturn, 1) := by decide +kernel
theorem dX10_round_11 : decode cX10_round 11 = .ok (.iload_n 2, 1) := by decide +kernel
theorem dX10_round_12 : decode cX10_round 12 = .ok (.invokestatic 203, 3) := by decide +kernel
theorem dX10_round_15 : decode cX10_round 15 = .ok (.ifCond .ne 6, 3) := by decide +kernel
theorem dX10_round_18 : decode cX10_round 18 = .ok (.ldc 72, 2) := by decide +kernel
theorem dX10_round_20 : decode cX10_round 20 = .ok (.ireturn, 1) := by decide +kernel
theorem dX10_round_21 : decode cX10_round 21 = .ok (.aload_n 0, 1) := by decide +kernel
theorem dX10_round_22 : decode cX10_round 22 = .ok (.getfield 7, 3) := by decide +kernel
theorem dX10_round_25 : decode cX10_round 25 = .ok (.bipush 14, 2) := by decide +kernel
theorem dX10_round_27 : decode cX10_round 27 = .ok (.iaload, 1) := by decide +kernel
theorem dX10_round_28 : decode cX10_round 28 = .ok (.sipush 9000, 3) := by decide +kernel
theorem dX10_round_31 : decode cX10_round 31 = .ok (.if_icmp .le 6, 3) := by decide +kernel
theorem dX10_round_34 : decode cX10_round 34 = .ok (.ldc 76, 2) := by decide +kernel
theorem dX10_round_36 : decode cX10_round 36 = .ok (.ireturn, 1) := by decide +kernel
theorem dX10_round_37 : decode cX10_round 37 = .ok (.aload_n 0, 1) := by decide +kernel
theorem dX10_round_38 : decode cX10_round 38 = .ok (.invokevirtual 206, 3) := by decide +kernel
theorem dX10_round_41 : decode cX10_round 41 = .ok (.aload_n 0, 1) := by decide +kernel
theorem dX10_round_42 : decode cX10_round 42 = .ok (.iconst 0, 1) := by decide +kernel
theorem dX10_round_43 : decode cX10_round 43 = .ok (.iload_n 1, 1) := by decide +kernel
theorem dX10_round_44 : decode cX10_round 44 = .ok (.iload_n 2, 1) := by decide +kernel
theorem dX10_round_45 : decode cX10_round 45 = .ok (.invokevirtual 196, 3) := by decide +kernel
theorem dX10_round_48 : decode cX10_round 48 = .ok (.ireturn, 1) := by decide +kernel
theorem dX10_fetch_0 : decode cX10_fetch 0 = .ok (.aload_n 0, 1) := by decide +kernel
theorem dX10_fetch_1 : decode cX10_fetch 1 = .ok (.iload_n 1, 1) := by decide +kernel
theorem dX10_fetch_2 : decode cX10_fetch 2 = .ok (.invokevirtual 150, 3) := by decide +kernel
theorem dX10_fetch_5 : decode cX10_fetch 5 = .ok (.ifCond .ne 6, 3) := by decide +kernel
theorem dX10_fetch_8 : decode cX10_fetch 8 = .ok (.ldc 167, 2) := by decide +kernel
theorem dX10_fetch_10 : decode cX10_fetch 10 = .ok (.ireturn, 1) := by decide +kernel
theorem dX10_fetch_11 : decode cX10_fetch 11 = .ok (.aload_n 0, 1) := by decide +kernel
theorem dX10_fetch_12 : decode cX10_fetch 12 = .ok (.getfield 7, 3) := by decide +kernel
theorem dX10_fetch_15 : decode cX10_fetch 15 = .ok (.iload_n 1, 1) := by decide +kernel
theorem dX10_fetch_16 : decode cX10_fetch 16 = .ok (.iaload, 1) := by decide +kernel
theorem dX10_fetch_17 : decode cX10_fetch 17 = .ok (.iconst 3, 1) := by decide +kernel
theorem dX10_fetch_18 : decode cX10_fetch 18 = .ok (.if_icmp .eq 16, 3) := by decide +kernel
theorem dX10_fetch_21 : decode cX10_fetch 21 = .ok (.aload_n 0, 1) := by decide +kernel
theorem dX10_fetch_22 : decode cX10_fetch 22 = .ok (.getfield 7, 3) := by decide +kernel
theorem dX10_fetch_25 : decode cX10_fetch 25 = .ok (.iload_n 1, 1) := by decide +kernel
theorem dX10_fetch_26 : decode cX10_fetch 26 = .ok (.iaload, 1) := by decide +kernel
theorem dX10_fetch_27 : decode cX10_fetch 27 = .ok (.iconst 4, 1) := by decide +kernel
theorem dX10_fetch_28 : decode cX10_fetch 28 = .ok (.if_icmp .eq 6, 3) := by decide +kernel
theorem dX10_fetch_31 : decode cX10_fetch 31 = .ok (.ldc 209, 2) := by decide +kernel
theorem dX10_fetch_33 : decode cX10_fetch 33 = .ok (.ireturn, 1) := by decide +kernel
theorem dX10_fetch_34 : decode cX10_fetch 34 = .ok (.aload_n 0, 1) := by decide +kernel
theorem dX10_fetch_35 : decode cX10_fetch 35 = .ok (.invokevirtual 206, 3) := by decide +kernel
theorem dX10_fetch_38 : decode cX10_fetch 38 = .ok (.aload_n 0, 1) := by decide +kernel
theorem dX10_fetch_39 : decode cX10_fetch 39 = .ok (.getfield 7, 3) := by decide +kernel
theorem dX10_fetch_42 : decode cX10_fetch 42 = .ok (.iload_n 1, 1) := by decide +kernel
theorem dX10_fetch_43 : decode cX10_fetch 43 = .ok (.iaload, 1) := by decide +kernel
theorem dX10_fetch_44 : decode cX10_fetch 44 = .ok (.iconst 3, 1) := by decide +kernel
theorem dX10_fetch_45 : decode cX10_fetch 45 = .ok (.if_icmp .ne 7, 3) := by decide +kernel
theorem dX10_fetch_48 : decode cX10_fetch 48 = .ok (.iconst 1, 1) := by decide +kernel
theorem dX10_fetch_49 : decode cX10_fetch 49 = .ok (.goto 4, 3) := by decide +kernel
theorem dX10_fetch_52 : decode cX10_fetch 52 = .ok (.iconst 0, 1) := by decide +kernel
theorem dX10_fetch_53 : decode cX10_fetch 53 = .ok (.invokestatic 160, 3) := by decide +kernel
theorem dX10_fetch_56 : decode cX10_fetch 56 = .ok (.istore_n 2, 1) := by decide +kernel
theorem dX10_fetch_57 : decode cX10_fetch 57 = .ok (.aload_n 0, 1) := by decide +kernel
theorem dX10_fetch_58 : decode cX10_fetch 58 = .ok (.getfield 7, 3) := by decide +kernel
theorem dX10_fetch_61 : decode cX10_fetch 61 = .ok (.iload_n 1, 1) := by decide +kernel
theorem dX10_fetch_62 : decode cX10_fetch 62 = .ok (.iconst 2, 1) := by decide +kernel
theorem dX10_fetch_63 : decode cX10_fetch 63 = .ok (.iastore, 1) := by decide +kernel
theorem dX10_fetch_64 : decode cX10_fetch 64 = .ok (.iload_n 2, 1) := by decide +kernel
theorem dX10_fetch_65 : decode cX10_fetch 65 = .ok (.ireturn, 1) := by decide +kernel
theorem dX10_order_0 : decode cX10_order 0 = .ok (.aload_n 0, 1) := by decide +kernel
theorem dX10_order_1 : decode cX10_order 1 = .ok (.iload_n 1, 1) := by decide +kernel
theorem dX10_order_2 : decode cX10_order 2 = .ok (.invokevirtual 150, 3) := by decide +kernel
theorem dX10_order_5 : decode cX10_order 5 = .ok (.ifCond .ne 6, 3) := by decide +kernel
theorem dX10_order_8 : decode cX10_order 8 = .ok (.ldc 167, 2) := by decide +kernel
theorem dX10_order_10 : decode cX10_order 10 = .ok (.ireturn, 1) := by decide +kernel
theorem dX10_order_11 : decode cX10_order 11 = .ok (.aload_n 0, 1) := by decide +kernel
theorem dX10_order_12 : decode cX10_order 12 = .ok (.getfield 7, 3) := by decide +kernel
theorem dX10_order_15 : decode cX10_order 15 = .ok (.iload_n 1, 1) := by decide +kernel
theorem dX10_order_16 : decode cX10_order 16 = .ok (.iaload, 1) := by decide +kernel
theorem dX10_order_17 : decode cX10_order 17 = .ok (.iconst 2, 1) := by decide +kernel
theorem dX10_order_18 : decode cX10_order 18 = .ok (.if_icmp .eq 6, 3) := by decide +kernel
theorem dX10_order_21 : decode cX10_order 21 = .ok (.ldc 209, 2) := by decide +kernel
theorem dX10_order_23 : decode cX10_order 23 = .ok (.ireturn, 1) := by decide +kernel
theorem dX10_order_24 : decode cX10_order 24 = .ok (.aload_n 0, 1) := by decide +kernel
theorem dX10_order_25 : decode cX10_order 25 = .ok (.invokevirtual 206, 3) := by decide +kernel
theorem dX10_order_28 : decode cX10_order 28 = .ok (.aload_n 0, 1) := by decide +kernel
theorem dX10_order_29 : decode cX10_order 29 = .ok (.getfield 7, 3) := by decide +kernel
theorem dX10_order_32 : decode cX10_order 32 = .ok (.iload_n 1, 1) := by decide +kernel
theorem dX10_order_33 : decode cX10_order 33 = .ok (.iconst 1, 1) := by decide +kernel
theorem dX10_order_34 : decode cX10_order 34 = .ok (.iastore, 1) := by decide +kernel
theorem dX10_order_35 : decode cX10_order 35 = .ok (.iconst 1, 1) := by decide +kernel
theorem dX10_order_36 : decode cX10_order 36 = .ok (.ireturn, 1) := by decide +kernel
theorem dX10_thank_0 : decode cX10_thank 0 = .ok (.aload_n 0, 1) := by decide +kernel
theorem dX10_thank_1 : decode cX10_thank 1 = .ok (.iload_n 1, 1) := by decide +kernel
theorem dX10_thank_2 : decode cX10_thank 2 = .ok (.invokevirtual 150, 3) := by decide +kernel
theorem dX10_thank_5 : decode cX10_thank 5 = .ok (.ifCond .ne 6, 3) := by decide +kernel
theorem dX10_thank_8 : decode cX10_thank 8 = .ok (.ldc 167, 2) := by decide +kernel
theorem dX10_thank_10 : decode cX10_thank 10 = .ok (.ireturn, 1) := by decide +kernel
theorem dX10_thank_11 : decode cX10_thank 11 = .ok (.aload_n 0, 1) := by decide +kernel
theorem dX10_thank_12 : decode cX10_thank 12 = .ok (.getfield 29, 3) := by decide +kernel
theorem dX10_thank_15 : decode cX10_thank 15 = .ok (.iload_n 1, 1) := by decide +kernel
theorem dX10_thank_16 : decode cX10_thank 16 = .ok (.iaload, 1) := by decide +kernel
theorem dX10_thank_17 : decode cX10_thank 17 = .ok (.iconst (-1), 1) := by decide +kernel
theorem dX10_thank_18 : decode cX10_thank 18 = .ok (.if_icmp .ne 6, 3) := by decide +kernel
theorem dX10_thank_21 : decode cX10_thank 21 = .ok (.ldc 209, 2) := by decide +kernel
theorem dX10_thank_23 : decode cX10_thank 23 = .ok (.ireturn, 1) := by decide +kernel
theorem dX10_thank_24 : decode cX10_thank 24 = .ok (.aload_n 0, 1) := by decide +kernel
theorem dX10_thank_25 : decode cX10_thank 25 = .ok (.invokevirtual 206, 3) := by decide +kernel
theorem dX10_thank_28 : decode cX10_thank 28 = .ok (.aload_n 0, 1) := by decide +kernel
theorem dX10_thank_29 : decode cX10_thank 29 = .ok (.getfield 7, 3) := by decide +kernel
theorem dX10_thank_32 : decode cX10_thank 32 = .ok (.bipush 7, 2) := by decide +kernel
theorem dX10_thank_34 : decode cX10_thank 34 = .ok (.iload_n 1, 1) := by decide +kernel
theorem dX10_thank_35 : decode cX10_thank 35 = .ok (.iadd, 1) := by decide +kernel
theorem dX10_thank_36 : decode cX10_thank 36 = .ok (.iaload, 1) := by decide +kernel
theorem dX10_thank_37 : decode cX10_thank 37 = .ok (.istore_n 2, 1) := by decide +kernel
theorem dX10_thank_38 : decode cX10_thank 38 = .ok (.aload_n 0, 1) := by decide +kernel
theorem dX10_thank_39 : decode cX10_thank 39 = .ok (.getfield 7, 3) := by decide +kernel
theorem dX10_thank_42 : decode cX10_thank 42 = .ok (.bipush 7, 2) := by decide +kernel
theorem dX10_thank_44 : decode cX10_thank 44 = .ok (.iload_n 1, 1) := by decide +kernel
theorem dX10_thank_45 : decode cX10_thank 45 = .ok (.iadd, 1) := by decide +kernel
theorem dX10_thank_46 : decode cX10_thank 46 = .ok (.iconst 0, 1) := by decide +kernel
theorem dX10_thank_47 : decode cX10_thank 47 = .ok (.iastore, 1) := by decide +kernel
theorem dX10_thank_48 : decode cX10_thank 48 = .ok (.iload_n 2, 1) := by decide +kernel
theorem dX10_thank_49 : decode cX10_thank 49 = .ok (.ireturn, 1) := by decide +kernel
theorem dX10_draw_0 : decode cX10_draw 0 = .ok (.aload_n 0, 1) := by decide +kernel
theorem dX10_draw_1 : decode cX10_draw 1 = .ok (.getfield 7, 3) := by decide +kernel
theorem dX10_draw_4 : decode cX10_draw 4 = .ok (.bipush 17, 2) := by decide +kernel
theorem dX10_draw_6 : decode cX10_draw 6 = .ok (.aload_n 0, 1) := by decide +kernel
theorem dX10_draw_7 : decode cX10_draw 7 = .ok (.getfield 7, 3) := by decide +kernel
theorem dX10_draw_10 : decode cX10_draw 10 = .ok (.bipush 17, 2) := by decide +kernel
theorem dX10_draw_12 : decode cX10_draw 12 = .ok (.iaload, 1) := by decide +kernel
theorem dX10_draw_13 : decode cX10_draw 13 = .ok (.i2l, 1) := by decide +kernel
theorem dX10_draw_14 : decode cX10_draw 14 = .ok (.ldc2_w 210, 3) := by decide +kernel
theorem dX10_draw_17 : decode cX10_draw 17 = .ok (.lmul, 1) := by decide +kernel
theorem dX10_draw_18 : decode cX10_draw 18 = .ok (.ldc2_w 212, 3) := by decide +kernel
theorem dX10_draw_21 : decode cX10_draw 21 = .ok (.ladd, 1) := by decide +kernel
theorem dX10_draw_22 : decode cX10_draw 22 = .ok (.ldc2_w 214, 3) := by decide +kernel
theorem dX10_draw_25 : decode cX10_draw 25 = .ok (.lrem, 1) := by decide +kernel
theorem dX10_draw_26 : decode cX10_draw 26 = .ok (.l2i, 1) := by decide +kernel
theorem dX10_draw_27 : decode cX10_draw 27 = .ok (.iastore, 1) := by decide +kernel
theorem dX10_draw_28 : decode cX10_draw 28 = .ok (.aload_n 0, 1) := by decide +kernel
theorem dX10_draw_29 : decode cX10_draw 29 = .ok (.getfield 7, 3) := by decide +kernel
theorem dX10_draw_32 : decode cX10_draw 32 = .ok (.bipush 17, 2) := by decide +kernel
theorem dX10_draw_34 : decode cX10_draw 34 = .ok (.iaload, 1) := by decide +kernel
theorem dX10_draw_35 : decode cX10_draw 35 = .ok (.ldc 216, 2) := by decide +kernel
theorem dX10_draw_37 : decode cX10_draw 37 = .ok (.idiv, 1) := by decide +kernel
theorem dX10_draw_38 : decode cX10_draw 38 = .ok (.iload_n 1, 1) := by decide +kernel
theorem dX10_draw_39 : decode cX10_draw 39 = .ok (.irem, 1) := by decide +kernel
theorem dX10_draw_40 : decode cX10_draw 40 = .ok (.ireturn, 1) := by decide +kernel
theorem dX10_drift_0 : decode cX10_drift 0 = .ok (.iload_n 1, 1) := by decide +kernel
theorem dX10_drift_1 : decode cX10_drift 1 = .ok (.i2l, 1) := by decide +kernel
theorem dX10_drift_2 : decode cX10_drift 2 = .ok (.lconst 1, 1) := by decide +kernel
theorem dX10_drift_3 : decode cX10_drift 3 = .ok (.ldc2_w 217, 3) := by decide +kernel
theorem dX10_drift_6 : decode cX10_drift 6 = .ok (.invokestatic 68, 3) := by decide +kernel
theorem dX10_drift_9 : decode cX10_drift 9 = .ok (.ifCond .ne 6, 3) := by decide +kernel
theorem dX10_drift_12 : decode cX10_drift 12 = .ok (.ldc 72, 2) := by decide +kernel
theorem dX10_drift_14 : decode cX10_drift 14 = .ok (.ireturn, 1) := by decide +kernel
theorem dX10_drift_15 : decode cX10_drift 15 = .ok (.aload_n 0, 1) := by decide +kernel
theorem dX10_drift_16 : decode cX10_drift 16 = .ok (.getfield 131, 3) := by decide +kernel
theorem dX10_drift_19 : decode cX10_drift 19 = .ok (.ifCond .ne 6, 3) := by decide +kernel
theorem dX10_drift_22 : decode cX10_drift 22 = .ok (.ldc 209, 2) := by decide +kernel
theorem dX10_drift_24 : decode cX10_drift 24 = .ok (.ireturn, 1) := by decide +kernel
theorem dX10_drift_25 : decode cX10_drift 25 = .ok (.aload_n 0, 1) := by decide +kernel
theorem dX10_drift_26 : decode cX10_drift 26 = .ok (.getfield 7, 3) := by decide +kernel
theorem dX10_drift_29 : decode cX10_drift 29 = .ok (.bipush 14, 2) := by decide +kernel
theorem dX10_drift_31 : decode cX10_drift 31 = .ok (.iaload, 1) := by decide +kernel
theorem dX10_drift_32 : decode cX10_drift 32 = .ok (.sipush 9000, 3) := by decide +kernel
theorem dX10_drift_35 : decode cX10_drift 35 = .ok (.if_icmp .le 6, 3) := by decide +kernel
theorem dX10_drift_38 : decode cX10_drift 38 = .ok (.ldc 76, 2) := by decide +kernel
theorem dX10_drift_40 : decode cX10_drift 40 = .ok (.ireturn, 1) := by decide +kernel
theorem dX10_drift_41 : decode cX10_drift 41 = .ok (.iconst 0, 1) := by decide +kernel
theorem dX10_drift_42 : decode cX10_drift 42 = .ok (.istore_n 2, 1) := by decide +kernel
theorem dX10_drift_43 : decode cX10_drift 43 = .ok (.iconst 0, 1) := by decide +kernel
theorem dX10_drift_44 : decode cX10_drift 44 = .ok (.istore_n 3, 1) := by decide +kernel
theorem dX10_drift_45 : decode cX10_drift 45 = .ok (.iload_n 3, 1) := by decide +kernel
theorem dX10_drift_46 : decode cX10_drift 46 = .ok (.aload_n 0, 1) := by decide +kernel
theorem dX10_drift_47 : decode cX10_drift 47 = .ok (.getfield 131, 3) := by decide +kernel
theorem dX10_drift_50 : decode cX10_drift 50 = .ok (.if_icmp .ge 18, 3) := by decide +kernel
theorem dX10_drift_53 : decode cX10_drift 53 = .ok (.bipush 10, 2) := by decide +kernel
theorem dX10_drift_55 : decode cX10_drift 55 = .ok (.iload_n 2, 1) := by decide +kernel
theorem dX10_drift_56 : decode cX10_drift 56 = .ok (.imul, 1) := by decide +kernel
theorem dX10_drift_57 : decode cX10_drift 57 = .ok (.iload_n 3, 1) := by decide +kernel
theorem dX10_drift_58 : decode cX10_drift 58 = .ok (.iadd, 1) := by decide +kernel
theorem dX10_drift_59 : decode cX10_drift 59 = .ok (.iconst 1, 1) := by decide +kernel
theorem dX10_drift_60 : decode cX10_drift 60 = .ok (.iadd, 1) := by decide +kernel
theorem dX10_drift_61 : decode cX10_drift 61 = .ok (.istore_n 2, 1) := by decide +kernel
theorem dX10_drift_62 : decode cX10_drift 62 = .ok (.iinc 3 1, 3) := by decide +kernel
theorem dX10_drift_65 : decode cX10_drift 65 = .ok (.goto (-20), 3) := by decide +kernel
theorem dX10_drift_68 : decode cX10_drift 68 = .ok (.iconst 0, 1) := by decide +kernel
theorem dX10_drift_69 : decode cX10_drift 69 = .ok (.istore_n 3, 1) := by decide +kernel
theorem dX10_drift_70 : decode cX10_drift 70 = .ok (.iload_n 3, 1) := by decide +kernel
theorem dX10_drift_71 : decode cX10_drift 71 = .ok (.iload_n 1, 1) := by decide +kernel
theorem dX10_drift_72 : decode cX10_drift 72 = .ok (.if_icmp .ge 65, 3) := by decide +kernel
theorem dX10_drift_75 : decode cX10_drift 75 = .ok (.aload_n 0, 1) := by decide +kernel
theorem dX10_drift_76 : decode cX10_drift 76 = .ok (.invokevirtual 206, 3) := by decide +kernel
theorem dX10_drift_79 : decode cX10_drift 79 = .ok (.aload_n 0, 1) := by decide +kernel
theorem dX10_drift_80 : decode cX10_drift 80 = .ok (.aload_n 0, 1) := by decide +kernel
theorem dX10_drift_81 : decode cX10_drift 81 = .ok (.getfield 131, 3) := by decide +kernel
theorem dX10_drift_84 : decode cX10_drift 84 = .ok (.invokevirtual 219, 3) := by decide +kernel
theorem dX10_drift_87 : decode cX10_drift 87 = .ok (.istore 4, 2) := by decide +kernel
theorem dX10_drift_89 : decode cX10_drift 89 = .ok (.aload_n 0, 1) := by decide +kernel
theorem dX10_drift_90 : decode cX10_drift 90 = .ok (.getfield 7, 3) := by decide +kernel
theorem dX10_drift_93 : decode cX10_drift 93 = .ok (.iload 4, 2) := by decide +kernel
theorem dX10_drift_95 : decode cX10_drift 95 = .ok (.aload_n 0, 1) := by decide +kernel
theorem dX10_drift_96 : decode cX10_drift 96 = .ok (.getfield 7, 3) := by decide +kernel
theorem dX10_drift_99 : decode cX10_drift 99 = .ok (.iload 4, 2) := by decide +kernel
theorem dX10_drift_101 : decode cX10_drift 101 = .ok (.iaload, 1) := by decide +kernel
theorem dX10_drift_102 : decode cX10_drift 102 = .ok (.iconst 2, 1) := by decide +kernel
theorem dX10_drift_103 : decode cX10_drift 103 = .ok (.if_icmp .ne 7, 3) := by decide +kernel
theorem dX10_drift_106 : decode cX10_drift 106 = .ok (.iconst 1, 1) := by decide +kernel
theorem dX10_drift_107 : decode cX10_drift 107 = .ok (.goto 10, 3) := by decide +kernel
theorem dX10_drift_110 : decode cX10_drift 110 = .ok (.aload_n 0, 1) := by decide +kernel
theorem dX10_drift_111 : decode cX10_drift 111 = .ok (.getfield 7, 3) := by decide +kernel
theorem dX10_drift_114 : decode cX10_drift 114 = .ok (.iload 4, 2) := by decide +kernel
theorem dX10_drift_116 : decode cX10_drift 116 = .ok (.iaload, 1) := by decide +kernel
theorem dX10_drift_117 : decode cX10_drift 117 = .ok (.iastore, 1) := by decide +kernel
theorem dX10_drift_118 : decode cX10_drift 118 = .ok (.aload_n 0, 1) := by decide +kernel
theorem dX10_drift_119 : decode cX10_drift 119 = .ok (.iconst 0, 1) := by decide +kernel
theorem dX10_drift_120 : decode cX10_drift 120 = .ok (.iload_n 2, 1) := by decide +kernel
theorem dX10_drift_121 : decode cX10_drift 121 = .ok (.aload_n 0, 1) := by decide +kernel
theorem dX10_drift_122 : decode cX10_drift 122 = .ok (.iconst 4, 1) := by decide +kernel
theorem dX10_drift_123 : decode cX10_drift 123 = .ok (.invokevirtual 219, 3) := by decide +kernel
theorem dX10_drift_126 : decode cX10_drift 126 = .ok (.invokevirtual 196, 3) := by decide +kernel
theorem dX10_drift_129 : decode cX10_drift 129 = .ok (.istore 5, 2) := by decide +kernel
theorem dX10_drift_131 : decode cX10_drift 131 = .ok (.iinc 3 1, 3) := by decide +kernel
theorem dX10_drift_134 : decode cX10_drift 134 = .ok (.goto (-64), 3) := by decide +kernel
theorem dX10_drift_137 : decode cX10_drift 137 = .ok (.aload_n 0, 1) := by decide +kernel
theorem dX10_drift_138 : decode cX10_drift 138 = .ok (.getfield 7, 3) := by decide +kernel
theorem dX10_drift_141 : decode cX10_drift 141 = .ok (.bipush 15, 2) := by decide +kernel
theorem dX10_drift_143 : decode cX10_drift 143 = .ok (.iaload, 1) := by decide +kernel
theorem dX10_drift_144 : decode cX10_drift 144 = .ok (.ireturn, 1) := by decide +kernel
theorem dX10_undo_0 : decode cX10_undo 0 = .ok (.iload_n 1, 1) := by decide +kernel
theorem dX10_undo_1 : decode cX10_undo 1 = .ok (.i2l, 1) := by decide +kernel
theorem dX10_undo_2 : decode cX10_undo 2 = .ok (.lconst 1, 1) := by decide +kernel
theorem dX10_undo_3 : decode cX10_undo 3 = .ok (.ldc2_w 222, 3) := by decide +kernel
theorem dX10_undo_6 : decode cX10_undo 6 = .ok (.invokestatic 68, 3) := by decide +kernel
theorem dX10_undo_9 : decode cX10_undo 9 = .ok (.ifCond .ne 6, 3) := by decide +kernel
theorem dX10_undo_12 : decode cX10_undo 12 = .ok (.ldc 72, 2) := by decide +kernel
theorem dX10_undo_14 : decode cX10_undo 14 = .ok (.ireturn, 1) := by decide +kernel
theorem dX10_undo_15 : decode cX10_undo 15 = .ok (.iload_n 1, 1) := by decide +kernel
theorem dX10_undo_16 : decode cX10_undo 16 = .ok (.aload_n 0, 1) := by decide +kernel
theorem dX10_undo_17 : decode cX10_undo 17 = .ok (.getfield 143, 3) := by decide +kernel
theorem dX10_undo_20 : decode cX10_undo 20 = .ok (.if_icmp .le 6, 3) := by decide +kernel
theorem dX10_undo_23 : decode cX10_undo 23 = .ok (.ldc 209, 2) := by decide +kernel
theorem dX10_undo_25 : decode cX10_undo 25 = .ok (.ireturn, 1) := by decide +kernel
theorem dX10_undo_26 : decode cX10_undo 26 = .ok (.aload_n 0, 1) := by decide +kernel
theorem dX10_undo_27 : decode cX10_undo 27 = .ok (.dup, 1) := by decide +kernel
theorem dX10_undo_28 : decode cX10_undo 28 = .ok (.getfield 143, 3) := by decide +kernel
theorem dX10_undo_31 : decode cX10_undo 31 = .ok (.iload_n 1, 1) := by decide +kernel
theorem dX10_undo_32 : decode cX10_undo 32 = .ok (.isub, 1) := by decide +kernel
theorem dX10_undo_33 : decode cX10_undo 33 = .ok (.putfield 143, 3) := by decide +kernel
theorem dX10_undo_36 : decode cX10_undo 36 = .ok (.aload_n 0, 1) := by decide +kernel
theorem dX10_undo_37 : decode cX10_undo 37 = .ok (.getfield 7, 3) := by decide +kernel
theorem dX10_undo_40 : decode cX10_undo 40 = .ok (.bipush 17, 2) := by decide +kernel
theorem dX10_undo_42 : decode cX10_undo 42 = .ok (.iaload, 1) := by decide +kernel
theorem dX10_undo_43 : decode cX10_undo 43 = .ok (.istore_n 2, 1) := by decide +kernel
theorem dX10_undo_44 : decode cX10_undo 44 = .ok (.aload_n 0, 1) := by decide +kernel
theorem dX10_undo_45 : decode cX10_undo 45 = .ok (.bipush 72, 2) := by decide +kernel
theorem dX10_undo_47 : decode cX10_undo 47 = .ok (.bipush 18, 2) := by decide +kernel
theorem dX10_undo_49 : decode cX10_undo 49 = .ok (.aload_n 0, 1) := by decide +kernel
theorem dX10_undo_50 : decode cX10_undo 50 = .ok (.getfield 143, 3) := by decide +kernel
theorem dX10_undo_53 : decode cX10_undo 53 = .ok (.imul, 1) := by decide +kernel
theorem dX10_undo_54 : decode cX10_undo 54 = .ok (.iadd, 1) := by decide +kernel
theorem dX10_undo_55 : decode cX10_undo 55 = .ok (.iconst 0, 1) := by decide +kernel
theorem dX10_undo_56 : decode cX10_undo 56 = .ok (.invokevirtual 192, 3) := by decide +kernel
theorem dX10_undo_59 : decode cX10_undo 59 = .ok (.aload_n 0, 1) := by decide +kernel
theorem dX10_undo_60 : decode cX10_undo 60 = .ok (.getfield 7, 3) := by decide +kernel
theorem dX10_undo_63 : decode cX10_undo 63 = .ok (.bipush 17, 2) := by decide +kernel
theorem dX10_undo_65 : decode cX10_undo 65 = .ok (.iload_n 2, 1) := by decide +kernel
theorem dX10_undo_66 : decode cX10_undo 66 = .ok (.iastore, 1) := by decide +kernel
theorem dX10_undo_67 : decode cX10_undo 67 = .ok (.aload_n 0, 1) := by decide +kernel
theorem dX10_undo_68 : decode cX10_undo 68 = .ok (.getfield 7, 3) := by decide +kernel
theorem dX10_undo_71 : decode cX10_undo 71 = .ok (.bipush 14, 2) := by decide +kernel
theorem dX10_undo_73 : decode cX10_undo 73 = .ok (.iaload, 1) := by decide +kernel
theorem dX10_undo_74 : decode cX10_undo 74 = .ok (.ireturn, 1) := by decide +kernel
theorem dX10_comes_0 : decode cX10_comes 0 = .ok (.aload_n 0, 1) := by decide +kernel
theorem dX10_comes_1 : decode cX10_comes 1 = .ok (.iload_n 1, 1) := by decide +kernel
theorem dX10_comes_2 : decode cX10_comes 2 = .ok (.invokevirtual 150, 3) := by decide +kernel
theorem dX10_comes_5 : decode cX10_comes 5 = .ok (.ifCond .eq 11, 3) := by decide +kernel
theorem dX10_comes_8 : decode cX10_comes 8 = .ok (.aload_n 0, 1) := by decide +kernel
theorem dX10_comes_9 : decode cX10_comes 9 = .ok (.iload_n 2, 1) := by decide +kernel
theorem dX10_comes_10 : decode cX10_comes 10 = .ok (.invokevirtual 200, 3) := by decide +kernel
theorem dX10_comes_13 : decode cX10_comes 13 = .ok (.ifCond .ne 6, 3) := by decide +kernel
theorem dX10_comes_16 : decode cX10_comes 16 = .ok (.ldc 167, 2) := by decide +kernel
theorem dX10_comes_18 : decode cX10_comes 18 = .ok (.ireturn, 1) := by decide +kernel
theorem dX10_comes_19 : decode cX10_comes 19 = .ok (.iload_n 3, 1) := by decide +kernel
theorem dX10_comes_20 : decode cX10_comes 20 = .ok (.invokestatic 203, 3) := by decide +kernel
theorem dX10_comes_23 : decode cX10_comes 23 = .ok (.ifCond .ne 6, 3) := by decide +kernel
theorem dX10_comes_26 : decode cX10_comes 26 = .ok (.ldc 72, 2) := by decide +kernel
theorem dX10_comes_28 : decode cX10_comes 28 = .ok (.ireturn, 1) := by decide +kernel
theorem dX10_comes_29 : decode cX10_comes 29 = .ok (.aload_n 0, 1) := by decide +kernel
theorem dX10_comes_30 : decode cX10_comes 30 = .ok (.iload_n 2, 1) := by decide +kernel
theorem dX10_comes_31 : decode cX10_comes 31 = .ok (.iload_n 3, 1) := by decide +kernel
theorem dX10_comes_32 : decode cX10_comes 32 = .ok (.invokevirtual 224, 3) := by decide +kernel
theorem dX10_comes_35 : decode cX10_comes 35 = .ok (.istore 4, 2) := by decide +kernel
theorem dX10_comes_37 : decode cX10_comes 37 = .ok (.aload_n 0, 1) := by decide +kernel
theorem dX10_comes_38 : decode cX10_comes 38 = .ok (.getfield 45, 3) := by decide +kernel
theorem dX10_comes_41 : decode cX10_comes 41 = .ok (.iload_n 1, 1) := by decide +kernel
theorem dX10_comes_42 : decode cX10_comes 42 = .ok (.iaload, 1) := by decide +kernel
theorem dX10_comes_43 : decode cX10_comes 43 = .ok (.ireturn, 1) := by decide +kernel
theorem dX10_home_0 : decode cX10_home 0 = .ok (.aload_n 0, 1) := by decide +kernel
theorem dX10_home_1 : decode cX10_home 1 = .ok (.iload_n 1, 1) := by decide +kernel
theorem dX10_home_2 : decode cX10_home 2 = .ok (.invokevirtual 200, 3) := by decide +kernel
theorem dX10_home_5 : decode cX10_home 5 = .ok (.ifCond .ne 6, 3) := by decide +kernel
theorem dX10_home_8 : decode cX10_home 8 = .ok (.ldc 167, 2) := by decide +kernel
theorem dX10_home_10 : decode cX10_home 10 = .ok (.ireturn, 1) := by decide +kernel
theorem dX10_home_11 : decode cX10_home 11 = .ok (.iload_n 2, 1) := by decide +kernel
theorem dX10_home_12 : decode cX10_home 12 = .ok (.invokestatic 203, 3) := by decide +kernel
theorem dX10_home_15 : decode cX10_home 15 = .ok (.ifCond .eq 12, 3) := by decide +kernel
theorem dX10_home_18 : decode cX10_home 18 = .ok (.aload_n 0, 1) := by decide +kernel
theorem dX10_home_19 : decode cX10_home 19 = .ok (.iload_n 1, 1) := by decide +kernel
theorem dX10_home_20 : decode cX10_home 20 = .ok (.iload_n 2, 1) := by decide +kernel
theorem dX10_home_21 : decode cX10_home 21 = .ok (.invokevirtual 224, 3) := by decide +kernel
theorem dX10_home_24 : decode cX10_home 24 = .ok (.goto 5, 3) := by decide +kernel
theorem dX10_home_27 : decode cX10_home 27 = .ok (.ldc 72, 2) := by decide +kernel
theorem dX10_home_29 : decode cX10_home 29 = .ok (.ireturn, 1) := by decide +kernel
theorem dX10_outcome_0 : decode cX10_outcome 0 = .ok (.aload_n 0, 1) := by decide +kernel
theorem dX10_outcome_1 : decode cX10_outcome 1 = .ok (.iload_n 1, 1) := by decide +kernel
theorem dX10_outcome_2 : decode cX10_outcome 2 = .ok (.invokevirtual 200, 3) := by decide +kernel
theorem dX10_outcome_5 : decode cX10_outcome 5 = .ok (.ifCond .ne 6, 3) := by decide +kernel
theorem dX10_outcome_8 : decode cX10_outcome 8 = .ok (.ldc 167, 2) := by decide +kernel
theorem dX10_outcome_10 : decode cX10_outcome 10 = .ok (.ireturn, 1) := by decide +kernel
theorem dX10_outcome_11 : decode cX10_outcome 11 = .ok (.iload_n 2, 1) := by decide +kernel
theorem dX10_outcome_12 : decode cX10_outcome 12 = .ok (.invokestatic 203, 3) := by decide +kernel
theorem dX10_outcome_15 : decode cX10_outcome 15 = .ok (.ifCond .ne 6, 3) := by decide +kernel
theorem dX10_outcome_18 : decode cX10_outcome 18 = .ok (.ldc 72, 2) := by decide +kernel
theorem dX10_outcome_20 : decode cX10_outcome 20 = .ok (.ireturn, 1) := by decide +kernel
theorem dX10_outcome_21 : decode cX10_outcome 21 = .ok (.aload_n 0, 1) := by decide +kernel
theorem dX10_outcome_22 : decode cX10_outcome 22 = .ok (.iload_n 1, 1) := by decide +kernel
theorem dX10_outcome_23 : decode cX10_outcome 23 = .ok (.iload_n 2, 1) := by decide +kernel
theorem dX10_outcome_24 : decode cX10_outcome 24 = .ok (.invokevirtual 224, 3) := by decide +kernel
theorem dX10_outcome_27 : decode cX10_outcome 27 = .ok (.istore_n 3, 1) := by decide +kernel
theorem dX10_outcome_28 : decode cX10_outcome 28 = .ok (.iconst 0, 1) := by decide +kernel
theorem dX10_outcome_29 : decode cX10_outcome 29 = .ok (.istore 4, 2) := by decide +kernel
theorem dX10_outcome_31 : decode cX10_outcome 31 = .ok (.iconst 0, 1) := by decide +kernel
theorem dX10_outcome_32 : decode cX10_outcome 32 = .ok (.istore 5, 2) := by decide +kernel
theorem dX10_outcome_34 : decode cX10_outcome 34 = .ok (.iload 5, 2) := by decide +kernel
theorem dX10_outcome_36 : decode cX10_outcome 36 = .ok (.aload_n 0, 1) := by decide +kernel
theorem dX10_outcome_37 : decode cX10_outcome 37 = .ok (.getfield 131, 3) := by decide +kernel
theorem dX10_outcome_40 : decode cX10_outcome 40 = .ok (.if_icmp .ge 27, 3) := by decide +kernel
theorem dX10_outcome_43 : decode cX10_outcome 43 = .ok (.bipush 10, 2) := by decide +kernel
theorem dX10_outcome_45 : decode cX10_outcome 45 = .ok (.iload 4, 2) := by decide +kernel
theorem dX10_outcome_47 : decode cX10_outcome 47 = .ok (.imul, 1) := by decide +kernel
theorem dX10_outcome_48 : decode cX10_outcome 48 = .ok (.aload_n 0, 1) := by decide +kernel
theorem dX10_outcome_49 : decode cX10_outcome 49 = .ok (.getfield 7, 3) := by decide +kernel
theorem dX10_outcome_52 : decode cX10_outcome 52 = .ok (.bipush 18, 2) := by decide +kernel
theorem dX10_outcome_54 : decode cX10_outcome 54 = .ok (.iload 5, 2) := by decide +kernel
theorem dX10_outcome_56 : decode cX10_outcome 56 = .ok (.iadd, 1) := by decide +kernel
theorem dX10_outcome_57 : decode cX10_outcome 57 = .ok (.iaload, 1) := by decide +kernel
theorem dX10_outcome_58 : decode cX10_outcome 58 = .ok (.iadd, 1) := by decide +kernel
theorem dX10_outcome_59 : decode cX10_outcome 59 = .ok (.istore 4, 2) := by decide +kernel
theorem dX10_outcome_61 : decode cX10_outcome 61 = .ok (.iinc 5 1, 3) := by decide +kernel
theorem dX10_outcome_64 : decode cX10_outcome 64 = .ok (.goto (-30), 3) := by decide +kernel
theorem dX10_outcome_67 : decode cX10_outcome 67 = .ok (.iload 4, 2) := by decide +kernel
theorem dX10_outcome_69 : decode cX10_outcome 69 = .ok (.ireturn, 1) := by decide +kernel
theorem dX10_comesTo_0 : decode cX10_comesTo 0 = .ok (.aload_n 0, 1) := by decide +kernel
theorem dX10_comesTo_1 : decode cX10_comesTo 1 = .ok (.iload_n 2, 1) := by decide +kernel
theorem dX10_comesTo_2 : decode cX10_comesTo 2 = .ok (.iconst 0, 1) := by decide +kernel
theorem dX10_comesTo_3 : decode cX10_comesTo 3 = .ok (.invokevirtual 224, 3) := by decide +kernel
theorem dX10_comesTo_6 : decode cX10_comesTo 6 = .ok (.istore_n 3, 1) := by decide +kernel
theorem dX10_comesTo_7 : decode cX10_comesTo 7 = .ok (.aload_n 0, 1) := by decide +kernel
theorem dX10_comesTo_8 : decode cX10_comesTo 8 = .ok (.getfield 45, 3) := by decide +kernel
theorem dX10_comesTo_11 : decode cX10_comesTo 11 = .ok (.iload_n 1, 1) := by decide +kernel
theorem dX10_comesTo_12 : decode cX10_comesTo 12 = .ok (.iaload, 1) := by decide +kernel
theorem dX10_comesTo_13 : decode cX10_comesTo 13 = .ok (.ireturn, 1) := by decide +kernel
theorem dX10_bath_0 : decode cX10_bath 0 = .ok (.aload_n 0, 1) := by decide +kernel
theorem dX10_bath_1 : decode cX10_bath 1 = .ok (.iload_n 1, 1) := by decide +kernel
theorem dX10_bath_2 : decode cX10_bath 2 = .ok (.invokevirtual 150, 3) := by decide +kernel
theorem dX10_bath_5 : decode cX10_bath 5 = .ok (.ifCond .eq 19, 3) := by decide +kernel
theorem dX10_bath_8 : decode cX10_bath 8 = .ok (.aload_n 0, 1) := by decide +kernel
theorem dX10_bath_9 : decode cX10_bath 9 = .ok (.iload_n 2, 1) := by decide +kernel
theorem dX10_bath_10 : decode cX10_bath 10 = .ok (.invokevirtual 200, 3) := by decide +kernel
theorem dX10_bath_13 : decode cX10_bath 13 = .ok (.ifCond .eq 11, 3) := by decide +kernel
theorem dX10_bath_16 : decode cX10_bath 16 = .ok (.aload_n 0, 1) := by decide +kernel
theorem dX10_bath_17 : decode cX10_bath 17 = .ok (.iload_n 3, 1) := by decide +kernel
theorem dX10_bath_18 : decode cX10_bath 18 = .ok (.invokevirtual 200, 3) := by decide +kernel
theorem dX10_bath_21 : decode cX10_bath 21 = .ok (.ifCond .ne 6, 3) := by decide +kernel
theorem dX10_bath_24 : decode cX10_bath 24 = .ok (.ldc 167, 2) := by decide +kernel
theorem dX10_bath_26 : decode cX10_bath 26 = .ok (.ireturn, 1) := by decide +kernel
theorem dX10_bath_27 : decode cX10_bath 27 = .ok (.iload 4, 2) := by decide +kernel
theorem dX10_bath_29 : decode cX10_bath 29 = .ok (.i2l, 1) := by decide +kernel
theorem dX10_bath_30 : decode cX10_bath 30 = .ok (.lconst 1, 1) := by decide +kernel
theorem dX10_bath_31 : decode cX10_bath 31 = .ok (.ldc2_w 227, 3) := by decide +kernel
theorem dX10_bath_34 : decode cX10_bath 34 = .ok (.invokestatic 68, 3) := by decide +kernel
theorem dX10_bath_37 : decode cX10_bath 37 = .ok (.ifCond .ne 6, 3) := by decide +kernel
theorem dX10_bath_40 : decode cX10_bath 40 = .ok (.ldc 72, 2) := by decide +kernel
theorem dX10_bath_42 : decode cX10_bath 42 = .ok (.ireturn, 1) := by decide +kernel
theorem dX10_bath_43 : decode cX10_bath 43 = .ok (.aload_n 0, 1) := by decide +kernel
theorem dX10_bath_44 : decode cX10_bath 44 = .ok (.iload_n 1, 1) := by decide +kernel
theorem dX10_bath_45 : decode cX10_bath 45 = .ok (.iload_n 2, 1) := by decide +kernel
theorem dX10_bath_46 : decode cX10_bath 46 = .ok (.invokevirtual 229, 3) := by decide +kernel
theorem dX10_bath_49 : decode cX10_bath 49 = .ok (.istore 5, 2) := by decide +kernel
theorem dX10_bath_51 : decode cX10_bath 51 = .ok (.aload_n 0, 1) := by decide +kernel
theorem dX10_bath_52 : decode cX10_bath 52 = .ok (.iload_n 1, 1) := by decide +kernel
theorem dX10_bath_53 : decode cX10_bath 53 = .ok (.iload_n 3, 1) := by decide +kernel
theorem dX10_bath_54 : decode cX10_bath 54 = .ok (.invokevirtual 229, 3) := by decide +kernel
theorem dX10_bath_57 : decode cX10_bath 57 = .ok (.istore 6, 2) := by decide +kernel
theorem dX10_bath_59 : decode cX10_bath 59 = .ok (.iconst 0, 1) := by decide +kernel
theorem dX10_bath_60 : decode cX10_bath 60 = .ok (.istore 7, 2) := by decide +kernel
theorem dX10_bath_62 : decode cX10_bath 62 = .ok (.iload 7, 2) := by decide +kernel
theorem dX10_bath_64 : decode cX10_bath 64 = .ok (.sipush 719, 3) := by decide +kernel
theorem dX10_bath_67 : decode cX10_bath 67 = .ok (.iload 4, 2) := by decide +kernel
theorem dX10_bath_69 : decode cX10_bath 69 = .ok (.isub, 1) := by decide +kernel
theorem dX10_bath_70 : decode cX10_bath 70 = .ok (.if_icmp .gt 64, 3) := by decide +kernel
theorem dX10_bath_73 : decode cX10_bath 73 = .ok (.iload 5, 2) := by decide +kernel
theorem dX10_bath_75 : decode cX10_bath 75 = .ok (.i2l, 1) := by decide +kernel
theorem dX10_bath_76 : decode cX10_bath 76 = .ok (.bipush 60, 2) := by decide +kernel
theorem dX10_bath_78 : decode cX10_bath 78 = .ok (.iload 7, 2) := by decide +kernel
theorem dX10_bath_80 : decode cX10_bath 80 = .ok (.imul, 1) := by decide +kernel
theorem dX10_bath_81 : decode cX10_bath 81 = .ok (.i2l, 1) := by decide +kernel
theorem dX10_bath_82 : decode cX10_bath 82 = .ok (.bipush 60, 2) := by decide +kernel
theorem dX10_bath_84 : decode cX10_bath 84 = .ok (.iload 7, 2) := by decide +kernel
theorem dX10_bath_86 : decode cX10_bath 86 = .ok (.iload 4, 2) := by decide +kernel
theorem dX10_bath_88 : decode cX10_bath 88 = .ok (.iadd, 1) := by decide +kernel
theorem dX10_bath_89 : decode cX10_bath 89 = .ok (.imul, 1) := by decide +kernel
theorem dX10_bath_90 : decode cX10_bath 90 = .ok (.iconst 1, 1) := by decide +kernel
theorem dX10_bath_91 : decode cX10_bath 91 = .ok (.isub, 1) := by decide +kernel
theorem dX10_bath_92 : decode cX10_bath 92 = .ok (.i2l, 1) := by decide +kernel
theorem dX10_bath_93 : decode cX10_bath 93 = .ok (.invokestatic 68, 3) := by decide +kernel
theorem dX10_bath_96 : decode cX10_bath 96 = .ok (.ifCond .ne 32, 3) := by decide +kernel
theorem dX10_bath_99 : decode cX10_bath 99 = .ok (.iload 6, 2) := by decide +kernel
theorem dX10_bath_101 : decode cX10_bath 101 = .ok (.i2l, 1) := by decide +kernel
theorem dX10_bath_102 : decode cX10_bath 102 = .ok (.bipush 60, 2) := by decide +kernel
theorem dX10_bath_104 : decode cX10_bath 104 = .ok (.iload 7, 2) := by decide +kernel
theorem dX10_bath_106 : decode cX10_bath 106 = .ok (.imul, 1) := by decide +kernel
theorem dX10_bath_107 : decode cX10_bath 107 = .ok (.i2l, 1) := by decide +kernel
theorem dX10_bath_108 : decode cX10_bath 108 = .ok (.bipush 60, 2) := by decide +kernel
theorem dX10_bath_110 : decode cX10_bath 110 = .ok (.iload 7, 2) := by decide +kernel
theorem dX10_bath_112 : decode cX10_bath 112 = .ok (.iload 4, 2) := by decide +kernel
theorem dX10_bath_114 : decode cX10_bath 114 = .ok (.iadd, 1) := by decide +kernel
theorem dX10_bath_115 : decode cX10_bath 115 = .ok (.imul, 1) := by decide +kernel
theorem dX10_bath_116 : decode cX10_bath 116 = .ok (.iconst 1, 1) := by decide +kernel
theorem dX10_bath_117 : decode cX10_bath 117 = .ok (.isub, 1) := by decide +kernel
theorem dX10_bath_118 : decode cX10_bath 118 = .ok (.i2l, 1) := by decide +kernel
theorem dX10_bath_119 : decode cX10_bath 119 = .ok (.invokestatic 68, 3) := by decide +kernel
theorem dX10_bath_122 : decode cX10_bath 122 = .ok (.ifCond .ne 6, 3) := by decide +kernel
theorem dX10_bath_125 : decode cX10_bath 125 = .ok (.iload 7, 2) := by decide +kernel
theorem dX10_bath_127 : decode cX10_bath 127 = .ok (.ireturn, 1) := by decide +kernel
theorem dX10_bath_128 : decode cX10_bath 128 = .ok (.iinc 7 1, 3) := by decide +kernel
theorem dX10_bath_131 : decode cX10_bath 131 = .ok (.goto (-69), 3) := by decide +kernel
theorem dX10_bath_134 : decode cX10_bath 134 = .ok (.iconst (-1), 1) := by decide +kernel
theorem dX10_bath_135 : decode cX10_bath 135 = .ok (.ireturn, 1) := by decide +kernel
theorem dX10_counting_0 : decode cX10_counting 0 = .ok (.iconst 0, 1) := by decide +kernel
theorem dX10_counting_1 : decode cX10_counting 1 = .ok (.istore_n 1, 1) := by decide +kernel
theorem dX10_counting_2 : decode cX10_counting 2 = .ok (.iconst 0, 1) := by decide +kernel
theorem dX10_counting_3 : decode cX10_counting 3 = .ok (.istore_n 2, 1) := by decide +kernel
theorem dX10_counting_4 : decode cX10_counting 4 = .ok (.iload_n 2, 1) := by decide +kernel
theorem dX10_counting_5 : decode cX10_counting 5 = .ok (.aload_n 0, 1) := by decide +kernel
theorem dX10_counting_6 : decode cX10_counting 6 = .ok (.getfield 131, 3) := by decide +kernel
theorem dX10_counting_9 : decode cX10_counting 9 = .ok (.if_icmp .ge 42, 3) := by decide +kernel
theorem dX10_counting_12 : decode cX10_counting 12 = .ok (.iload_n 1, 1) := by decide +kernel
theorem dX10_counting_13 : decode cX10_counting 13 = .ok (.aload_n 0, 1) := by decide +kernel
theorem dX10_counting_14 : decode cX10_counting 14 = .ok (.getfield 7, 3) := by decide +kernel
theorem dX10_counting_17 : decode cX10_counting 17 = .ok (.iload_n 2, 1) := by decide +kernel
theorem dX10_counting_18 : decode cX10_counting 18 = .ok (.iaload, 1) := by decide +kernel
theorem dX10_counting_19 : decode cX10_counting 19 = .ok (.iconst 1, 1) := by decide +kernel
theorem dX10_counting_20 : decode cX10_counting 20 = .ok (.if_icmp .eq 13, 3) := by decide +kernel
theorem dX10_counting_23 : decode cX10_counting 23 = .ok (.aload_n 0, 1) := by decide +kernel
theorem dX10_counting_24 : decode cX10_counting 24 = .ok (.getfield 7, 3) := by decide +kernel
theorem dX10_counting_27 : decode cX10_counting 27 = .ok (.iload_n 2, 1) := by decide +kernel
theorem dX10_counting_28 : decode cX10_counting 28 = .ok (.iaload, 1) := by decide +kernel
theorem dX10_counting_29 : decode cX10_counting 29 = .ok (.iconst 4, 1) := by decide +kernel
theorem dX10_counting_30 : decode cX10_counting 30 = .ok (.if_icmp .ne 7, 3) := by decide +kernel
theorem dX10_counting_33 : decode cX10_counting 33 = .ok (.iconst 1, 1) := by decide +kernel
theorem dX10_counting_34 : decode cX10_counting 34 = .ok (.goto 4, 3) := by decide +kernel
theorem dX10_counting_37 : decode cX10_counting 37 = .ok (.iconst 0, 1) := by decide +kernel
theorem dX10_counting_38 : decode cX10_counting 38 = .ok (.invokestatic 160, 3) := by decide +kernel
theorem dX10_counting_41 : decode cX10_counting 41 = .ok (.iload_n 2, 1) := by decide +kernel
theorem dX10_counting_42 : decode cX10_counting 42 = .ok (.ishl, 1) := by decide +kernel
theorem dX10_counting_43 : decode cX10_counting 43 = .ok (.ior, 1) := by decide +kernel
theorem dX10_counting_44 : decode cX10_counting 44 = .ok (.istore_n 1, 1) := by decide +kernel
theorem dX10_counting_45 : decode cX10_counting 45 = .ok (.iinc 2 1, 3) := by decide +kernel
theorem dX10_counting_48 : decode cX10_counting 48 = .ok (.goto (-44), 3) := by decide +kernel
theorem dX10_counting_51 : decode cX10_counting 51 = .ok (.iload_n 1, 1) := by decide +kernel
theorem dX10_counting_52 : decode cX10_counting 52 = .ok (.ireturn, 1) := by decide +kernel
theorem dX10_wayOf_0 : decode cX10_wayOf 0 = .ok (.iconst 0, 1) := by decide +kernel
theorem dX10_wayOf_1 : decode cX10_wayOf 1 = .ok (.istore_n 2, 1) := by decide +kernel
theorem dX10_wayOf_2 : decode cX10_wayOf 2 = .ok (.iconst 0, 1) := by decide +kernel
theorem dX10_wayOf_3 : decode cX10_wayOf 3 = .ok (.istore_n 3, 1) := by decide +kernel
theorem dX10_wayOf_4 : decode cX10_wayOf 4 = .ok (.iload_n 3, 1) := by decide +kernel
theorem dX10_wayOf_5 : decode cX10_wayOf 5 = .ok (.iload_n 1, 1) := by decide +kernel
theorem dX10_wayOf_6 : decode cX10_wayOf 6 = .ok (.if_icmp .ge 23, 3) := by decide +kernel
theorem dX10_wayOf_9 : decode cX10_wayOf 9 = .ok (.bipush 10, 2) := by decide +kernel
theorem dX10_wayOf_11 : decode cX10_wayOf 11 = .ok (.iload_n 2, 1) := by decide +kernel
theorem dX10_wayOf_12 : decode cX10_wayOf 12 = .ok (.imul, 1) := by decide +kernel
theorem dX10_wayOf_13 : decode cX10_wayOf 13 = .ok (.aload_n 0, 1) := by decide +kernel
theorem dX10_wayOf_14 : decode cX10_wayOf 14 = .ok (.getfield 48, 3) := by decide +kernel
theorem dX10_wayOf_17 : decode cX10_wayOf 17 = .ok (.iload_n 3, 1) := by decide +kernel
theorem dX10_wayOf_18 : decode cX10_wayOf 18 = .ok (.iaload, 1) := by decide +kernel
theorem dX10_wayOf_19 : decode cX10_wayOf 19 = .ok (.iadd, 1) := by decide +kernel
theorem dX10_wayOf_20 : decode cX10_wayOf 20 = .ok (.iconst 1, 1) := by decide +kernel
theorem dX10_wayOf_21 : decode cX10_wayOf 21 = .ok (.iadd, 1) := by decide +kernel
theorem dX10_wayOf_22 : decode cX10_wayOf 22 = .ok (.istore_n 2, 1) := by decide +kernel
theorem dX10_wayOf_23 : decode cX10_wayOf 23 = .ok (.iinc 3 1, 3) := by decide +kernel
theorem dX10_wayOf_26 : decode cX10_wayOf 26 = .ok (.goto (-22), 3) := by decide +kernel
theorem dX10_wayOf_29 : decode cX10_wayOf 29 = .ok (.iload_n 2, 1) := by decide +kernel
theorem dX10_wayOf_30 : decode cX10_wayOf 30 = .ok (.ireturn, 1) := by decide +kernel
theorem dX10_exchange_0 : decode cX10_exchange 0 = .ok (.aload_n 0, 1) := by decide +kernel
theorem dX10_exchange_1 : decode cX10_exchange 1 = .ok (.getfield 48, 3) := by decide +kernel
theorem dX10_exchange_4 : decode cX10_exchange 4 = .ok (.iload_n 1, 1) := by decide +kernel
theorem dX10_exchange_5 : decode cX10_exchange 5 = .ok (.iaload, 1) := by decide +kernel
theorem dX10_exchange_6 : decode cX10_exchange 6 = .ok (.istore_n 3, 1) := by decide +kernel
theorem dX10_exchange_7 : decode cX10_exchange 7 = .ok (.aload_n 0, 1) := by decide +kernel
theorem dX10_exchange_8 : decode cX10_exchange 8 = .ok (.getfield 48, 3) := by decide +kernel
theorem dX10_exchange_11 : decode cX10_exchange 11 = .ok (.iload_n 1, 1) := by decide +kernel
theorem dX10_exchange_12 : decode cX10_exchange 12 = .ok (.aload_n 0, 1) := by decide +kernel
theorem dX10_exchange_13 : decode cX10_exchange 13 = .ok (.getfield 48, 3) := by decide +kernel
theorem dX10_exchange_16 : decode cX10_exchange 16 = .ok (.iload_n 2, 1) := by decide +kernel
theorem dX10_exchange_17 : decode cX10_exchange 17 = .ok (.iaload, 1) := by decide +kernel
theorem dX10_exchange_18 : decode cX10_exchange 18 = .ok (.iastore, 1) := by decide +kernel
theorem dX10_exchange_19 : decode cX10_exchange 19 = .ok (.aload_n 0, 1) := by decide +kernel
theorem dX10_exchange_20 : decode cX10_exchange 20 = .ok (.getfield 48, 3) := by decide +kernel
theorem dX10_exchange_23 : decode cX10_exchange 23 = .ok (.iload_n 2, 1) := by decide +kernel
theorem dX10_exchange_24 : decode cX10_exchange 24 = .ok (.iload_n 3, 1) := by decide +kernel
theorem dX10_exchange_25 : decode cX10_exchange 25 = .ok (.iastore, 1) := by decide +kernel
theorem dX10_exchange_26 : decode cX10_exchange 26 = .ok (.return_, 1) := by decide +kernel
theorem dX10_nextRow_0 : decode cX10_nextRow 0 = .ok (.iload_n 1, 1) := by decide +kernel
theorem dX10_nextRow_1 : decode cX10_nextRow 1 = .ok (.iconst 2, 1) := by decide +kernel
theorem dX10_nextRow_2 : decode cX10_nextRow 2 = .ok (.isub, 1) := by decide +kernel
theorem dX10_nextRow_3 : decode cX10_nextRow 3 = .ok (.istore_n 2, 1) := by decide +kernel
theorem dX10_nextRow_4 : decode cX10_nextRow 4 = .ok (.iload_n 2, 1) := by decide +kernel
theorem dX10_nextRow_5 : decode cX10_nextRow 5 = .ok (.ifCond .lt 26, 3) := by decide +kernel
theorem dX10_nextRow_8 : decode cX10_nextRow 8 = .ok (.aload_n 0, 1) := by decide +kernel
theorem dX10_nextRow_9 : decode cX10_nextRow 9 = .ok (.getfield 48, 3) := by decide +kernel
theorem dX10_nextRow_12 : decode cX10_nextRow 12 = .ok (.iload_n 2, 1) := by decide +kernel
theorem dX10_nextRow_13 : decode cX10_nextRow 13 = .ok (.iaload, 1) := by decide +kernel
theorem dX10_nextRow_14 : decode cX10_nextRow 14 = .ok (.aload_n 0, 1) := by decide +kernel
theorem dX10_nextRow_15 : decode cX10_nextRow 15 = .ok (.getfield 48, 3) := by decide +kernel
theorem dX10_nextRow_18 : decode cX10_nextRow 18 = .ok (.iload_n 2, 1) := by decide +kernel
theorem dX10_nextRow_19 : decode cX10_nextRow 19 = .ok (.iconst 1, 1) := by decide +kernel
theorem dX10_nextRow_20 : decode cX10_nextRow 20 = .ok (.iadd, 1) := by decide +kernel
theorem dX10_nextRow_21 : decode cX10_nextRow 21 = .ok (.iaload, 1) := by decide +kernel
theorem dX10_nextRow_22 : decode cX10_nextRow 22 = .ok (.if_icmp .le 9, 3) := by decide +kernel
theorem dX10_nextRow_25 : decode cX10_nextRow 25 = .ok (.iinc 2 (-1), 3) := by decide +kernel
theorem dX10_nextRow_28 : decode cX10_nextRow 28 = .ok (.goto (-24), 3) := by decide +kernel
theorem dX10_nextRow_31 : decode cX10_nextRow 31 = .ok (.iload_n 2, 1) := by decide +kernel
theorem dX10_nextRow_32 : decode cX10_nextRow 32 = .ok (.ifCond .ge 5, 3) := by decide +kernel
theorem dX10_nextRow_35 : decode cX10_nextRow 35 = .ok (.iconst 0, 1) := by decide +kernel
theorem dX10_nextRow_36 : decode cX10_nextRow 36 = .ok (.ireturn, 1) := by decide +kernel
theorem dX10_nextRow_37 : decode cX10_nextRow 37 = .ok (.iload_n 1, 1) := by decide +kernel
theorem dX10_nextRow_38 : decode cX10_nextRow 38 = .ok (.iconst 1, 1) := by decide +kernel
theorem dX10_nextRow_39 : decode cX10_nextRow 39 = .ok (.isub, 1) := by decide +kernel
theorem dX10_nextRow_40 : decode cX10_nextRow 40 = .ok (.istore_n 3, 1) := by decide +kernel
theorem dX10_nextRow_41 : decode cX10_nextRow 41 = .ok (.aload_n 0, 1) := by decide +kernel
theorem dX10_nextRow_42 : decode cX10_nextRow 42 = .ok (.getfield 48, 3) := by decide +kernel
theorem dX10_nextRow_45 : decode cX10_nextRow 45 = .ok (.iload_n 3, 1) := by decide +kernel
theorem dX10_nextRow_46 : decode cX10_nextRow 46 = .ok (.iaload, 1) := by decide +kernel
theorem dX10_nextRow_47 : decode cX10_nextRow 47 = .ok (.aload_n 0, 1) := by decide +kernel
theorem dX10_nextRow_48 : decode cX10_nextRow 48 = .ok (.getfield 48, 3) := by decide +kernel
theorem dX10_nextRow_51 : decode cX10_nextRow 51 = .ok (.iload_n 2, 1) := by decide +kernel
theorem dX10_nextRow_52 : decode cX10_nextRow 52 = .ok (.iaload, 1) := by decide +kernel
theorem dX10_nextRow_53 : decode cX10_nextRow 53 = .ok (.if_icmp .ge 9, 3) := by decide +kernel
theorem dX10_nextRow_56 : decode cX10_nextRow 56 = .ok (.iinc 3 (-1), 3) := by decide +kernel
theorem dX10_nextRow_59 : decode cX10_nextRow 59 = .ok (.goto (-18), 3) := by decide +kernel
theorem dX10_nextRow_62 : decode cX10_nextRow 62 = .ok (.aload_n 0, 1) := by decide +kernel
theorem dX10_nextRow_63 : decode cX10_nextRow 63 = .ok (.iload_n 2, 1) := by decide +kernel
theorem dX10_nextRow_64 : decode cX10_nextRow 64 = .ok (.iload_n 3, 1) := by decide +kernel
theorem dX10_nextRow_65 : decode cX10_nextRow 65 = .ok (.invokevirtual 232, 3) := by decide +kernel
theorem dX10_nextRow_68 : decode cX10_nextRow 68 = .ok (.iload_n 2, 1) := by decide +kernel
theorem dX10_nextRow_69 : decode cX10_nextRow 69 = .ok (.iconst 1, 1) := by decide +kernel
theorem dX10_nextRow_70 : decode cX10_nextRow 70 = .ok (.iadd, 1) := by decide +kernel
theorem dX10_nextRow_71 : decode cX10_nextRow 71 = .ok (.istore 4, 2) := by decide +kernel
theorem dX10_nextRow_73 : decode cX10_nextRow 73 = .ok (.iload_n 1, 1) := by decide +kernel
theorem dX10_nextRow_74 : decode cX10_nextRow 74 = .ok (.iconst 1, 1) := by decide +kernel
theorem dX10_nextRow_75 : decode cX10_nextRow 75 = .ok (.isub, 1) := by decide +kernel
theorem dX10_nextRow_76 : decode cX10_nextRow 76 = .ok (.istore 5, 2) := by decide +kernel
theorem dX10_nextRow_78 : decode cX10_nextRow 78 = .ok (.iload 4, 2) := by decide +kernel
theorem dX10_nextRow_80 : decode cX10_nextRow 80 = .ok (.iload 5, 2) := by decide +kernel
theorem dX10_nextRow_82 : decode cX10_nextRow 82 = .ok (.if_icmp .ge 20, 3) := by decide +kernel
theorem dX10_nextRow_85 : decode cX10_nextRow 85 = .ok (.aload_n 0, 1) := by decide +kernel
theorem dX10_nextRow_86 : decode cX10_nextRow 86 = .ok (.iload 4, 2) := by decide +kernel
theorem dX10_nextRow_88 : decode cX10_nextRow 88 = .ok (.iload 5, 2) := by decide +kernel
theorem dX10_nextRow_90 : decode cX10_nextRow 90 = .ok (.invokevirtual 232, 3) := by decide +kernel
theorem dX10_nextRow_93 : decode cX10_nextRow 93 = .ok (.iinc 4 1, 3) := by decide +kernel
theorem dX10_nextRow_96 : decode cX10_nextRow 96 = .ok (.iinc 5 (-1), 3) := by decide +kernel
theorem dX10_nextRow_99 : decode cX10_nextRow 99 = .ok (.goto (-21), 3) := by decide +kernel
theorem dX10_nextRow_102 : decode cX10_nextRow 102 = .ok (.iconst 1, 1) := by decide +kernel
theorem dX10_nextRow_103 : decode cX10_nextRow 103 = .ok (.ireturn, 1) := by decide +kernel
theorem dX10_bestWay_0 : decode cX10_bestWay 0 = .ok (.iload_n 1, 1) := by decide +kernel
theorem dX10_bestWay_1 : decode cX10_bestWay 1 = .ok (.invokestatic 203, 3) := by decide +kernel
theorem dX10_bestWay_4 : decode cX10_bestWay 4 = .ok (.ifCond .eq 15, 3) := by decide +kernel
theorem dX10_bestWay_7 : decode cX10_bestWay 7 = .ok (.iload_n 2, 1) := by decide +kernel
theorem dX10_bestWay_8 : decode cX10_bestWay 8 = .ok (.i2l, 1) := by decide +kernel
theorem dX10_bestWay_9 : decode cX10_bestWay 9 = .ok (.lconst 0, 1) := by decide +kernel
theorem dX10_bestWay_10 : decode cX10_bestWay 10 = .ok (.ldc2_w 235, 3) := by decide +kernel
theorem dX10_bestWay_13 : decode cX10_bestWay 13 = .ok (.invokestatic 68, 3) := by decide +kernel
theorem dX10_bestWay_16 : decode cX10_bestWay 16 = .ok (.ifCond .ne 6, 3) := by decide +kernel
theorem dX10_bestWay_19 : decode cX10_bestWay 19 = .ok (.ldc 72, 2) := by decide +kernel
theorem dX10_bestWay_21 : decode cX10_bestWay 21 = .ok (.ireturn, 1) := by decide +kernel
theorem dX10_bestWay_22 : decode cX10_bestWay 22 = .ok (.aload_n 0, 1) := by decide +kernel
theorem dX10_bestWay_23 : decode cX10_bestWay 23 = .ok (.invokevirtual 237, 3) := by decide +kernel
theorem dX10_bestWay_26 : decode cX10_bestWay 26 = .ok (.istore_n 3, 1) := by decide +kernel
theorem dX10_bestWay_27 : decode cX10_bestWay 27 = .ok (.iconst 0, 1) := by decide +kernel
theorem dX10_bestWay_28 : decode cX10_bestWay 28 = .ok (.istore 4, 2) := by decide +kernel
theorem dX10_bestWay_30 : decode cX10_bestWay 30 = .ok (.iconst 0, 1) := by decide +kernel
theorem dX10_bestWay_31 : decode cX10_bestWay 31 = .ok (.istore 5, 2) := by decide +kernel
theorem dX10_bestWay_33 : decode cX10_bestWay 33 = .ok (.iload 5, 2) := by decide +kernel
theorem dX10_bestWay_35 : decode cX10_bestWay 35 = .ok (.aload_n 0, 1) := by decide +kernel
theorem dX10_bestWay_36 : decode cX10_bestWay 36 = .ok (.getfield 131, 3) := by decide +kernel
theorem dX10_bestWay_39 : decode cX10_bestWay 39 = .ok (.if_icmp .ge 48, 3) := by decide +kernel
theorem dX10_bestWay_42 : decode cX10_bestWay 42 = .ok (.aload_n 0, 1) := by decide +kernel
theorem dX10_bestWay_43 : decode cX10_bestWay 43 = .ok (.getfield 48, 3) := by decide +kernel
theorem dX10_bestWay_46 : decode cX10_bestWay 46 = .ok (.iload 4, 2) := by decide +kernel
theorem dX10_bestWay_48 : decode cX10_bestWay 48 = .ok (.iload_n 3, 1) := by decide +kernel
theorem dX10_bestWay_49 : decode cX10_bestWay 49 = .ok (.iload 5, 2) := by decide +kernel
theorem dX10_bestWay_51 : decode cX10_bestWay 51 = .ok (.invokestatic 154, 3) := by decide +kernel
theorem dX10_bestWay_54 : decode cX10_bestWay 54 = .ok (.ifCond .eq 8, 3) := by decide +kernel
theorem dX10_bestWay_57 : decode cX10_bestWay 57 = .ok (.iload 5, 2) := by decide +kernel
theorem dX10_bestWay_59 : decode cX10_bestWay 59 = .ok (.goto 10, 3) := by decide +kernel
theorem dX10_bestWay_62 : decode cX10_bestWay 62 = .ok (.aload_n 0, 1) := by decide +kernel
theorem dX10_bestWay_63 : decode cX10_bestWay 63 = .ok (.getfield 48, 3) := by decide +kernel
theorem dX10_bestWay_66 : decode cX10_bestWay 66 = .ok (.iload 4, 2) := by decide +kernel
theorem dX10_bestWay_68 : decode cX10_bestWay 68 = .ok (.iaload, 1) := by decide +kernel
theorem dX10_bestWay_69 : decode cX10_bestWay 69 = .ok (.iastore, 1) := by decide +kernel
theorem dX10_bestWay_70 : decode cX10_bestWay 70 = .ok (.iload 4, 2) := by decide +kernel
theorem dX10_bestWay_72 : decode cX10_bestWay 72 = .ok (.iload_n 3, 1) := by decide +kernel
theorem dX10_bestWay_73 : decode cX10_bestWay 73 = .ok (.iload 5, 2) := by decide +kernel
theorem dX10_bestWay_75 : decode cX10_bestWay 75 = .ok (.ishr, 1) := by decide +kernel
theorem dX10_bestWay_76 : decode cX10_bestWay 76 = .ok (.iconst 1, 1) := by decide +kernel
theorem dX10_bestWay_77 : decode cX10_bestWay 77 = .ok (.iand, 1) := by decide +kernel
theorem dX10_bestWay_78 : decode cX10_bestWay 78 = .ok (.iadd, 1) := by decide +kernel
theorem dX10_bestWay_79 : decode cX10_bestWay 79 = .ok (.istore 4, 2) := by decide +kernel
theorem dX10_bestWay_81 : decode cX10_bestWay 81 = .ok (.iinc 5 1, 3) := by decide +kernel
theorem dX10_bestWay_84 : decode cX10_bestWay 84 = .ok (.goto (-51), 3) := by decide +kernel
theorem dX10_bestWay_87 : decode cX10_bestWay 87 = .ok (.iload 4, 2) := by decide +kernel
theorem dX10_bestWay_89 : decode cX10_bestWay 89 = .ok (.ifCond .ne 5, 3) := by decide +kernel
theorem dX10_bestWay_92 : decode cX10_bestWay 92 = .ok (.iconst (-1), 1) := by decide +kernel
theorem dX10_bestWay_93 : decode cX10_bestWay 93 = .ok (.ireturn, 1) := by decide +kernel
theorem dX10_bestWay_94 : decode cX10_bestWay 94 = .ok (.iconst (-1), 1) := by decide +kernel
theorem dX10_bestWay_95 : decode cX10_bestWay 95 = .ok (.istore 5, 2) := by decide +kernel
theorem dX10_bestWay_97 : decode cX10_bestWay 97 = .ok (.iconst (-1), 1) := by decide +kernel
theorem dX10_bestWay_98 : decode cX10_bestWay 98 = .ok (.istore 6, 2) := by decide +kernel
theorem dX10_bestWay_100 : decode cX10_bestWay 100 = .ok (.ldc 240, 2) := by decide +kernel
theorem dX10_bestWay_102 : decode cX10_bestWay 102 = .ok (.istore 7, 2) := by decide +kernel
theorem dX10_bestWay_104 : decode cX10_bestWay 104 = .ok (.iconst 1, 1) := by decide +kernel
theorem dX10_bestWay_105 : decode cX10_bestWay 105 = .ok (.istore 8, 2) := by decide +kernel
theorem dX10_bestWay_107 : decode cX10_bestWay 107 = .ok (.iload 8, 2) := by decide +kernel
theorem dX10_bestWay_109 : decode cX10_bestWay 109 = .ok (.ifCond .eq 70, 3) := by decide +kernel
theorem dX10_bestWay_112 : decode cX10_bestWay 112 = .ok (.aload_n 0, 1) := by decide +kernel
theorem dX10_bestWay_113 : decode cX10_bestWay 113 = .ok (.iload 4, 2) := by decide +kernel
theorem dX10_bestWay_115 : decode cX10_bestWay 115 = .ok (.invokevirtual 241, 3) := by decide +kernel
theorem dX10_bestWay_118 : decode cX10_bestWay 118 = .ok (.istore 9, 2) := by decide +kernel
theorem dX10_bestWay_120 : decode cX10_bestWay 120 = .ok (.aload_n 0, 1) := by decide +kernel
theorem dX10_bestWay_121 : decode cX10_bestWay 121 = .ok (.iload 9, 2) := by decide +kernel
theorem dX10_bestWay_123 : decode cX10_bestWay 123 = .ok (.iload_n 1, 1) := by decide +kernel
theorem dX10_bestWay_124 : decode cX10_bestWay 124 = .ok (.invokevirtual 224, 3) := by decide +kernel
theorem dX10_bestWay_127 : decode cX10_bestWay 127 = .ok (.istore 10, 2) := by decide +kernel
theorem dX10_bestWay_129 : decode cX10_bestWay 129 = .ok (.aload_n 0, 1) := by decide +kernel
theorem dX10_bestWay_130 : decode cX10_bestWay 130 = .ok (.getfield 176, 3) := by decide +kernel
theorem dX10_bestWay_133 : decode cX10_bestWay 133 = .ok (.iload 6, 2) := by decide +kernel
theorem dX10_bestWay_135 : decode cX10_bestWay 135 = .ok (.if_icmp .gt 19, 3) := by decide +kernel
theorem dX10_bestWay_138 : decode cX10_bestWay 138 = .ok (.aload_n 0, 1) := by decide +kernel
theorem dX10_bestWay_139 : decode cX10_bestWay 139 = .ok (.getfield 176, 3) := by decide +kernel
theorem dX10_bestWay_142 : decode cX10_bestWay 142 = .ok (.iload 6, 2) := by decide +kernel
theorem dX10_bestWay_144 : decode cX10_bestWay 144 = .ok (.if_icmp .ne 24, 3) := by decide +kernel
theorem dX10_bestWay_147 : decode cX10_bestWay 147 = .ok (.iload 10, 2) := by decide +kernel
theorem dX10_bestWay_149 : decode cX10_bestWay 149 = .ok (.iload 7, 2) := by decide +kernel
theorem dX10_bestWay_151 : decode cX10_bestWay 151 = .ok (.if_icmp .ge 17, 3) := by decide +kernel
theorem dX10_bestWay_154 : decode cX10_bestWay 154 = .ok (.iload 9, 2) := by decide +kernel
theorem dX10_bestWay_156 : decode cX10_bestWay 156 = .ok (.istore 5, 2) := by decide +kernel
theorem dX10_bestWay_158 : decode cX10_bestWay 158 = .ok (.aload_n 0, 1) := by decide +kernel
theorem dX10_bestWay_159 : decode cX10_bestWay 159 = .ok (.getfield 176, 3) := by decide +kernel
theorem dX10_bestWay_162 : decode cX10_bestWay 162 = .ok (.istore 6, 2) := by decide +kernel
theorem dX10_bestWay_164 : decode cX10_bestWay 164 = .ok (.iload 10, 2) := by decide +kernel
theorem dX10_bestWay_166 : decode cX10_bestWay 166 = .ok (.istore 7, 2) := by decide +kernel
theorem dX10_bestWay_168 : decode cX10_bestWay 168 = .ok (.aload_n 0, 1) := by decide +kernel
theorem dX10_bestWay_169 : decode cX10_bestWay 169 = .ok (.iload 4, 2) := by decide +kernel
theorem dX10_bestWay_171 : decode cX10_bestWay 171 = .ok (.invokevirtual 244, 3) := by decide +kernel
theorem dX10_bestWay_174 : decode cX10_bestWay 174 = .ok (.istore 8, 2) := by decide +kernel
theorem dX10_bestWay_176 : decode cX10_bestWay 176 = .ok (.goto (-69), 3) := by decide +kernel
theorem dX10_bestWay_179 : decode cX10_bestWay 179 = .ok (.iload_n 2, 1) := by decide +kernel
theorem dX10_bestWay_180 : decode cX10_bestWay 180 = .ok (.ifCond .ne 8, 3) := by decide +kernel
theorem dX10_bestWay_183 : decode cX10_bestWay 183 = .ok (.iload 5, 2) := by decide +kernel
theorem dX10_bestWay_185 : decode cX10_bestWay 185 = .ok (.goto 15, 3) := by decide +kernel
theorem dX10_bestWay_188 : decode cX10_bestWay 188 = .ok (.iload_n 2, 1) := by decide +kernel
theorem dX10_bestWay_189 : decode cX10_bestWay 189 = .ok (.iconst 1, 1) := by decide +kernel
theorem dX10_bestWay_190 : decode cX10_bestWay 190 = .ok (.if_icmp .ne 8, 3) := by decide +kernel
theorem dX10_bestWay_193 : decode cX10_bestWay 193 = .ok (.iload 6, 2) := by decide +kernel
theorem dX10_bestWay_195 : decode cX10_bestWay 195 = .ok (.goto 5, 3) := by decide +kernel
theorem dX10_bestWay_198 : decode cX10_bestWay 198 = .ok (.iload 7, 2) := by decide +kernel
theorem dX10_bestWay_200 : decode cX10_bestWay 200 = .ok (.ireturn, 1) := by decide +kernel
theorem dX10_pretends_0 : decode cX10_pretends 0 = .ok (.aload_n 0, 1) := by decide +kernel
theorem dX10_pretends_1 : decode cX10_pretends 1 = .ok (.iload_n 1, 1) := by decide +kernel
theorem dX10_pretends_2 : decode cX10_pretends 2 = .ok (.invokevirtual 200, 3) := by decide +kernel
theorem dX10_pretends_5 : decode cX10_pretends 5 = .ok (.ifCond .ne 6, 3) := by decide +kernel
theorem dX10_pretends_8 : decode cX10_pretends 8 = .ok (.ldc 167, 2) := by decide +kernel
theorem dX10_pretends_10 : decode cX10_pretends 10 = .ok (.ireturn, 1) := by decide +kernel
theorem dX10_pretends_11 : decode cX10_pretends 11 = .ok (.iload_n 2, 1) := by decide +kernel
theorem dX10_pretends_12 : decode cX10_pretends 12 = .ok (.invokestatic 203, 3) := by decide +kernel
theorem dX10_pretends_15 : decode cX10_pretends 15 = .ok (.ifCond .eq 13, 3) := by decide +kernel
theorem dX10_pretends_18 : decode cX10_pretends 18 = .ok (.iload_n 3, 1) := by decide +kernel
theorem dX10_pretends_19 : decode cX10_pretends 19 = .ok (.i2l, 1) := by decide +kernel
theorem dX10_pretends_20 : decode cX10_pretends 20 = .ok (.lconst 0, 1) := by decide +kernel
theorem dX10_pretends_21 : decode cX10_pretends 21 = .ok (.lconst 1, 1) := by decide +kernel
theorem dX10_pretends_22 : decode cX10_pretends 22 = .ok (.invokestatic 68, 3) := by decide +kernel
theorem dX10_pretends_25 : decode cX10_pretends 25 = .ok (.ifCond .ne 6, 3) := by decide +kernel
theorem dX10_pretends_28 : decode cX10_pretends 28 = .ok (.ldc 72, 2) := by decide +kernel
theorem dX10_pretends_30 : decode cX10_pretends 30 = .ok (.ireturn, 1) := by decide +kernel
theorem dX10_pretends_31 : decode cX10_pretends 31 = .ok (.aload_n 0, 1) := by decide +kernel
theorem dX10_pretends_32 : decode cX10_pretends 32 = .ok (.iload_n 1, 1) := by decide +kernel
theorem dX10_pretends_33 : decode cX10_pretends 33 = .ok (.iconst 0, 1) := by decide +kernel
theorem dX10_pretends_34 : decode cX10_pretends 34 = .ok (.invokevirtual 224, 3) := by decide +kernel
theorem dX10_pretends_37 : decode cX10_pretends 37 = .ok (.istore 4, 2) := by decide +kernel
theorem dX10_pretends_39 : decode cX10_pretends 39 = .ok (.aload_n 0, 1) := by decide +kernel
theorem dX10_pretends_40 : decode cX10_pretends 40 = .ok (.getfield 176, 3) := by decide +kernel
theorem dX10_pretends_43 : decode cX10_pretends 43 = .ok (.istore 5, 2) := by decide +kernel
theorem dX10_pretends_45 : decode cX10_pretends 45 = .ok (.aload_n 0, 1) := by decide +kernel
theorem dX10_pretends_46 : decode cX10_pretends 46 = .ok (.iload_n 1, 1) := by decide +kernel
theorem dX10_pretends_47 : decode cX10_pretends 47 = .ok (.iload_n 2, 1) := by decide +kernel
theorem dX10_pretends_48 : decode cX10_pretends 48 = .ok (.invokevirtual 224, 3) := by decide +kernel
theorem dX10_pretends_51 : decode cX10_pretends 51 = .ok (.istore 6, 2) := by decide +kernel
theorem dX10_pretends_53 : decode cX10_pretends 53 = .ok (.iload_n 3, 1) := by decide +kernel
theorem dX10_pretends_54 : decode cX10_pretends 54 = .ok (.ifCond .ne 11, 3) := by decide +kernel
theorem dX10_pretends_57 : decode cX10_pretends 57 = .ok (.iload 4, 2) := by decide +kernel
theorem dX10_pretends_59 : decode cX10_pretends 59 = .ok (.iload 6, 2) := by decide +kernel
theorem dX10_pretends_61 : decode cX10_pretends 61 = .ok (.isub, 1) := by decide +kernel
theorem dX10_pretends_62 : decode cX10_pretends 62 = .ok (.goto 13, 3) := by decide +kernel
theorem dX10_pretends_65 : decode cX10_pretends 65 = .ok (.iload 5, 2) := by decide +kernel
theorem dX10_pretends_67 : decode cX10_pretends 67 = .ok (.aload_n 0, 1) := by decide +kernel
theorem dX10_pretends_68 : decode cX10_pretends 68 = .ok (.getfield 176, 3) := by decide +kernel
theorem dX10_pretends_71 : decode cX10_pretends 71 = .ok (.isub, 1) := by decide +kernel
theorem dX10_pretends_72 : decode cX10_pretends 72 = .ok (.bipush 100, 2) := by decide +kernel
theorem dX10_pretends_74 : decode cX10_pretends 74 = .ok (.iadd, 1) := by decide +kernel
theorem dX10_pretends_75 : decode cX10_pretends 75 = .ok (.ireturn, 1) := by decide +kernel
theorem dX10_locker_0 : decode cX10_locker 0 = .ok (.aload_n 0, 1) := by decide +kernel
theorem dX10_locker_1 : decode cX10_locker 1 = .ok (.iload_n 1, 1) := by decide +kernel
theorem dX10_locker_2 : decode cX10_locker 2 = .ok (.invokevirtual 200, 3) := by decide +kernel
theorem dX10_locker_5 : decode cX10_locker 5 = .ok (.ifCond .ne 6, 3) := by decide +kernel
theorem dX10_locker_8 : decode cX10_locker 8 = .ok (.ldc 167, 2) := by decide +kernel
theorem dX10_locker_10 : decode cX10_locker 10 = .ok (.ireturn, 1) := by decide +kernel
theorem dX10_locker_11 : decode cX10_locker 11 = .ok (.iload_n 2, 1) := by decide +kernel
theorem dX10_locker_12 : decode cX10_locker 12 = .ok (.i2l, 1) := by decide +kernel
theorem dX10_locker_13 : decode cX10_locker 13 = .ok (.lconst 0, 1) := by decide +kernel
theorem dX10_locker_14 : decode cX10_locker 14 = .ok (.ldc2_w 227, 3) := by decide +kernel
theorem dX10_locker_17 : decode cX10_locker 17 = .ok (.invokestatic 68, 3) := by decide +kernel
theorem dX10_locker_20 : decode cX10_locker 20 = .ok (.ifCond .eq 13, 3) := by decide +kernel
theorem dX10_locker_23 : decode cX10_locker 23 = .ok (.iload_n 3, 1) := by decide +kernel
theorem dX10_locker_24 : decode cX10_locker 24 = .ok (.i2l, 1) := by decide +kernel
theorem dX10_locker_25 : decode cX10_locker 25 = .ok (.lconst 0, 1) := by decide +kernel
theorem dX10_locker_26 : decode cX10_locker 26 = .ok (.lconst 1, 1) := by decide +kernel
theorem dX10_locker_27 : decode cX10_locker 27 = .ok (.invokestatic 68, 3) := by decide +kernel
theorem dX10_locker_30 : decode cX10_locker 30 = .ok (.ifCond .ne 6, 3) := by decide +kernel
theorem dX10_locker_33 : decode cX10_locker 33 = .ok (.ldc 72, 2) := by decide +kernel
theorem dX10_locker_35 : decode cX10_locker 35 = .ok (.ireturn, 1) := by decide +kernel
theorem dX10_locker_36 : decode cX10_locker 36 = .ok (.aload_n 0, 1) := by decide +kernel
theorem dX10_locker_37 : decode cX10_locker 37 = .ok (.iload_n 1, 1) := by decide +kernel
theorem dX10_locker_38 : decode cX10_locker 38 = .ok (.iconst 0, 1) := by decide +kernel
theorem dX10_locker_39 : decode cX10_locker 39 = .ok (.invokevirtual 224, 3) := by decide +kernel
theorem dX10_locker_42 : decode cX10_locker 42 = .ok (.istore 4, 2) := by decide +kernel
theorem dX10_locker_44 : decode cX10_locker 44 = .ok (.iconst 0, 1) := by decide +kernel
theorem dX10_locker_45 : decode cX10_locker 45 = .ok (.istore 5, 2) := by decide +kernel
theorem dX10_locker_47 : decode cX10_locker 47 = .ok (.iconst 0, 1) := by decide +kernel
theorem dX10_locker_48 : decode cX10_locker 48 = .ok (.istore 6, 2) := by decide +kernel
theorem dX10_locker_50 : decode cX10_locker 50 = .ok (.iconst 0, 1) := by decide +kernel
theorem dX10_locker_51 : decode cX10_locker 51 = .ok (.istore 7, 2) := by decide +kernel
theorem dX10_locker_53 : decode cX10_locker 53 = .ok (.iload 7, 2) := by decide +kernel
theorem dX10_locker_55 : decode cX10_locker 55 = .ok (.bipush 100, 2) := by decide +kernel
theorem dX10_locker_57 : decode cX10_locker 57 = .ok (.if_icmp .ge 103, 3) := by decide +kernel
theorem dX10_locker_60 : decode cX10_locker 60 = .ok (.iconst 0, 1) := by decide +kernel
theorem dX10_locker_61 : decode cX10_locker 61 = .ok (.istore 8, 2) := by decide +kernel
theorem dX10_locker_63 : decode cX10_locker 63 = .ok (.iconst 0, 1) := by decide +kernel
theorem dX10_locker_64 : decode cX10_locker 64 = .ok (.istore 9, 2) := by decide +kernel
theorem dX10_locker_66 : decode cX10_locker 66 = .ok (.iload 9, 2) := by decide +kernel
theorem dX10_locker_68 : decode cX10_locker 68 = .ok (.aload_n 0, 1) := by decide +kernel
theorem dX10_locker_69 : decode cX10_locker 69 = .ok (.getfield 131, 3) := by decide +kernel
theorem dX10_locker_72 : decode cX10_locker 72 = .ok (.if_icmp .ge 50, 3) := by decide +kernel
theorem dX10_locker_75 : decode cX10_locker 75 = .ok (.iload 8, 2) := by decide +kernel
theorem dX10_locker_77 : decode cX10_locker 77 = .ok (.aload_n 0, 1) := by decide +kernel
theorem dX10_locker_78 : decode cX10_locker 78 = .ok (.getfield 179, 3) := by decide +kernel
theorem dX10_locker_81 : decode cX10_locker 81 = .ok (.iload 9, 2) := by decide +kernel
theorem dX10_locker_83 : decode cX10_locker 83 = .ok (.invokestatic 154, 3) := by decide +kernel
theorem dX10_locker_86 : decode cX10_locker 86 = .ok (.ifCond .eq 23, 3) := by decide +kernel
theorem dX10_locker_89 : decode cX10_locker 89 = .ok (.aload_n 0, 1) := by decide +kernel
theorem dX10_locker_90 : decode cX10_locker 90 = .ok (.getfield 20, 3) := by decide +kernel
theorem dX10_locker_93 : decode cX10_locker 93 = .ok (.iload 9, 2) := by decide +kernel
theorem dX10_locker_95 : decode cX10_locker 95 = .ok (.iaload, 1) := by decide +kernel
theorem dX10_locker_96 : decode cX10_locker 96 = .ok (.iload 7, 2) := by decide +kernel
theorem dX10_locker_98 : decode cX10_locker 98 = .ok (.invokestatic 185, 3) := by decide +kernel
theorem dX10_locker_101 : decode cX10_locker 101 = .ok (.iload_n 2, 1) := by decide +kernel
theorem dX10_locker_102 : decode cX10_locker 102 = .ok (.if_icmp .gt 7, 3) := by decide +kernel
theorem dX10_locker_105 : decode cX10_locker 105 = .ok (.iconst 1, 1) := by decide +kernel
theorem dX10_locker_106 : decode cX10_locker 106 = .ok (.goto 4, 3) := by decide +kernel
theorem dX10_locker_109 : decode cX10_locker 109 = .ok (.iconst 0, 1) := by decide +kernel
theorem dX10_locker_110 : decode cX10_locker 110 = .ok (.invokestatic 160, 3) := by decide +kernel
theorem dX10_locker_113 : decode cX10_locker 113 = .ok (.iadd, 1) := by decide +kernel
theorem dX10_locker_114 : decode cX10_locker 114 = .ok (.istore 8, 2) := by decide +kernel
theorem dX10_locker_116 : decode cX10_locker 116 = .ok (.iinc 9 1, 3) := by decide +kernel
theorem dX10_locker_119 : decode cX10_locker 119 = .ok (.goto (-53), 3) := by decide +kernel
theorem dX10_locker_122 : decode cX10_locker 122 = .ok (.iload 8, 2) := by decide +kernel
theorem dX10_locker_124 : decode cX10_locker 124 = .ok (.iload 6, 2) := by decide +kernel
theorem dX10_locker_126 : decode cX10_locker 126 = .ok (.if_icmp .le 8, 3) := by decide +kernel
theorem dX10_locker_129 : decode cX10_locker 129 = .ok (.iload 7, 2) := by decide +kernel
theorem dX10_locker_131 : decode cX10_locker 131 = .ok (.goto 5, 3) := by decide +kernel
theorem dX10_locker_134 : decode cX10_locker 134 = .ok (.iload 5, 2) := by decide +kernel
theorem dX10_locker_136 : decode cX10_locker 136 = .ok (.istore 5, 2) := by decide +kernel
theorem dX10_locker_138 : decode cX10_locker 138 = .ok (.iload 8, 2) := by decide +kernel
theorem dX10_locker_140 : decode cX10_locker 140 = .ok (.iload 6, 2) := by decide +kernel
theorem dX10_locker_142 : decode cX10_locker 142 = .ok (.if_icmp .le 8, 3) := by decide +kernel
theorem dX10_locker_145 : decode cX10_locker 145 = .ok (.iload 8, 2) := by decide +kernel
theorem dX10_locker_147 : decode cX10_locker 147 = .ok (.goto 5, 3) := by decide +kernel
theorem dX10_locker_150 : decode cX10_locker 150 = .ok (.iload 6, 2) := by decide +kernel
theorem dX10_locker_152 : decode cX10_locker 152 = .ok (.istore 6, 2) := by decide +kernel
theorem dX10_locker_154 : decode cX10_locker 154 = .ok (.iinc 7 1, 3) := by decide +kernel
theorem dX10_locker_157 : decode cX10_locker 157 = .ok (.goto (-104), 3) := by decide +kernel
theorem dX10_locker_160 : decode cX10_locker 160 = .ok (.iload_n 3, 1) := by decide +kernel
theorem dX10_locker_161 : decode cX10_locker 161 = .ok (.ifCond .ne 8, 3) := by decide +kernel
theorem dX10_locker_164 : decode cX10_locker 164 = .ok (.iload 5, 2) := by decide +kernel
theorem dX10_locker_166 : decode cX10_locker 166 = .ok (.goto 5, 3) := by decide +kernel
theorem dX10_locker_169 : decode cX10_locker 169 = .ok (.iload 6, 2) := by decide +kernel
theorem dX10_locker_171 : decode cX10_locker 171 = .ok (.ireturn, 1) := by decide +kernel
theorem dX10_bears_0 : decode cX10_bears 0 = .ok (.aload_n 0, 1) := by decide +kernel
theorem dX10_bears_1 : decode cX10_bears 1 = .ok (.iload_n 1, 1) := by decide +kernel
theorem dX10_bears_2 : decode cX10_bears 2 = .ok (.invokevirtual 150, 3) := by decide +kernel
theorem dX10_bears_5 : decode cX10_bears 5 = .ok (.ifCond .ne 6, 3) := by decide +kernel
theorem dX10_bears_8 : decode cX10_bears 8 = .ok (.ldc 167, 2) := by decide +kernel
theorem dX10_bears_10 : decode cX10_bears 10 = .ok (.ireturn, 1) := by decide +kernel
theorem dX10_bears_11 : decode cX10_bears 11 = .ok (.aload_n 0, 1) := by decide +kernel
theorem dX10_bears_12 : decode cX10_bears 12 = .ok (.getfield 29, 3) := by decide +kernel
theorem dX10_bears_15 : decode cX10_bears 15 = .ok (.iload_n 1, 1) := by decide +kernel
theorem dX10_bears_16 : decode cX10_bears 16 = .ok (.iaload, 1) := by decide +kernel
theorem dX10_bears_17 : decode cX10_bears 17 = .ok (.iconst (-1), 1) := by decide +kernel
theorem dX10_bears_18 : decode cX10_bears 18 = .ok (.if_icmp .ne 7, 3) := by decide +kernel
theorem dX10_bears_21 : decode cX10_bears 21 = .ok (.iconst 0, 1) := by decide +kernel
theorem dX10_bears_22 : decode cX10_bears 22 = .ok (.goto 19, 3) := by decide +kernel
theorem dX10_bears_25 : decode cX10_bears 25 = .ok (.aload_n 0, 1) := by decide +kernel
theorem dX10_bears_26 : decode cX10_bears 26 = .ok (.getfield 32, 3) := by decide +kernel
theorem dX10_bears_29 : decode cX10_bears 29 = .ok (.iload_n 1, 1) := by decide +kernel
theorem dX10_bears_30 : decode cX10_bears 30 = .ok (.iaload, 1) := by decide +kernel
theorem dX10_bears_31 : decode cX10_bears 31 = .ok (.aload_n 0, 1) := by decide +kernel
theorem dX10_bears_32 : decode cX10_bears 32 = .ok (.getfield 7, 3) := by decide +kernel
theorem dX10_bears_35 : decode cX10_bears 35 = .ok (.bipush 7, 2) := by decide +kernel
theorem dX10_bears_37 : decode cX10_bears 37 = .ok (.iload_n 1, 1) := by decide +kernel
theorem dX10_bears_38 : decode cX10_bears 38 = .ok (.iadd, 1) := by decide +kernel
theorem dX10_bears_39 : decode cX10_bears 39 = .ok (.iaload, 1) := by decide +kernel
theorem dX10_bears_40 : decode cX10_bears 40 = .ok (.isub, 1) := by decide +kernel
theorem dX10_bears_41 : decode cX10_bears 41 = .ok (.ireturn, 1) := by decide +kernel
theorem dX10_heard_0 : decode cX10_heard 0 = .ok (.iload_n 1, 1) := by decide +kernel
theorem dX10_heard_1 : decode cX10_heard 1 = .ok (.i2l, 1) := by decide +kernel
theorem dX10_heard_2 : decode cX10_heard 2 = .ok (.lconst 0, 1) := by decide +kernel
theorem dX10_heard_3 : decode cX10_heard 3 = .ok (.ldc2_w 247, 3) := by decide +kernel
theorem dX10_heard_6 : decode cX10_heard 6 = .ok (.invokestatic 68, 3) := by decide +kernel
theorem dX10_heard_9 : decode cX10_heard 9 = .ok (.ifCond .eq 15, 3) := by decide +kernel
theorem dX10_heard_12 : decode cX10_heard 12 = .ok (.iload_n 2, 1) := by decide +kernel
theorem dX10_heard_13 : decode cX10_heard 13 = .ok (.i2l, 1) := by decide +kernel
theorem dX10_heard_14 : decode cX10_heard 14 = .ok (.lconst 0, 1) := by decide +kernel
theorem dX10_heard_15 : decode cX10_heard 15 = .ok (.ldc2_w 249, 3) := by decide +kernel
theorem dX10_heard_18 : decode cX10_heard 18 = .ok (.invokestatic 68, 3) := by decide +kernel
theorem dX10_heard_21 : decode cX10_heard 21 = .ok (.ifCond .ne 6, 3) := by decide +kernel
theorem dX10_heard_24 : decode cX10_heard 24 = .ok (.ldc 72, 2) := by decide +kernel
theorem dX10_heard_26 : decode cX10_heard 26 = .ok (.ireturn, 1) := by decide +kernel
theorem dX10_heard_27 : decode cX10_heard 27 = .ok (.ldc2_w 251, 3) := by decide +kernel
theorem dX10_heard_30 : decode cX10_heard 30 = .ok (.lstore_n 3, 1) := by decide +kernel
theorem dX10_heard_31 : decode cX10_heard 31 = .ok (.iconst 0, 1) := by decide +kernel
theorem dX10_heard_32 : decode cX10_heard 32 = .ok (.istore 5, 2) := by decide +kernel
theorem dX10_heard_34 : decode cX10_heard 34 = .ok (.iload 5, 2) := by decide +kernel
theorem dX10_heard_36 : decode cX10_heard 36 = .ok (.iload_n 1, 1) := by decide +kernel
theorem dX10_heard_37 : decode cX10_heard 37 = .ok (.if_icmp .ge 21, 3) := by decide +kernel
theorem dX10_heard_40 : decode cX10_heard 40 = .ok (.lload_n 3, 1) := by decide +kernel
theorem dX10_heard_41 : decode cX10_heard 41 = .ok (.bipush 100, 2) := by decide +kernel
theorem dX10_heard_43 : decode cX10_heard 43 = .ok (.iload_n 2, 1) := by decide +kernel
theorem dX10_heard_44 : decode cX10_heard 44 = .ok (.isub, 1) := by decide +kernel
theorem dX10_heard_45 : decode cX10_heard 45 = .ok (.i2l, 1) := by decide +kernel
theorem dX10_heard_46 : decode cX10_heard 46 = .ok (.lmul, 1) := by decide +kernel
theorem dX10_heard_47 : decode cX10_heard 47 = .ok (.ldc2_w 249, 3) := by decide +kernel
theorem dX10_heard_50 : decode cX10_heard 50 = .ok (.ldiv, 1) := by decide +kernel
theorem dX10_heard_51 : decode cX10_heard 51 = .ok (.lstore_n 3, 1) := by decide +kernel
theorem dX10_heard_52 : decode cX10_heard 52 = .ok (.iinc 5 1, 3) := by decide +kernel
theorem dX10_heard_55 : decode cX10_heard 55 = .ok (.goto (-21), 3) := by decide +kernel
theorem dX10_heard_58 : decode cX10_heard 58 = .ok (.ldc2_w 251, 3) := by decide +kernel
theorem dX10_heard_61 : decode cX10_heard 61 = .ok (.lload_n 3, 1) := by decide +kernel
theorem dX10_heard_62 : decode cX10_heard 62 = .ok (.lsub, 1) := by decide +kernel
theorem dX10_heard_63 : decode cX10_heard 63 = .ok (.l2i, 1) := by decide +kernel
theorem dX10_heard_64 : decode cX10_heard 64 = .ok (.ireturn, 1) := by decide +kernel
theorem dX10_see_0 : decode cX10_see 0 = .ok (.aload_n 0, 1) := by decide +kernel
theorem dX10_see_1 : decode cX10_see 1 = .ok (.iload_n 1, 1) := by decide +kernel
theorem dX10_see_2 : decode cX10_see 2 = .ok (.invokevirtual 150, 3) := by decide +kernel
theorem dX10_see_5 : decode cX10_see 5 = .ok (.ifCond .ne 6, 3) := by decide +kernel
theorem dX10_see_8 : decode cX10_see 8 = .ok (.ldc 167, 2) := by decide +kernel
theorem dX10_see_10 : decode cX10_see 10 = .ok (.ireturn, 1) := by decide +kernel
theorem dX10_see_11 : decode cX10_see 11 = .ok (.aload_n 0, 1) := by decide +kernel
theorem dX10_see_12 : decode cX10_see 12 = .ok (.getfield 137, 3) := by decide +kernel
theorem dX10_see_15 : decode cX10_see 15 = .ok (.bipush 6, 2) := by decide +kernel
theorem dX10_see_17 : decode cX10_see 17 = .ok (.if_icmp .ne 6, 3) := by decide +kernel
theorem dX10_see_20 : decode cX10_see 20 = .ok (.ldc 76, 2) := by decide +kernel
theorem dX10_see_22 : decode cX10_see 22 = .ok (.ireturn, 1) := by decide +kernel
theorem dX10_see_23 : decode cX10_see 23 = .ok (.aload_n 0, 1) := by decide +kernel
theorem dX10_see_24 : decode cX10_see 24 = .ok (.getfield 51, 3) := by decide +kernel
theorem dX10_see_27 : decode cX10_see 27 = .ok (.aload_n 0, 1) := by decide +kernel
theorem dX10_see_28 : decode cX10_see 28 = .ok (.getfield 137, 3) := by decide +kernel
theorem dX10_see_31 : decode cX10_see 31 = .ok (.iload_n 1, 1) := by decide +kernel
theorem dX10_see_32 : decode cX10_see 32 = .ok (.iastore, 1) := by decide +kernel
theorem dX10_see_33 : decode cX10_see 33 = .ok (.aload_n 0, 1) := by decide +kernel
theorem dX10_see_34 : decode cX10_see 34 = .ok (.getfield 54, 3) := by decide +kernel
theorem dX10_see_37 : decode cX10_see 37 = .ok (.aload_n 0, 1) := by decide +kernel
theorem dX10_see_38 : decode cX10_see 38 = .ok (.getfield 137, 3) := by decide +kernel
theorem dX10_see_41 : decode cX10_see 41 = .ok (.iload_n 2, 1) := by decide +kernel
theorem dX10_see_42 : decode cX10_see 42 = .ok (.bastore, 1) := by decide +kernel
theorem dX10_see_43 : decode cX10_see 43 = .ok (.aload_n 0, 1) := by decide +kernel
theorem dX10_see_44 : decode cX10_see 44 = .ok (.dup, 1) := by decide +kernel
theorem dX10_see_45 : decode cX10_see 45 = .ok (.getfield 137, 3) := by decide +kernel
theorem dX10_see_48 : decode cX10_see 48 = .ok (.iconst 1, 1) := by decide +kernel
theorem dX10_see_49 : decode cX10_see 49 = .ok (.iadd, 1) := by decide +kernel
theorem dX10_see_50 : decode cX10_see 50 = .ok (.putfield 137, 3) := by decide +kernel
theorem dX10_see_53 : decode cX10_see 53 = .ok (.aload_n 0, 1) := by decide +kernel
theorem dX10_see_54 : decode cX10_see 54 = .ok (.getfield 137, 3) := by decide +kernel
theorem dX10_see_57 : decode cX10_see 57 = .ok (.ireturn, 1) := by decide +kernel
theorem dX10_slipsBy_0 : decode cX10_slipsBy 0 = .ok (.aload_n 0, 1) := by decide +kernel
theorem dX10_slipsBy_1 : decode cX10_slipsBy 1 = .ok (.iconst 0, 1) := by decide +kernel
theorem dX10_slipsBy_2 : decode cX10_slipsBy 2 = .ok (.bipush 18, 2) := by decide +kernel
theorem dX10_slipsBy_4 : decode cX10_slipsBy 4 = .ok (.invokevirtual 192, 3) := by decide +kernel
theorem dX10_slipsBy_7 : decode cX10_slipsBy 7 = .ok (.iconst 0, 1) := by decide +kernel
theorem dX10_slipsBy_8 : decode cX10_slipsBy 8 = .ok (.istore_n 3, 1) := by decide +kernel
theorem dX10_slipsBy_9 : decode cX10_slipsBy 9 = .ok (.iload_n 3, 1) := by decide +kernel
theorem dX10_slipsBy_10 : decode cX10_slipsBy 10 = .ok (.bipush 7, 2) := by decide +kernel
theorem dX10_slipsBy_12 : decode cX10_slipsBy 12 = .ok (.if_icmp .ge 29, 3) := by decide +kernel
theorem dX10_slipsBy_15 : decode cX10_slipsBy 15 = .ok (.aload_n 0, 1) := by decide +kernel
theorem dX10_slipsBy_16 : decode cX10_slipsBy 16 = .ok (.getfield 7, 3) := by decide +kernel
theorem dX10_slipsBy_19 : decode cX10_slipsBy 19 = .ok (.bipush 18, 2) := by decide +kernel
theorem dX10_slipsBy_21 : decode cX10_slipsBy 21 = .ok (.iload_n 3, 1) := by decide +kernel
theorem dX10_slipsBy_22 : decode cX10_slipsBy 22 = .ok (.iadd, 1) := by decide +kernel
theorem dX10_slipsBy_23 : decode cX10_slipsBy 23 = .ok (.iconst 1, 1) := by decide +kernel
theorem dX10_slipsBy_24 : decode cX10_slipsBy 24 = .ok (.iastore, 1) := by decide +kernel
theorem dX10_slipsBy_25 : decode cX10_slipsBy 25 = .ok (.aload_n 0, 1) := by decide +kernel
theorem dX10_slipsBy_26 : decode cX10_slipsBy 26 = .ok (.getfield 7, 3) := by decide +kernel
theorem dX10_slipsBy_29 : decode cX10_slipsBy 29 = .ok (.bipush 25, 2) := by decide +kernel
theorem dX10_slipsBy_31 : decode cX10_slipsBy 31 = .ok (.iload_n 3, 1) := by decide +kernel
theorem dX10_slipsBy_32 : decode cX10_slipsBy 32 = .ok (.iadd, 1) := by decide +kernel
theorem dX10_slipsBy_33 : decode cX10_slipsBy 33 = .ok (.iconst 0, 1) := by decide +kernel
theorem dX10_slipsBy_34 : decode cX10_slipsBy 34 = .ok (.iastore, 1) := by decide +kernel
theorem dX10_slipsBy_35 : decode cX10_slipsBy 35 = .ok (.iinc 3 1, 3) := by decide +kernel
theorem dX10_slipsBy_38 : decode cX10_slipsBy 38 = .ok (.goto (-29), 3) := by decide +kernel
theorem dX10_slipsBy_41 : decode cX10_slipsBy 41 = .ok (.aload_n 0, 1) := by decide +kernel
theorem dX10_slipsBy_42 : decode cX10_slipsBy 42 = .ok (.bipush 18, 2) := by decide +kernel
theorem dX10_slipsBy_44 : decode cX10_slipsBy 44 = .ok (.iload_n 1, 1) := by decide +kernel
theorem dX10_slipsBy_45 : decode cX10_slipsBy 45 = .ok (.iload_n 2, 1) := by decide +kernel
theorem dX10_slipsBy_46 : decode cX10_slipsBy 46 = .ok (.invokevirtual 196, 3) := by decide +kernel
theorem dX10_slipsBy_49 : decode cX10_slipsBy 49 = .ok (.istore_n 3, 1) := by decide +kernel
theorem dX10_slipsBy_50 : decode cX10_slipsBy 50 = .ok (.aload_n 0, 1) := by decide +kernel
theorem dX10_slipsBy_51 : decode cX10_slipsBy 51 = .ok (.getfield 179, 3) := by decide +kernel
theorem dX10_slipsBy_54 : decode cX10_slipsBy 54 = .ok (.ireturn, 1) := by decide +kernel
theorem dX10_findHastes_0 : decode cX10_findHastes 0 = .ok (.iconst 0, 1) := by decide +kernel
theorem dX10_findHastes_1 : decode cX10_findHastes 1 = .ok (.istore_n 2, 1) := by decide +kernel
theorem dX10_findHastes_2 : decode cX10_findHastes 2 = .ok (.iconst 0, 1) := by decide +kernel
theorem dX10_findHastes_3 : decode cX10_findHastes 3 = .ok (.istore_n 3, 1) := by decide +kernel
theorem dX10_findHastes_4 : decode cX10_findHastes 4 = .ok (.iload_n 3, 1) := by decide +kernel
theorem dX10_findHastes_5 : decode cX10_findHastes 5 = .ok (.iconst 4, 1) := by decide +kernel
theorem dX10_findHastes_6 : decode cX10_findHastes 6 = .ok (.if_icmp .ge 90, 3) := by decide +kernel
theorem dX10_findHastes_9 : decode cX10_findHastes 9 = .ok (.aload_n 0, 1) := by decide +kernel
theorem dX10_findHastes_10 : decode cX10_findHastes 10 = .ok (.getfield 57, 3) := by decide +kernel
theorem dX10_findHastes_13 : decode cX10_findHastes 13 = .ok (.iload_n 3, 1) := by decide +kernel
theorem dX10_findHastes_14 : decode cX10_findHastes 14 = .ok (.aload_n 0, 1) := by decide +kernel
theorem dX10_findHastes_15 : decode cX10_findHastes 15 = .ok (.iload_n 1, 1) := by decide +kernel
theorem dX10_findHastes_16 : decode cX10_findHastes 16 = .ok (.iload_n 3, 1) := by decide +kernel
theorem dX10_findHastes_17 : decode cX10_findHastes 17 = .ok (.invokevirtual 253, 3) := by decide +kernel
theorem dX10_findHastes_20 : decode cX10_findHastes 20 = .ok (.iastore, 1) := by decide +kernel
theorem dX10_findHastes_21 : decode cX10_findHastes 21 = .ok (.iconst 1, 1) := by decide +kernel
theorem dX10_findHastes_22 : decode cX10_findHastes 22 = .ok (.istore 4, 2) := by decide +kernel
theorem dX10_findHastes_24 : decode cX10_findHastes 24 = .ok (.iconst 0, 1) := by decide +kernel
theorem dX10_findHastes_25 : decode cX10_findHastes 25 = .ok (.istore 5, 2) := by decide +kernel
theorem dX10_findHastes_27 : decode cX10_findHastes 27 = .ok (.iload 5, 2) := by decide +kernel
theorem dX10_findHastes_29 : decode cX10_findHastes 29 = .ok (.aload_n 0, 1) := by decide +kernel
theorem dX10_findHastes_30 : decode cX10_findHastes 30 = .ok (.getfield 137, 3) := by decide +kernel
theorem dX10_findHastes_33 : decode cX10_findHastes 33 = .ok (.if_icmp .ge 47, 3) := by decide +kernel
theorem dX10_findHastes_36 : decode cX10_findHastes 36 = .ok (.iload 4, 2) := by decide +kernel
theorem dX10_findHastes_38 : decode cX10_findHastes 38 = .ok (.ifCond .eq 33, 3) := by decide +kernel
theorem dX10_findHastes_41 : decode cX10_findHastes 41 = .ok (.aload_n 0, 1) := by decide +kernel
theorem dX10_findHastes_42 : decode cX10_findHastes 42 = .ok (.getfield 57, 3) := by decide +kernel
theorem dX10_findHastes_45 : decode cX10_findHastes 45 = .ok (.iload_n 3, 1) := by decide +kernel
theorem dX10_findHastes_46 : decode cX10_findHastes 46 = .ok (.iaload, 1) := by decide +kernel
theorem dX10_findHastes_47 : decode cX10_findHastes 47 = .ok (.aload_n 0, 1) := by decide +kernel
theorem dX10_findHastes_48 : decode cX10_findHastes 48 = .ok (.getfield 51, 3) := by decide +kernel
theorem dX10_findHastes_51 : decode cX10_findHastes 51 = .ok (.iload 5, 2) := by decide +kernel
theorem dX10_findHastes_53 : decode cX10_findHastes 53 = .ok (.iaload, 1) := by decide +kernel
theorem dX10_findHastes_54 : decode cX10_findHastes 54 = .ok (.invokestatic 154, 3) := by decide +kernel
theorem dX10_findHastes_57 : decode cX10_findHastes 57 = .ok (.aload_n 0, 1) := by decide +kernel
theorem dX10_findHastes_58 : decode cX10_findHastes 58 = .ok (.getfield 54, 3) := by decide +kernel
theorem dX10_findHastes_61 : decode cX10_findHastes 61 = .ok (.iload 5, 2) := by decide +kernel
theorem dX10_findHastes_63 : decode cX10_findHastes 63 = .ok (.baload, 1) := by decide +kernel
theorem dX10_findHastes_64 : decode cX10_findHastes 64 = .ok (.if_icmp .ne 7, 3) := by decide +kernel
theorem dX10_findHastes_67 : decode cX10_findHastes 67 = .ok (.iconst 1, 1) := by decide +kernel
theorem dX10_findHastes_68 : decode cX10_findHastes 68 = .ok (.goto 4, 3) := by decide +kernel
theorem dX10_findHastes_71 : decode cX10_findHastes 71 = .ok (.iconst 0, 1) := by decide +kernel
theorem dX10_findHastes_72 : decode cX10_findHastes 72 = .ok (.istore 4, 2) := by decide +kernel
theorem dX10_findHastes_74 : decode cX10_findHastes 74 = .ok (.iinc 5 1, 3) := by decide +kernel
theorem dX10_findHastes_77 : decode cX10_findHastes 77 = .ok (.goto (-50), 3) := by decide +kernel
theorem dX10_findHastes_80 : decode cX10_findHastes 80 = .ok (.iload_n 2, 1) := by decide +kernel
theorem dX10_findHastes_81 : decode cX10_findHastes 81 = .ok (.iload 4, 2) := by decide +kernel
theorem dX10_findHastes_83 : decode cX10_findHastes 83 = .ok (.invokestatic 160, 3) := by decide +kernel
theorem dX10_findHastes_86 : decode cX10_findHastes 86 = .ok (.iload_n 3, 1) := by decide +kernel
theorem dX10_findHastes_87 : decode cX10_findHastes 87 = .ok (.ishl, 1) := by decide +kernel
theorem dX10_findHastes_88 : decode cX10_findHastes 88 = .ok (.ior, 1) := by decide +kernel
theorem dX10_findHastes_89 : decode cX10_findHastes 89 = .ok (.istore_n 2, 1) := by decide +kernel
theorem dX10_findHastes_90 : decode cX10_findHastes 90 = .ok (.iinc 3 1, 3) := by decide +kernel
theorem dX10_findHastes_93 : decode cX10_findHastes 93 = .ok (.goto (-89), 3) := by decide +kernel
theorem dX10_findHastes_96 : decode cX10_findHastes 96 = .ok (.iload_n 2, 1) := by decide +kernel
theorem dX10_findHastes_97 : decode cX10_findHastes 97 = .ok (.ireturn, 1) := by decide +kernel
theorem dX10_rang_0 : decode cX10_rang 0 = .ok (.aload_n 0, 1) := by decide +kernel
theorem dX10_rang_1 : decode cX10_rang 1 = .ok (.iload_n 1, 1) := by decide +kernel
theorem dX10_rang_2 : decode cX10_rang 2 = .ok (.invokevirtual 200, 3) := by decide +kernel
theorem dX10_rang_5 : decode cX10_rang 5 = .ok (.ifCond .ne 6, 3) := by decide +kernel
theorem dX10_rang_8 : decode cX10_rang 8 = .ok (.ldc 167, 2) := by decide +kernel
theorem dX10_rang_10 : decode cX10_rang 10 = .ok (.ireturn, 1) := by decide +kernel
theorem dX10_rang_11 : decode cX10_rang 11 = .ok (.iload_n 2, 1) := by decide +kernel
theorem dX10_rang_12 : decode cX10_rang 12 = .ok (.i2l, 1) := by decide +kernel
theorem dX10_rang_13 : decode cX10_rang 13 = .ok (.lconst 0, 1) := by decide +kernel
theorem dX10_rang_14 : decode cX10_rang 14 = .ok (.lconst 1, 1) := by decide +kernel
theorem dX10_rang_15 : decode cX10_rang 15 = .ok (.invokestatic 68, 3) := by decide +kernel
theorem dX10_rang_18 : decode cX10_rang 18 = .ok (.ifCond .ne 6, 3) := by decide +kernel
theorem dX10_rang_21 : decode cX10_rang 21 = .ok (.ldc 72, 2) := by decide +kernel
theorem dX10_rang_23 : decode cX10_rang 23 = .ok (.ireturn, 1) := by decide +kernel
theorem dX10_rang_24 : decode cX10_rang 24 = .ok (.aload_n 0, 1) := by decide +kernel
theorem dX10_rang_25 : decode cX10_rang 25 = .ok (.iload_n 1, 1) := by decide +kernel
theorem dX10_rang_26 : decode cX10_rang 26 = .ok (.invokevirtual 256, 3) := by decide +kernel
theorem dX10_rang_29 : decode cX10_rang 29 = .ok (.istore_n 3, 1) := by decide +kernel
theorem dX10_rang_30 : decode cX10_rang 30 = .ok (.iload_n 2, 1) := by decide +kernel
theorem dX10_rang_31 : decode cX10_rang 31 = .ok (.ifCond .ne 5, 3) := by decide +kernel
theorem dX10_rang_34 : decode cX10_rang 34 = .ok (.iload_n 3, 1) := by decide +kernel
theorem dX10_rang_35 : decode cX10_rang 35 = .ok (.ireturn, 1) := by decide +kernel
theorem dX10_rang_36 : decode cX10_rang 36 = .ok (.iconst 0, 1) := by decide +kernel
theorem dX10_rang_37 : decode cX10_rang 37 = .ok (.istore 4, 2) := by decide +kernel
theorem dX10_rang_39 : decode cX10_rang 39 = .ok (.iconst 0, 1) := by decide +kernel
theorem dX10_rang_40 : decode cX10_rang 40 = .ok (.istore 5, 2) := by decide +kernel
theorem dX10_rang_42 : decode cX10_rang 42 = .ok (.iload 5, 2) := by decide +kernel
theorem dX10_rang_44 : decode cX10_rang 44 = .ok (.iconst 4, 1) := by decide +kernel
theorem dX10_rang_45 : decode cX10_rang 45 = .ok (.if_icmp .ge 20, 3) := by decide +kernel
theorem dX10_rang_48 : decode cX10_rang 48 = .ok (.iload 4, 2) := by decide +kernel
theorem dX10_rang_50 : decode cX10_rang 50 = .ok (.iload_n 3, 1) := by decide +kernel
theorem dX10_rang_51 : decode cX10_rang 51 = .ok (.iload 5, 2) := by decide +kernel
theorem dX10_rang_53 : decode cX10_rang 53 = .ok (.ishr, 1) := by decide +kernel
theorem dX10_rang_54 : decode cX10_rang 54 = .ok (.iconst 1, 1) := by decide +kernel
theorem dX10_rang_55 : decode cX10_rang 55 = .ok (.iand, 1) := by decide +kernel
theorem dX10_rang_56 : decode cX10_rang 56 = .ok (.iadd, 1) := by decide +kernel
theorem dX10_rang_57 : decode cX10_rang 57 = .ok (.istore 4, 2) := by decide +kernel
theorem dX10_rang_59 : decode cX10_rang 59 = .ok (.iinc 5 1, 3) := by decide +kernel
theorem dX10_rang_62 : decode cX10_rang 62 = .ok (.goto (-20), 3) := by decide +kernel
theorem dX10_rang_65 : decode cX10_rang 65 = .ok (.iconst (-1), 1) := by decide +kernel
theorem dX10_rang_66 : decode cX10_rang 66 = .ok (.istore 5, 2) := by decide +kernel
theorem dX10_rang_68 : decode cX10_rang 68 = .ok (.iload 4, 2) := by decide +kernel
theorem dX10_rang_70 : decode cX10_rang 70 = .ok (.istore 6, 2) := by decide +kernel
theorem dX10_rang_72 : decode cX10_rang 72 = .ok (.iconst 0, 1) := by decide +kernel
theorem dX10_rang_73 : decode cX10_rang 73 = .ok (.istore 7, 2) := by decide +kernel
theorem dX10_rang_75 : decode cX10_rang 75 = .ok (.iload 7, 2) := by decide +kernel
theorem dX10_rang_77 : decode cX10_rang 77 = .ok (.aload_n 0, 1) := by decide +kernel
theorem dX10_rang_78 : decode cX10_rang 78 = .ok (.getfield 131, 3) := by decide +kernel
theorem dX10_rang_81 : decode cX10_rang 81 = .ok (.if_icmp .ge 118, 3) := by decide +kernel
theorem dX10_rang_84 : decode cX10_rang 84 = .ok (.iconst 0, 1) := by decide +kernel
theorem dX10_rang_85 : decode cX10_rang 85 = .ok (.istore 8, 2) := by decide +kernel
theorem dX10_rang_87 : decode cX10_rang 87 = .ok (.iconst 0, 1) := by decide +kernel
theorem dX10_rang_88 : decode cX10_rang 88 = .ok (.istore 9, 2) := by decide +kernel
theorem dX10_rang_90 : decode cX10_rang 90 = .ok (.iload 9, 2) := by decide +kernel
theorem dX10_rang_92 : decode cX10_rang 92 = .ok (.iconst 4, 1) := by decide +kernel
theorem dX10_rang_93 : decode cX10_rang 93 = .ok (.if_icmp .ge 46, 3) := by decide +kernel
theorem dX10_rang_96 : decode cX10_rang 96 = .ok (.iload 8, 2) := by decide +kernel
theorem dX10_rang_98 : decode cX10_rang 98 = .ok (.iload_n 3, 1) := by decide +kernel
theorem dX10_rang_99 : decode cX10_rang 99 = .ok (.iload 9, 2) := by decide +kernel
theorem dX10_rang_101 : decode cX10_rang 101 = .ok (.invokestatic 154, 3) := by decide +kernel
theorem dX10_rang_104 : decode cX10_rang 104 = .ok (.ifCond .eq 22, 3) := by decide +kernel
theorem dX10_rang_107 : decode cX10_rang 107 = .ok (.aload_n 0, 1) := by decide +kernel
theorem dX10_rang_108 : decode cX10_rang 108 = .ok (.getfield 57, 3) := by decide +kernel
theorem dX10_rang_111 : decode cX10_rang 111 = .ok (.iload 9, 2) := by decide +kernel
theorem dX10_rang_113 : decode cX10_rang 113 = .ok (.iaload, 1) := by decide +kernel
theorem dX10_rang_114 : decode cX10_rang 114 = .ok (.iload 7, 2) := by decide +kernel
theorem dX10_rang_116 : decode cX10_rang 116 = .ok (.invokestatic 154, 3) := by decide +kernel
theorem dX10_rang_119 : decode cX10_rang 119 = .ok (.ifCond .eq 7, 3) := by decide +kernel
theorem dX10_rang_122 : decode cX10_rang 122 = .ok (.iconst 1, 1) := by decide +kernel
theorem dX10_rang_123 : decode cX10_rang 123 = .ok (.goto 4, 3) := by decide +kernel
theorem dX10_rang_126 : decode cX10_rang 126 = .ok (.iconst 0, 1) := by decide +kernel
theorem dX10_rang_127 : decode cX10_rang 127 = .ok (.invokestatic 160, 3) := by decide +kernel
theorem dX10_rang_130 : decode cX10_rang 130 = .ok (.iadd, 1) := by decide +kernel
theorem dX10_rang_131 : decode cX10_rang 131 = .ok (.istore 8, 2) := by decide +kernel
theorem dX10_rang_133 : decode cX10_rang 133 = .ok (.iinc 9 1, 3) := by decide +kernel
theorem dX10_rang_136 : decode cX10_rang 136 = .ok (.goto (-46), 3) := by decide +kernel
theorem dX10_rang_139 : decode cX10_rang 139 = .ok (.iload 8, 2) := by decide +kernel
theorem dX10_rang_141 : decode cX10_rang 141 = .ok (.iload 4, 2) := by decide +kernel
theorem dX10_rang_143 : decode cX10_rang 143 = .ok (.iload 8, 2) := by decide +kernel
theorem dX10_rang_145 : decode cX10_rang 145 = .ok (.isub, 1) := by decide +kernel
theorem dX10_rang_146 : decode cX10_rang 146 = .ok (.if_icmp .le 8, 3) := by decide +kernel
theorem dX10_rang_149 : decode cX10_rang 149 = .ok (.iload 8, 2) := by decide +kernel
theorem dX10_rang_151 : decode cX10_rang 151 = .ok (.goto 8, 3) := by decide +kernel
theorem dX10_rang_154 : decode cX10_rang 154 = .ok (.iload 4, 2) := by decide +kernel
theorem dX10_rang_156 : decode cX10_rang 156 = .ok (.iload 8, 2) := by decide +kernel
theorem dX10_rang_158 : decode cX10_rang 158 = .ok (.isub, 1) := by decide +kernel
theorem dX10_rang_159 : decode cX10_rang 159 = .ok (.istore 9, 2) := by decide +kernel
theorem dX10_rang_161 : decode cX10_rang 161 = .ok (.iload 9, 2) := by decide +kernel
theorem dX10_rang_163 : decode cX10_rang 163 = .ok (.iload 6, 2) := by decide +kernel
theorem dX10_rang_165 : decode cX10_rang 165 = .ok (.if_icmp .ge 8, 3) := by decide +kernel
theorem dX10_rang_168 : decode cX10_rang 168 = .ok (.iload 7, 2) := by decide +kernel
theorem dX10_rang_170 : decode cX10_rang 170 = .ok (.goto 5, 3) := by decide +kernel
theorem dX10_rang_173 : decode cX10_rang 173 = .ok (.iload 5, 2) := by decide +kernel
theorem dX10_rang_175 : decode cX10_rang 175 = .ok (.istore 5, 2) := by decide +kernel
theorem dX10_rang_177 : decode cX10_rang 177 = .ok (.iload 9, 2) := by decide +kernel
theorem dX10_rang_179 : decode cX10_rang 179 = .ok (.iload 6, 2) := by decide +kernel
theorem dX10_rang_181 : decode cX10_rang 181 = .ok (.if_icmp .ge 8, 3) := by decide +kernel
theorem dX10_rang_184 : decode cX10_rang 184 = .ok (.iload 9, 2) := by decide +kernel
theorem dX10_rang_186 : decode cX10_rang 186 = .ok (.goto 5, 3) := by decide +kernel
theorem dX10_rang_189 : decode cX10_rang 189 = .ok (.iload 6, 2) := by decide +kernel
theorem dX10_rang_191 : decode cX10_rang 191 = .ok (.istore 6, 2) := by decide +kernel
theorem dX10_rang_193 : decode cX10_rang 193 = .ok (.iinc 7 1, 3) := by decide +kernel
theorem dX10_rang_196 : decode cX10_rang 196 = .ok (.goto (-121), 3) := by decide +kernel
theorem dX10_rang_199 : decode cX10_rang 199 = .ok (.iload 5, 2) := by decide +kernel
theorem dX10_rang_201 : decode cX10_rang 201 = .ok (.ireturn, 1) := by decide +kernel
theorem dX10_write_0 : decode cX10_write 0 = .ok (.aload_n 0, 1) := by decide +kernel
theorem dX10_write_1 : decode cX10_write 1 = .ok (.iload_n 1, 1) := by decide +kernel
theorem dX10_write_2 : decode cX10_write 2 = .ok (.invokevirtual 150, 3) := by decide +kernel
theorem dX10_write_5 : decode cX10_write 5 = .ok (.ifCond .ne 6, 3) := by decide +kernel
theorem dX10_write_8 : decode cX10_write 8 = .ok (.ldc 167, 2) := by decide +kernel
theorem dX10_write_10 : decode cX10_write 10 = .ok (.ireturn, 1) := by decide +kernel
theorem dX10_write_11 : decode cX10_write 11 = .ok (.iload_n 2, 1) := by decide +kernel
theorem dX10_write_12 : decode cX10_write 12 = .ok (.i2l, 1) := by decide +kernel
theorem dX10_write_13 : decode cX10_write 13 = .ok (.lconst 1, 1) := by decide +kernel
theorem dX10_write_14 : decode cX10_write 14 = .ok (.ldc2_w 259, 3) := by decide +kernel
theorem dX10_write_17 : decode cX10_write 17 = .ok (.invokestatic 68, 3) := by decide +kernel
theorem dX10_write_20 : decode cX10_write 20 = .ok (.ifCond .ne 6, 3) := by decide +kernel
theorem dX10_write_23 : decode cX10_write 23 = .ok (.ldc 72, 2) := by decide +kernel
theorem dX10_write_25 : decode cX10_write 25 = .ok (.ireturn, 1) := by decide +kernel
theorem dX10_write_26 : decode cX10_write 26 = .ok (.aload_n 0, 1) := by decide +kernel
theorem dX10_write_27 : decode cX10_write 27 = .ok (.getfield 140, 3) := by decide +kernel
theorem dX10_write_30 : decode cX10_write 30 = .ok (.bipush 20, 2) := by decide +kernel
theorem dX10_write_32 : decode cX10_write 32 = .ok (.if_icmp .ne 6, 3) := by decide +kernel
theorem dX10_write_35 : decode cX10_write 35 = .ok (.ldc 76, 2) := by decide +kernel
theorem dX10_write_37 : decode cX10_write 37 = .ok (.ireturn, 1) := by decide +kernel
theorem dX10_write_38 : decode cX10_write 38 = .ok (.aload_n 0, 1) := by decide +kernel
theorem dX10_write_39 : decode cX10_write 39 = .ok (.getfield 60, 3) := by decide +kernel
theorem dX10_write_42 : decode cX10_write 42 = .ok (.aload_n 0, 1) := by decide +kernel
theorem dX10_write_43 : decode cX10_write 43 = .ok (.getfield 140, 3) := by decide +kernel
theorem dX10_write_46 : decode cX10_write 46 = .ok (.iload_n 1, 1) := by decide +kernel
theorem dX10_write_47 : decode cX10_write 47 = .ok (.iastore, 1) := by decide +kernel
theorem dX10_write_48 : decode cX10_write 48 = .ok (.aload_n 0, 1) := by decide +kernel
theorem dX10_write_49 : decode cX10_write 49 = .ok (.getfield 63, 3) := by decide +kernel
theorem dX10_write_52 : decode cX10_write 52 = .ok (.aload_n 0, 1) := by decide +kernel
theorem dX10_write_53 : decode cX10_write 53 = .ok (.getfield 140, 3) := by decide +kernel
theorem dX10_write_56 : decode cX10_write 56 = .ok (.iload_n 2, 1) := by decide +kernel
theorem dX10_write_57 : decode cX10_write 57 = .ok (.iastore, 1) := by decide +kernel
theorem dX10_write_58 : decode cX10_write 58 = .ok (.aload_n 0, 1) := by decide +kernel
theorem dX10_write_59 : decode cX10_write 59 = .ok (.dup, 1) := by decide +kernel
theorem dX10_write_60 : decode cX10_write 60 = .ok (.getfield 140, 3) := by decide +kernel
theorem dX10_write_63 : decode cX10_write 63 = .ok (.iconst 1, 1) := by decide +kernel
theorem dX10_write_64 : decode cX10_write 64 = .ok (.iadd, 1) := by decide +kernel
theorem dX10_write_65 : decode cX10_write 65 = .ok (.putfield 140, 3) := by decide +kernel
theorem dX10_write_68 : decode cX10_write 68 = .ok (.aload_n 0, 1) := by decide +kernel
theorem dX10_write_69 : decode cX10_write 69 = .ok (.getfield 140, 3) := by decide +kernel
theorem dX10_write_72 : decode cX10_write 72 = .ok (.ireturn, 1) := by decide +kernel
theorem dX10_judge_0 : decode cX10_judge 0 = .ok (.iconst 0, 1) := by decide +kernel
theorem dX10_judge_1 : decode cX10_judge 1 = .ok (.istore_n 1, 1) := by decide +kernel
theorem dX10_judge_2 : decode cX10_judge 2 = .ok (.iload_n 1, 1) := by decide +kernel
theorem dX10_judge_3 : decode cX10_judge 3 = .ok (.aload_n 0, 1) := by decide +kernel
theorem dX10_judge_4 : decode cX10_judge 4 = .ok (.getfield 140, 3) := by decide +kernel
theorem dX10_judge_7 : decode cX10_judge 7 = .ok (.if_icmp .ge 31, 3) := by decide +kernel
theorem dX10_judge_10 : decode cX10_judge 10 = .ok (.aload_n 0, 1) := by decide +kernel
theorem dX10_judge_11 : decode cX10_judge 11 = .ok (.getfield 7, 3) := by decide +kernel
theorem dX10_judge_14 : decode cX10_judge 14 = .ok (.aload_n 0, 1) := by decide +kernel
theorem dX10_judge_15 : decode cX10_judge 15 = .ok (.getfield 60, 3) := by decide +kernel
theorem dX10_judge_18 : decode cX10_judge 18 = .ok (.iload_n 1, 1) := by decide +kernel
theorem dX10_judge_19 : decode cX10_judge 19 = .ok (.iaload, 1) := by decide +kernel
theorem dX10_judge_20 : decode cX10_judge 20 = .ok (.iaload, 1) := by decide +kernel
theorem dX10_judge_21 : decode cX10_judge 21 = .ok (.aload_n 0, 1) := by decide +kernel
theorem dX10_judge_22 : decode cX10_judge 22 = .ok (.getfield 63, 3) := by decide +kernel
theorem dX10_judge_25 : decode cX10_judge 25 = .ok (.iload_n 1, 1) := by decide +kernel
theorem dX10_judge_26 : decode cX10_judge 26 = .ok (.iaload, 1) := by decide +kernel
theorem dX10_judge_27 : decode cX10_judge 27 = .ok (.if_icmp .eq 5, 3) := by decide +kernel
theorem dX10_judge_30 : decode cX10_judge 30 = .ok (.iload_n 1, 1) := by decide +kernel
theorem dX10_judge_31 : decode cX10_judge 31 = .ok (.ireturn, 1) := by decide +kernel
theorem dX10_judge_32 : decode cX10_judge 32 = .ok (.iinc 1 1, 3) := by decide +kernel
theorem dX10_judge_35 : decode cX10_judge 35 = .ok (.goto (-33), 3) := by decide +kernel
theorem dX10_judge_38 : decode cX10_judge 38 = .ok (.iconst (-1), 1) := by decide +kernel
theorem dX10_judge_39 : decode cX10_judge 39 = .ok (.ireturn, 1) := by decide +kernel
theorem dX10_tear_0 : decode cX10_tear 0 = .ok (.aload_n 0, 1) := by decide +kernel
theorem dX10_tear_1 : decode cX10_tear 1 = .ok (.getfield 137, 3) := by decide +kernel
theorem dX10_tear_4 : decode cX10_tear 4 = .ok (.aload_n 0, 1) := by decide +kernel
theorem dX10_tear_5 : decode cX10_tear 5 = .ok (.getfield 140, 3) := by decide +kernel
theorem dX10_tear_8 : decode cX10_tear 8 = .ok (.iadd, 1) := by decide +kernel
theorem dX10_tear_9 : decode cX10_tear 9 = .ok (.istore_n 1, 1) := by decide +kernel
theorem dX10_tear_10 : decode cX10_tear 10 = .ok (.aload_n 0, 1) := by decide +kernel
theorem dX10_tear_11 : decode cX10_tear 11 = .ok (.iconst 0, 1) := by decide +kernel
theorem dX10_tear_12 : decode cX10_tear 12 = .ok (.putfield 137, 3) := by decide +kernel
theorem dX10_tear_15 : decode cX10_tear 15 = .ok (.aload_n 0, 1) := by decide +kernel
theorem dX10_tear_16 : decode cX10_tear 16 = .ok (.iconst 0, 1) := by decide +kernel
theorem dX10_tear_17 : decode cX10_tear 17 = .ok (.putfield 140, 3) := by decide +kernel
theorem dX10_tear_20 : decode cX10_tear 20 = .ok (.iload_n 1, 1) := by decide +kernel
theorem dX10_tear_21 : decode cX10_tear 21 = .ok (.ireturn, 1) := by decide +kernel
theorem dX10_seed_0 : decode cX10_seed 0 = .ok (.iload_n 1, 1) := by decide +kernel
theorem dX10_seed_1 : decode cX10_seed 1 = .ok (.ifCond .ge 6, 3) := by decide +kernel
theorem dX10_seed_4 : decode cX10_seed 4 = .ok (.ldc 72, 2) := by decide +kernel
theorem dX10_seed_6 : decode cX10_seed 6 = .ok (.ireturn, 1) := by decide +kernel
theorem dX10_seed_7 : decode cX10_seed 7 = .ok (.aload_n 0, 1) := by decide +kernel
theorem dX10_seed_8 : decode cX10_seed 8 = .ok (.getfield 7, 3) := by decide +kernel
theorem dX10_seed_11 : decode cX10_seed 11 = .ok (.bipush 17, 2) := by decide +kernel
theorem dX10_seed_13 : decode cX10_seed 13 = .ok (.iaload, 1) := by decide +kernel
theorem dX10_seed_14 : decode cX10_seed 14 = .ok (.istore_n 2, 1) := by decide +kernel
theorem dX10_seed_15 : decode cX10_seed 15 = .ok (.aload_n 0, 1) := by decide +kernel
theorem dX10_seed_16 : decode cX10_seed 16 = .ok (.getfield 7, 3) := by decide +kernel
theorem dX10_seed_19 : decode cX10_seed 19 = .ok (.bipush 17, 2) := by decide +kernel
theorem dX10_seed_21 : decode cX10_seed 21 = .ok (.iload_n 1, 1) := by decide +kernel
theorem dX10_seed_22 : decode cX10_seed 22 = .ok (.iastore, 1) := by decide +kernel
theorem dX10_seed_23 : decode cX10_seed 23 = .ok (.iload_n 2, 1) := by decide +kernel
theorem dX10_seed_24 : decode cX10_seed 24 = .ok (.ireturn, 1) := by decide +kernel
theorem dX10_keep_0 : decode cX10_keep 0 = .ok (.iload_n 1, 1) := by decide +kernel
theorem dX10_keep_1 : decode cX10_keep 1 = .ok (.i2l, 1) := by decide +kernel
theorem dX10_keep_2 : decode cX10_keep 2 = .ok (.lconst 0, 1) := by decide +kernel
theorem dX10_keep_3 : decode cX10_keep 3 = .ok (.lconst 1, 1) := by decide +kernel
theorem dX10_keep_4 : decode cX10_keep 4 = .ok (.invokestatic 68, 3) := by decide +kernel
theorem dX10_keep_7 : decode cX10_keep 7 = .ok (.ifCond .ne 6, 3) := by decide +kernel
theorem dX10_keep_10 : decode cX10_keep 10 = .ok (.ldc 167, 2) := by decide +kernel
theorem dX10_keep_12 : decode cX10_keep 12 = .ok (.ireturn, 1) := by decide +kernel
theorem dX10_keep_13 : decode cX10_keep 13 = .ok (.aload_n 0, 1) := by decide +kernel
theorem dX10_keep_14 : decode cX10_keep 14 = .ok (.iconst 0, 1) := by decide +kernel
theorem dX10_keep_15 : decode cX10_keep 15 = .ok (.bipush 36, 2) := by decide +kernel
theorem dX10_keep_17 : decode cX10_keep 17 = .ok (.bipush 18, 2) := by decide +kernel
theorem dX10_keep_19 : decode cX10_keep 19 = .ok (.iload_n 1, 1) := by decide +kernel
theorem dX10_keep_20 : decode cX10_keep 20 = .ok (.imul, 1) := by decide +kernel
theorem dX10_keep_21 : decode cX10_keep 21 = .ok (.iadd, 1) := by decide +kernel
theorem dX10_keep_22 : decode cX10_keep 22 = .ok (.invokevirtual 192, 3) := by decide +kernel
theorem dX10_keep_25 : decode cX10_keep 25 = .ok (.aload_n 0, 1) := by decide +kernel
theorem dX10_keep_26 : decode cX10_keep 26 = .ok (.getfield 13, 3) := by decide +kernel
theorem dX10_keep_29 : decode cX10_keep 29 = .ok (.iload_n 1, 1) := by decide +kernel
theorem dX10_keep_30 : decode cX10_keep 30 = .ok (.iconst 1, 1) := by decide +kernel
theorem dX10_keep_31 : decode cX10_keep 31 = .ok (.bastore, 1) := by decide +kernel
theorem dX10_keep_32 : decode cX10_keep 32 = .ok (.aload_n 0, 1) := by decide +kernel
theorem dX10_keep_33 : decode cX10_keep 33 = .ok (.iconst 0, 1) := by decide +kernel
theorem dX10_keep_34 : decode cX10_keep 34 = .ok (.putfield 143, 3) := by decide +kernel
theorem dX10_keep_37 : decode cX10_keep 37 = .ok (.iconst 1, 1) := by decide +kernel
theorem dX10_keep_38 : decode cX10_keep 38 = .ok (.ireturn, 1) := by decide +kernel
theorem dX10_goBack_0 : decode cX10_goBack 0 = .ok (.iload_n 1, 1) := by decide +kernel
theorem dX10_goBack_1 : decode cX10_goBack 1 = .ok (.i2l, 1) := by decide +kernel
theorem dX10_goBack_2 : decode cX10_goBack 2 = .ok (.lconst 0, 1) := by decide +kernel
theorem dX10_goBack_3 : decode cX10_goBack 3 = .ok (.lconst 1, 1) := by decide +kernel
theorem dX10_goBack_4 : decode cX10_goBack 4 = .ok (.invokestatic 68, 3) := by decide +kernel
theorem dX10_goBack_7 : decode cX10_goBack 7 = .ok (.ifCond .ne 6, 3) := by decide +kernel
theorem dX10_goBack_10 : decode cX10_goBack 10 = .ok (.ldc 167, 2) := by decide +kernel
theorem dX10_goBack_12 : decode cX10_goBack 12 = .ok (.ireturn, 1) := by decide +kernel
theorem dX10_goBack_13 : decode cX10_goBack 13 = .ok (.aload_n 0, 1) := by decide +kernel
theorem dX10_goBack_14 : decode cX10_goBack 14 = .ok (.getfield 13, 3) := by decide +kernel
theorem dX10_goBack_17 : decode cX10_goBack 17 = .ok (.iload_n 1, 1) := by decide +kernel
theorem dX10_goBack_18 : decode cX10_goBack 18 = .ok (.baload, 1) := by decide +kernel
theorem dX10_goBack_19 : decode cX10_goBack 19 = .ok (.ifCond .ne 6, 3) := by decide +kernel
theorem dX10_goBack_22 : decode cX10_goBack 22 = .ok (.ldc 209, 2) := by decide +kernel
theorem dX10_goBack_24 : decode cX10_goBack 24 = .ok (.ireturn, 1) := by decide +kernel
theorem dX10_goBack_25 : decode cX10_goBack 25 = .ok (.aload_n 0, 1) := by decide +kernel
theorem dX10_goBack_26 : decode cX10_goBack 26 = .ok (.bipush 36, 2) := by decide +kernel
theorem dX10_goBack_28 : decode cX10_goBack 28 = .ok (.bipush 18, 2) := by decide +kernel
theorem dX10_goBack_30 : decode cX10_goBack 30 = .ok (.iload_n 1, 1) := by decide +kernel
theorem dX10_goBack_31 : decode cX10_goBack 31 = .ok (.imul, 1) := by decide +kernel
theorem dX10_goBack_32 : decode cX10_goBack 32 = .ok (.iadd, 1) := by decide +kernel
theorem dX10_goBack_33 : decode cX10_goBack 33 = .ok (.iconst 0, 1) := by decide +kernel
theorem dX10_goBack_34 : decode cX10_goBack 34 = .ok (.invokevirtual 192, 3) := by decide +kernel
theorem dX10_goBack_37 : decode cX10_goBack 37 = .ok (.aload_n 0, 1) := by decide +kernel
theorem dX10_goBack_38 : decode cX10_goBack 38 = .ok (.iconst 0, 1) := by decide +kernel
theorem dX10_goBack_39 : decode cX10_goBack 39 = .ok (.putfield 143, 3) := by decide +kernel
theorem dX10_goBack_42 : decode cX10_goBack 42 = .ok (.iconst 1, 1) := by decide +kernel
theorem dX10_goBack_43 : decode cX10_goBack 43 = .ok (.ireturn, 1) := by decide +kernel
