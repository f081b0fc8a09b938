theorem dX10_init_0 : decode cX10_init 0 = .ok (.aload_n 0, 1) := by decide +kernel
theorem dX10_init_1 : decode cX10_init 1 = .ok (.invokespecial 1, 3) := by decide +kernel
theorem dX10_init_4 : decode cX10_init 4 = .ok (.aload_n 0, 1) := by decide +kernel
theorem dX10_init_5 : decode cX10_init 5 = .ok (.bipush 44, 2) := by decide +kernel
theorem dX10_init_7 : decode cX10_init 7 = .ok (.newarray .int, 2) := by decide +kernel
theorem dX10_init_9 : decode cX10_init 9 = .ok (.putfield 7, 3) := by decide +kernel
theorem dX10_init_12 : decode cX10_init 12 = .ok (.aload_n 0, 1) := by decide +kernel
theorem dX10_init_13 : decode cX10_init 13 = .ok (.bipush 44, 2) := by decide +kernel
theorem dX10_init_15 : decode cX10_init 15 = .ok (.newarray .int, 2) := by decide +kernel
theorem dX10_init_17 : decode cX10_init 17 = .ok (.putfield 13, 3) := by decide +kernel
theorem dX10_init_20 : decode cX10_init 20 = .ok (.aload_n 0, 1) := by decide +kernel
theorem dX10_init_21 : decode cX10_init 21 = .ok (.bipush 24, 2) := by decide +kernel
theorem dX10_init_23 : decode cX10_init 23 = .ok (.newarray .int, 2) := by decide +kernel
theorem dX10_init_25 : decode cX10_init 25 = .ok (.putfield 16, 3) := by decide +kernel
theorem dX10_init_28 : decode cX10_init 28 = .ok (.aload_n 0, 1) := by decide +kernel
theorem dX10_init_29 : decode cX10_init 29 = .ok (.bipush 24, 2) := by decide +kernel
theorem dX10_init_31 : decode cX10_init 31 = .ok (.newarray .int, 2) := by decide +kernel
theorem dX10_init_33 : decode cX10_init 33 = .ok (.putfield 19, 3) := by decide +kernel
theorem dX10_init_36 : decode cX10_init 36 = .ok (.aload_n 0, 1) := by decide +kernel
theorem dX10_init_37 : decode cX10_init 37 = .ok (.sipush 384, 3) := by decide +kernel
theorem dX10_init_40 : decode cX10_init 40 = .ok (.newarray .int, 2) := by decide +kernel
theorem dX10_init_42 : decode cX10_init 42 = .ok (.putfield 22, 3) := by decide +kernel
theorem dX10_init_45 : decode cX10_init 45 = .ok (.aload_n 0, 1) := by decide +kernel
theorem dX10_init_46 : decode cX10_init 46 = .ok (.bipush 50, 2) := by decide +kernel
theorem dX10_init_48 : decode cX10_init 48 = .ok (.newarray .int, 2) := by decide +kernel
theorem dX10_init_50 : decode cX10_init 50 = .ok (.putfield 25, 3) := by decide +kernel
theorem dX10_init_53 : decode cX10_init 53 = .ok (.aload_n 0, 1) := by decide +kernel
theorem dX10_init_54 : decode cX10_init 54 = .ok (.iconst 2, 1) := by decide +kernel
theorem dX10_init_55 : decode cX10_init 55 = .ok (.newarray .boolean, 2) := by decide +kernel
theorem dX10_init_57 : decode cX10_init 57 = .ok (.putfield 28, 3) := by decide +kernel
theorem dX10_init_60 : decode cX10_init 60 = .ok (.aload_n 0, 1) := by decide +kernel
theorem dX10_init_61 : decode cX10_init 61 = .ok (.sipush 240, 3) := by decide +kernel
theorem dX10_init_64 : decode cX10_init 64 = .ok (.newarray .int, 2) := by decide +kernel
theorem dX10_init_66 : decode cX10_init 66 = .ok (.putfield 32, 3) := by decide +kernel
theorem dX10_init_69 : decode cX10_init 69 = .ok (.aload_n 0, 1) := by decide +kernel
theorem dX10_init_70 : decode cX10_init 70 = .ok (.iconst (-1), 1) := by decide +kernel
theorem dX10_init_71 : decode cX10_init 71 = .ok (.putfield 35, 3) := by decide +kernel
theorem dX10_init_74 : decode cX10_init 74 = .ok (.aload_n 0, 1) := by decide +kernel
theorem dX10_init_75 : decode cX10_init 75 = .ok (.bipush 18, 2) := by decide +kernel
theorem dX10_init_77 : decode cX10_init 77 = .ok (.newarray .int, 2) := by decide +kernel
theorem dX10_init_79 : decode cX10_init 79 = .ok (.putfield 39, 3) := by decide +kernel
theorem dX10_init_82 : decode cX10_init 82 = .ok (.aload_n 0, 1) := by decide +kernel
theorem dX10_init_83 : decode cX10_init 83 = .ok (.bipush 18, 2) := by decide +kernel
theorem dX10_init_85 : decode cX10_init 85 = .ok (.newarray .int, 2) := by decide +kernel
theorem dX10_init_87 : decode cX10_init 87 = .ok (.putfield 42, 3) := by decide +kernel
theorem dX10_init_90 : decode cX10_init 90 = .ok (.aload_n 0, 1) := by decide +kernel
theorem dX10_init_91 : decode cX10_init 91 = .ok (.bipush 30, 2) := by decide +kernel
theorem dX10_init_93 : decode cX10_init 93 = .ok (.newarray .int, 2) := by decide +kernel
theorem dX10_init_95 : decode cX10_init 95 = .ok (.putfield 45, 3) := by decide +kernel
theorem dX10_init_98 : decode cX10_init 98 = .ok (.aload_n 0, 1) := by decide +kernel
theorem dX10_init_99 : decode cX10_init 99 = .ok (.bipush 6, 2) := by decide +kernel
theorem dX10_init_101 : decode cX10_init 101 = .ok (.newarray .int, 2) := by decide +kernel
theorem dX10_init_103 : decode cX10_init 103 = .ok (.putfield 48, 3) := by decide +kernel
theorem dX10_init_106 : decode cX10_init 106 = .ok (.aload_n 0, 1) := by decide +kernel
theorem dX10_init_107 : decode cX10_init 107 = .ok (.bipush 6, 2) := by decide +kernel
theorem dX10_init_109 : decode cX10_init 109 = .ok (.newarray .int, 2) := by decide +kernel
theorem dX10_init_111 : decode cX10_init 111 = .ok (.putfield 51, 3) := by decide +kernel
theorem dX10_init_114 : decode cX10_init 114 = .ok (.aload_n 0, 1) := by decide +kernel
theorem dX10_init_115 : decode cX10_init 115 = .ok (.sipush 1200, 3) := by decide +kernel
theorem dX10_init_118 : decode cX10_init 118 = .ok (.newarray .int, 2) := by decide +kernel
theorem dX10_init_120 : decode cX10_init 120 = .ok (.putfield 54, 3) := by decide +kernel
theorem dX10_init_123 : decode cX10_init 123 = .ok (.aload_n 0, 1) := by decide +kernel
theorem dX10_init_124 : decode cX10_init 124 = .ok (.invokevirtual 57, 3) := by decide +kernel
theorem dX10_init_127 : decode cX10_init 127 = .ok (.return_, 1) := by decide +kernel
theorem dX10_in_0 : decode cX10_in 0 = .ok (.lload_n 0, 1) := by decide +kernel
theorem dX10_in_1 : decode cX10_in 1 = .ok (.lload_n 2, 1) := by decide +kernel
theorem dX10_in_2 : decode cX10_in 2 = .ok (.lcmp, 1) := by decide +kernel
theorem dX10_in_3 : decode cX10_in 3 = .ok (.ifCond .lt 14, 3) := by decide +kernel
theorem dX10_in_6 : decode cX10_in 6 = .ok (.lload_n 0, 1) := by decide +kernel
theorem dX10_in_7 : decode cX10_in 7 = .ok (.lload 4, 2) := by decide +kernel
theorem dX10_in_9 : decode cX10_in 9 = .ok (.lcmp, 1) := by decide +kernel
theorem dX10_in_10 : decode cX10_in 10 = .ok (.ifCond .gt 7, 3) := by decide +kernel
theorem dX10_in_13 : decode cX10_in 13 = .ok (.iconst 1, 1) := by decide +kernel
theorem dX10_in_14 : decode cX10_in 14 = .ok (.goto 4, 3) := by decide +kernel
theorem dX10_in_17 : decode cX10_in 17 = .ok (.iconst 0, 1) := by decide +kernel
theorem dX10_in_18 : decode cX10_in 18 = .ok (.ireturn, 1) := by decide +kernel
theorem dX10_has_0 : decode cX10_has 0 = .ok (.iload_n 0, 1) := by decide +kernel
theorem dX10_has_1 : decode cX10_has 1 = .ok (.iload_n 1, 1) := by decide +kernel
theorem dX10_has_2 : decode cX10_has 2 = .ok (.ishr, 1) := by decide +kernel
theorem dX10_has_3 : decode cX10_has 3 = .ok (.iconst 1, 1) := by decide +kernel
theorem dX10_has_4 : decode cX10_has 4 = .ok (.iand, 1) := by decide +kernel
theorem dX10_has_5 : decode cX10_has 5 = .ok (.iconst 1, 1) := by decide +kernel
theorem dX10_has_6 : decode cX10_has 6 = .ok (.if_icmp .ne 7, 3) := by decide +kernel
theorem dX10_has_9 : decode cX10_has 9 = .ok (.iconst 1, 1) := by decide +kernel
theorem dX10_has_10 : decode cX10_has 10 = .ok (.goto 4, 3) := by decide +kernel
theorem dX10_has_13 : decode cX10_has 13 = .ok (.iconst 0, 1) := by decide +kernel
theorem dX10_has_14 : decode cX10_has 14 = .ok (.ireturn, 1) := by decide +kernel
theorem dX10_bits_0 : decode cX10_bits 0 = .ok (.iconst 0, 1) := by decide +kernel
theorem dX10_bits_1 : decode cX10_bits 1 = .ok (.istore_n 1, 1) := by decide +kernel
theorem dX10_bits_2 : decode cX10_bits 2 = .ok (.iload_n 0, 1) := by decide +kernel
theorem dX10_bits_3 : decode cX10_bits 3 = .ok (.istore_n 2, 1) := by decide +kernel
theorem dX10_bits_4 : decode cX10_bits 4 = .ok (.iload_n 2, 1) := by decide +kernel
theorem dX10_bits_5 : decode cX10_bits 5 = .ok (.ifCond .eq 15, 3) := by decide +kernel
theorem dX10_bits_8 : decode cX10_bits 8 = .ok (.iinc 1 1, 3) := by decide +kernel
theorem dX10_bits_11 : decode cX10_bits 11 = .ok (.iload_n 2, 1) := by decide +kernel
theorem dX10_bits_12 : decode cX10_bits 12 = .ok (.iload_n 2, 1) := by decide +kernel
theorem dX10_bits_13 : decode cX10_bits 13 = .ok (.iconst 1, 1) := by decide +kernel
theorem dX10_bits_14 : decode cX10_bits 14 = .ok (.isub, 1) := by decide +kernel
theorem dX10_bits_15 : decode cX10_bits 15 = .ok (.iand, 1) := by decide +kernel
theorem dX10_bits_16 : decode cX10_bits 16 = .ok (.istore_n 2, 1) := by decide +kernel
theorem dX10_bits_17 : decode cX10_bits 17 = .ok (.goto (-13), 3) := by decide +kernel
theorem dX10_bits_20 : decode cX10_bits 20 = .ok (.iload_n 1, 1) := by decide +kernel
theorem dX10_bits_21 : decode cX10_bits 21 = .ok (.ireturn, 1) := by decide +kernel
theorem dX10_lesser_0 : decode cX10_lesser 0 = .ok (.iload_n 0, 1) := by decide +kernel
theorem dX10_lesser_1 : decode cX10_lesser 1 = .ok (.iload_n 1, 1) := by decide +kernel
theorem dX10_lesser_2 : decode cX10_lesser 2 = .ok (.if_icmp .ge 7, 3) := by decide +kernel
theorem dX10_lesser_5 : decode cX10_lesser 5 = .ok (.iload_n 0, 1) := by decide +kernel
theorem dX10_lesser_6 : decode cX10_lesser 6 = .ok (.goto 4, 3) := by decide +kernel
theorem dX10_lesser_9 : decode cX10_lesser 9 = .ok (.iload_n 1, 1) := by decide +kernel
theorem dX10_lesser_10 : decode cX10_lesser 10 = .ok (.ireturn, 1) := by decide +kernel
theorem dX10_greater_0 : decode cX10_greater 0 = .ok (.iload_n 0, 1) := by decide +kernel
theorem dX10_greater_1 : decode cX10_greater 1 = .ok (.iload_n 1, 1) := by decide +kernel
theorem dX10_greater_2 : decode cX10_greater 2 = .ok (.if_icmp .le 7, 3) := by decide +kernel
theorem dX10_greater_5 : decode cX10_greater 5 = .ok (.iload_n 0, 1) := by decide +kernel
theorem dX10_greater_6 : decode cX10_greater 6 = .ok (.goto 4, 3) := by decide +kernel
theorem dX10_greater_9 : decode cX10_greater 9 = .ok (.iload_n 1, 1) := by decide +kernel
theorem dX10_greater_10 : decode cX10_greater 10 = .ok (.ireturn, 1) := by decide +kernel
theorem dX10_copies_0 : decode cX10_copies 0 = .ok (.iconst 0, 1) := by decide +kernel
theorem dX10_copies_1 : decode cX10_copies 1 = .ok (.istore 5, 2) := by decide +kernel
theorem dX10_copies_3 : decode cX10_copies 3 = .ok (.iload 5, 2) := by decide +kernel
theorem dX10_copies_5 : decode cX10_copies 5 = .ok (.iload 4, 2) := by decide +kernel
theorem dX10_copies_7 : decode cX10_copies 7 = .ok (.if_icmp .ge 21, 3) := by decide +kernel
theorem dX10_copies_10 : decode cX10_copies 10 = .ok (.aload_n 2, 1) := by decide +kernel
theorem dX10_copies_11 : decode cX10_copies 11 = .ok (.iload_n 3, 1) := by decide +kernel
theorem dX10_copies_12 : decode cX10_copies 12 = .ok (.iload 5, 2) := by decide +kernel
theorem dX10_copies_14 : decode cX10_copies 14 = .ok (.iadd, 1) := by decide +kernel
theorem dX10_copies_15 : decode cX10_copies 15 = .ok (.aload_n 0, 1) := by decide +kernel
theorem dX10_copies_16 : decode cX10_copies 16 = .ok (.iload_n 1, 1) := by decide +kernel
theorem dX10_copies_17 : decode cX10_copies 17 = .ok (.iload 5, 2) := by decide +kernel
theorem dX10_copies_19 : decode cX10_copies 19 = .ok (.iadd, 1) := by decide +kernel
theorem dX10_copies_20 : decode cX10_copies 20 = .ok (.iaload, 1) := by decide +kernel
theorem dX10_copies_21 : decode cX10_copies 21 = .ok (.iastore, 1) := by decide +kernel
theorem dX10_copies_22 : decode cX10_copies 22 = .ok (.iinc 5 1, 3) := by decide +kernel
theorem dX10_copies_25 : decode cX10_copies 25 = .ok (.goto (-22), 3) := by decide +kernel
theorem dX10_copies_28 : decode cX10_copies 28 = .ok (.return_, 1) := by decide +kernel
theorem dX10_begins_0 : decode cX10_begins 0 = .ok (.iconst 0, 1) := by decide +kernel
theorem dX10_begins_1 : decode cX10_begins 1 = .ok (.istore_n 1, 1) := by decide +kernel
theorem dX10_begins_2 : decode cX10_begins 2 = .ok (.iload_n 1, 1) := by decide +kernel
theorem dX10_begins_3 : decode cX10_begins 3 = .ok (.bipush 24, 2) := by decide +kernel
theorem dX10_begins_5 : decode cX10_begins 5 = .ok (.if_icmp .ge 34, 3) := by decide +kernel
theorem dX10_begins_8 : decode cX10_begins 8 = .ok (.aload_n 0, 1) := by decide +kernel
theorem dX10_begins_9 : decode cX10_begins 9 = .ok (.getfield 16, 3) := by decide +kernel
theorem dX10_begins_12 : decode cX10_begins 12 = .ok (.iload_n 1, 1) := by decide +kernel
theorem dX10_begins_13 : decode cX10_begins 13 = .ok (.iload_n 1, 1) := by decide +kernel
theorem dX10_begins_14 : decode cX10_begins 14 = .ok (.i2l, 1) := by decide +kernel
theorem dX10_begins_15 : decode cX10_begins 15 = .ok (.ldc2_w 60, 3) := by decide +kernel
theorem dX10_begins_18 : decode cX10_begins 18 = .ok (.ldc2_w 62, 3) := by decide +kernel
theorem dX10_begins_21 : decode cX10_begins 21 = .ok (.invokestatic 64, 3) := by decide +kernel
theorem dX10_begins_24 : decode cX10_begins 24 = .ok (.ifCond .eq 7, 3) := by decide +kernel
theorem dX10_begins_27 : decode cX10_begins 27 = .ok (.iconst (-1), 1) := by decide +kernel
theorem dX10_begins_28 : decode cX10_begins 28 = .ok (.goto 4, 3) := by decide +kernel
theorem dX10_begins_31 : decode cX10_begins 31 = .ok (.iconst 0, 1) := by decide +kernel
theorem dX10_begins_32 : decode cX10_begins 32 = .ok (.iastore, 1) := by decide +kernel
theorem dX10_begins_33 : decode cX10_begins 33 = .ok (.iinc 1 1, 3) := by decide +kernel
theorem dX10_begins_36 : decode cX10_begins 36 = .ok (.goto (-34), 3) := by decide +kernel
theorem dX10_begins_39 : decode cX10_begins 39 = .ok (.aload_n 0, 1) := by decide +kernel
theorem dX10_begins_40 : decode cX10_begins 40 = .ok (.getfield 7, 3) := by decide +kernel
theorem dX10_begins_43 : decode cX10_begins 43 = .ok (.bipush 36, 2) := by decide +kernel
theorem dX10_begins_45 : decode cX10_begins 45 = .ok (.aload_n 0, 1) := by decide +kernel
theorem dX10_begins_46 : decode cX10_begins 46 = .ok (.getfield 16, 3) := by decide +kernel
theorem dX10_begins_49 : decode cX10_begins 49 = .ok (.bipush 19, 2) := by decide +kernel
theorem dX10_begins_51 : decode cX10_begins 51 = .ok (.iconst 4, 1) := by decide +kernel
theorem dX10_begins_52 : decode cX10_begins 52 = .ok (.invokestatic 68, 3) := by decide +kernel
theorem dX10_begins_55 : decode cX10_begins 55 = .ok (.aload_n 0, 1) := by decide +kernel
theorem dX10_begins_56 : decode cX10_begins 56 = .ok (.iconst 0, 1) := by decide +kernel
theorem dX10_begins_57 : decode cX10_begins 57 = .ok (.putfield 72, 3) := by decide +kernel
theorem dX10_begins_60 : decode cX10_begins 60 = .ok (.aload_n 0, 1) := by decide +kernel
theorem dX10_begins_61 : decode cX10_begins 61 = .ok (.iconst 0, 1) := by decide +kernel
theorem dX10_begins_62 : decode cX10_begins 62 = .ok (.putfield 75, 3) := by decide +kernel
theorem dX10_begins_65 : decode cX10_begins 65 = .ok (.aload_n 0, 1) := by decide +kernel
theorem dX10_begins_66 : decode cX10_begins 66 = .ok (.iconst 0, 1) := by decide +kernel
theorem dX10_begins_67 : decode cX10_begins 67 = .ok (.putfield 78, 3) := by decide +kernel
theorem dX10_begins_70 : decode cX10_begins 70 = .ok (.aload_n 0, 1) := by decide +kernel
theorem dX10_begins_71 : decode cX10_begins 71 = .ok (.iconst 0, 1) := by decide +kernel
theorem dX10_begins_72 : decode cX10_begins 72 = .ok (.putfield 81, 3) := by decide +kernel
theorem dX10_begins_75 : decode cX10_begins 75 = .ok (.aload_n 0, 1) := by decide +kernel
theorem dX10_begins_76 : decode cX10_begins 76 = .ok (.getfield 28, 3) := by decide +kernel
theorem dX10_begins_79 : decode cX10_begins 79 = .ok (.iconst 0, 1) := by decide +kernel
theorem dX10_begins_80 : decode cX10_begins 80 = .ok (.iconst 0, 1) := by decide +kernel
theorem dX10_begins_81 : decode cX10_begins 81 = .ok (.bastore, 1) := by decide +kernel
theorem dX10_begins_82 : decode cX10_begins 82 = .ok (.aload_n 0, 1) := by decide +kernel
theorem dX10_begins_83 : decode cX10_begins 83 = .ok (.getfield 28, 3) := by decide +kernel
theorem dX10_begins_86 : decode cX10_begins 86 = .ok (.iconst 1, 1) := by decide +kernel
theorem dX10_begins_87 : decode cX10_begins 87 = .ok (.iconst 0, 1) := by decide +kernel
theorem dX10_begins_88 : decode cX10_begins 88 = .ok (.bastore, 1) := by decide +kernel
theorem dX10_begins_89 : decode cX10_begins 89 = .ok (.return_, 1) := by decide +kernel
theorem dX10_feed_0 : decode cX10_feed 0 = .ok (.iload_n 1, 1) := by decide +kernel
theorem dX10_feed_1 : decode cX10_feed 1 = .ok (.i2l, 1) := by decide +kernel
theorem dX10_feed_2 : decode cX10_feed 2 = .ok (.lconst 0, 1) := by decide +kernel
theorem dX10_feed_3 : decode cX10_feed 3 = .ok (.ldc2_w 84, 3) := by decide +kernel
theorem dX10_feed_6 : decode cX10_feed 6 = .ok (.invokestatic 64, 3) := by decide +kernel
theorem dX10_feed_9 : decode cX10_feed 9 = .ok (.ifCond .ne 6, 3) := by decide +kernel
theorem dX10_feed_12 : decode cX10_feed 12 = .ok (.ldc 86, 2) := by decide +kernel
theorem dX10_feed_14 : decode cX10_feed 14 = .ok (.ireturn, 1) := by decide +kernel
theorem dX10_feed_15 : decode cX10_feed 15 = .ok (.aload_n 0, 1) := by decide +kernel
theorem dX10_feed_16 : decode cX10_feed 16 = .ok (.getfield 87, 3) := by decide +kernel
theorem dX10_feed_19 : decode cX10_feed 19 = .ok (.sipush 240, 3) := by decide +kernel
theorem dX10_feed_22 : decode cX10_feed 22 = .ok (.if_icmp .ne 6, 3) := by decide +kernel
theorem dX10_feed_25 : decode cX10_feed 25 = .ok (.ldc 90, 2) := by decide +kernel
theorem dX10_feed_27 : decode cX10_feed 27 = .ok (.ireturn, 1) := by decide +kernel
theorem dX10_feed_28 : decode cX10_feed 28 = .ok (.aload_n 0, 1) := by decide +kernel
theorem dX10_feed_29 : decode cX10_feed 29 = .ok (.getfield 32, 3) := by decide +kernel
theorem dX10_feed_32 : decode cX10_feed 32 = .ok (.aload_n 0, 1) := by decide +kernel
theorem dX10_feed_33 : decode cX10_feed 33 = .ok (.getfield 87, 3) := by decide +kernel
theorem dX10_feed_36 : decode cX10_feed 36 = .ok (.iload_n 1, 1) := by decide +kernel
theorem dX10_feed_37 : decode cX10_feed 37 = .ok (.iastore, 1) := by decide +kernel
theorem dX10_feed_38 : decode cX10_feed 38 = .ok (.aload_n 0, 1) := by decide +kernel
theorem dX10_feed_39 : decode cX10_feed 39 = .ok (.dup, 1) := by decide +kernel
theorem dX10_feed_40 : decode cX10_feed 40 = .ok (.getfield 87, 3) := by decide +kernel
theorem dX10_feed_43 : decode cX10_feed 43 = .ok (.iconst 1, 1) := by decide +kernel
theorem dX10_feed_44 : decode cX10_feed 44 = .ok (.iadd, 1) := by decide +kernel
theorem dX10_feed_45 : decode cX10_feed 45 = .ok (.putfield 87, 3) := by decide +kernel
theorem dX10_feed_48 : decode cX10_feed 48 = .ok (.aload_n 0, 1) := by decide +kernel
theorem dX10_feed_49 : decode cX10_feed 49 = .ok (.getfield 87, 3) := by decide +kernel
theorem dX10_feed_52 : decode cX10_feed 52 = .ok (.ireturn, 1) := by decide +kernel
theorem dX10_here_0 : decode cX10_here 0 = .ok (.aload_n 0, 1) := by decide +kernel
theorem dX10_here_1 : decode cX10_here 1 = .ok (.getfield 91, 3) := by decide +kernel
theorem dX10_here_4 : decode cX10_here 4 = .ok (.aload_n 0, 1) := by decide +kernel
theorem dX10_here_5 : decode cX10_here 5 = .ok (.getfield 87, 3) := by decide +kernel
theorem dX10_here_8 : decode cX10_here 8 = .ok (.if_icmp .ge 15, 3) := by decide +kernel
theorem dX10_here_11 : decode cX10_here 11 = .ok (.aload_n 0, 1) := by decide +kernel
theorem dX10_here_12 : decode cX10_here 12 = .ok (.getfield 32, 3) := by decide +kernel
theorem dX10_here_15 : decode cX10_here 15 = .ok (.aload_n 0, 1) := by decide +kernel
theorem dX10_here_16 : decode cX10_here 16 = .ok (.getfield 91, 3) := by decide +kernel
theorem dX10_here_19 : decode cX10_here 19 = .ok (.iaload, 1) := by decide +kernel
theorem dX10_here_20 : decode cX10_here 20 = .ok (.goto 4, 3) := by decide +kernel
theorem dX10_here_23 : decode cX10_here 23 = .ok (.iconst (-1), 1) := by decide +kernel
theorem dX10_here_24 : decode cX10_here 24 = .ok (.ireturn, 1) := by decide +kernel
theorem dX10_step_0 : decode cX10_step 0 = .ok (.aload_n 0, 1) := by decide +kernel
theorem dX10_step_1 : decode cX10_step 1 = .ok (.invokevirtual 94, 3) := by decide +kernel
theorem dX10_step_4 : decode cX10_step 4 = .ok (.bipush 32, 2) := by decide +kernel
theorem dX10_step_6 : decode cX10_step 6 = .ok (.if_icmp .ne 16, 3) := by decide +kernel
theorem dX10_step_9 : decode cX10_step 9 = .ok (.aload_n 0, 1) := by decide +kernel
theorem dX10_step_10 : decode cX10_step 10 = .ok (.dup, 1) := by decide +kernel
theorem dX10_step_11 : decode cX10_step 11 = .ok (.getfield 91, 3) := by decide +kernel
theorem dX10_step_14 : decode cX10_step 14 = .ok (.iconst 1, 1) := by decide +kernel
theorem dX10_step_15 : decode cX10_step 15 = .ok (.iadd, 1) := by decide +kernel
theorem dX10_step_16 : decode cX10_step 16 = .ok (.putfield 91, 3) := by decide +kernel
theorem dX10_step_19 : decode cX10_step 19 = .ok (.goto (-19), 3) := by decide +kernel
theorem dX10_step_22 : decode cX10_step 22 = .ok (.aload_n 0, 1) := by decide +kernel
theorem dX10_step_23 : decode cX10_step 23 = .ok (.aload_n 0, 1) := by decide +kernel
theorem dX10_step_24 : decode cX10_step 24 = .ok (.getfield 91, 3) := by decide +kernel
theorem dX10_step_27 : decode cX10_step 27 = .ok (.putfield 98, 3) := by decide +kernel
theorem dX10_step_30 : decode cX10_step 30 = .ok (.aload_n 0, 1) := by decide +kernel
theorem dX10_step_31 : decode cX10_step 31 = .ok (.aload_n 0, 1) := by decide +kernel
theorem dX10_step_32 : decode cX10_step 32 = .ok (.invokevirtual 94, 3) := by decide +kernel
theorem dX10_step_35 : decode cX10_step 35 = .ok (.putfield 101, 3) := by decide +kernel
theorem dX10_step_38 : decode cX10_step 38 = .ok (.aload_n 0, 1) := by decide +kernel
theorem dX10_step_39 : decode cX10_step 39 = .ok (.iconst 0, 1) := by decide +kernel
theorem dX10_step_40 : decode cX10_step 40 = .ok (.putfield 104, 3) := by decide +kernel
theorem dX10_step_43 : decode cX10_step 43 = .ok (.aload_n 0, 1) := by decide +kernel
theorem dX10_step_44 : decode cX10_step 44 = .ok (.iconst 0, 1) := by decide +kernel
theorem dX10_step_45 : decode cX10_step 45 = .ok (.putfield 107, 3) := by decide +kernel
theorem dX10_step_48 : decode cX10_step 48 = .ok (.aload_n 0, 1) := by decide +kernel
theorem dX10_step_49 : decode cX10_step 49 = .ok (.getfield 101, 3) := by decide +kernel
theorem dX10_step_52 : decode cX10_step 52 = .ok (.i2l, 1) := by decide +kernel
theorem dX10_step_53 : decode cX10_step 53 = .ok (.ldc2_w 110, 3) := by decide +kernel
theorem dX10_step_56 : decode cX10_step 56 = .ok (.ldc2_w 112, 3) := by decide +kernel
theorem dX10_step_59 : decode cX10_step 59 = .ok (.invokestatic 64, 3) := by decide +kernel
theorem dX10_step_62 : decode cX10_step 62 = .ok (.ifCond .ne 25, 3) := by decide +kernel
theorem dX10_step_65 : decode cX10_step 65 = .ok (.aload_n 0, 1) := by decide +kernel
theorem dX10_step_66 : decode cX10_step 66 = .ok (.dup, 1) := by decide +kernel
theorem dX10_step_67 : decode cX10_step 67 = .ok (.getfield 91, 3) := by decide +kernel
theorem dX10_step_70 : decode cX10_step 70 = .ok (.aload_n 0, 1) := by decide +kernel
theorem dX10_step_71 : decode cX10_step 71 = .ok (.getfield 101, 3) := by decide +kernel
theorem dX10_step_74 : decode cX10_step 74 = .ok (.ifCond .ge 7, 3) := by decide +kernel
theorem dX10_step_77 : decode cX10_step 77 = .ok (.iconst 0, 1) := by decide +kernel
theorem dX10_step_78 : decode cX10_step 78 = .ok (.goto 4, 3) := by decide +kernel
theorem dX10_step_81 : decode cX10_step 81 = .ok (.iconst 1, 1) := by decide +kernel
theorem dX10_step_82 : decode cX10_step 82 = .ok (.iadd, 1) := by decide +kernel
theorem dX10_step_83 : decode cX10_step 83 = .ok (.putfield 91, 3) := by decide +kernel
theorem dX10_step_86 : decode cX10_step 86 = .ok (.return_, 1) := by decide +kernel
theorem dX10_step_87 : decode cX10_step 87 = .ok (.aload_n 0, 1) := by decide +kernel
theorem dX10_step_88 : decode cX10_step 88 = .ok (.bipush 48, 2) := by decide +kernel
theorem dX10_step_90 : decode cX10_step 90 = .ok (.putfield 101, 3) := by decide +kernel
theorem dX10_step_93 : decode cX10_step 93 = .ok (.aload_n 0, 1) := by decide +kernel
theorem dX10_step_94 : decode cX10_step 94 = .ok (.invokevirtual 94, 3) := by decide +kernel
theorem dX10_step_97 : decode cX10_step 97 = .ok (.i2l, 1) := by decide +kernel
theorem dX10_step_98 : decode cX10_step 98 = .ok (.ldc2_w 110, 3) := by decide +kernel
theorem dX10_step_101 : decode cX10_step 101 = .ok (.ldc2_w 112, 3) := by decide +kernel
theorem dX10_step_104 : decode cX10_step 104 = .ok (.invokestatic 64, 3) := by decide +kernel
theorem dX10_step_107 : decode cX10_step 107 = .ok (.ifCond .eq 60, 3) := by decide +kernel
theorem dX10_step_110 : decode cX10_step 110 = .ok (.aload_n 0, 1) := by decide +kernel
theorem dX10_step_111 : decode cX10_step 111 = .ok (.aload_n 0, 1) := by decide +kernel
theorem dX10_step_112 : decode cX10_step 112 = .ok (.getfield 104, 3) := by decide +kernel
theorem dX10_step_115 : decode cX10_step 115 = .ok (.iconst 3, 1) := by decide +kernel
theorem dX10_step_116 : decode cX10_step 116 = .ok (.if_icmp .ge 21, 3) := by decide +kernel
theorem dX10_step_119 : decode cX10_step 119 = .ok (.bipush 10, 2) := by decide +kernel
theorem dX10_step_121 : decode cX10_step 121 = .ok (.aload_n 0, 1) := by decide +kernel
theorem dX10_step_122 : decode cX10_step 122 = .ok (.getfield 107, 3) := by decide +kernel
theorem dX10_step_125 : decode cX10_step 125 = .ok (.imul, 1) := by decide +kernel
theorem dX10_step_126 : decode cX10_step 126 = .ok (.aload_n 0, 1) := by decide +kernel
theorem dX10_step_127 : decode cX10_step 127 = .ok (.invokevirtual 94, 3) := by decide +kernel
theorem dX10_step_130 : decode cX10_step 130 = .ok (.iadd, 1) := by decide +kernel
theorem dX10_step_131 : decode cX10_step 131 = .ok (.bipush 48, 2) := by decide +kernel
theorem dX10_step_133 : decode cX10_step 133 = .ok (.isub, 1) := by decide +kernel
theorem dX10_step_134 : decode cX10_step 134 = .ok (.goto 7, 3) := by decide +kernel
theorem dX10_step_137 : decode cX10_step 137 = .ok (.aload_n 0, 1) := by decide +kernel
theorem dX10_step_138 : decode cX10_step 138 = .ok (.getfield 107, 3) := by decide +kernel
theorem dX10_step_141 : decode cX10_step 141 = .ok (.putfield 107, 3) := by decide +kernel
theorem dX10_step_144 : decode cX10_step 144 = .ok (.aload_n 0, 1) := by decide +kernel
theorem dX10_step_145 : decode cX10_step 145 = .ok (.dup, 1) := by decide +kernel
theorem dX10_step_146 : decode cX10_step 146 = .ok (.getfield 104, 3) := by decide +kernel
theorem dX10_step_149 : decode cX10_step 149 = .ok (.iconst 1, 1) := by decide +kernel
theorem dX10_step_150 : decode cX10_step 150 = .ok (.iadd, 1) := by decide +kernel
theorem dX10_step_151 : decode cX10_step 151 = .ok (.putfield 104, 3) := by decide +kernel
theorem dX10_step_154 : decode cX10_step 154 = .ok (.aload_n 0, 1) := by decide +kernel
theorem dX10_step_155 : decode cX10_step 155 = .ok (.dup, 1) := by decide +kernel
theorem dX10_step_156 : decode cX10_step 156 = .ok (.getfield 91, 3) := by decide +kernel
theorem dX10_step_159 : decode cX10_step 159 = .ok (.iconst 1, 1) := by decide +kernel
theorem dX10_step_160 : decode cX10_step 160 = .ok (.iadd, 1) := by decide +kernel
theorem dX10_step_161 : decode cX10_step 161 = .ok (.putfield 91, 3) := by decide +kernel
theorem dX10_step_164 : decode cX10_step 164 = .ok (.goto (-71), 3) := by decide +kernel
theorem dX10_step_167 : decode cX10_step 167 = .ok (.return_, 1) := by decide +kernel
theorem dX10_fails_0 : decode cX10_fails 0 = .ok (.aload_n 0, 1) := by decide +kernel
theorem dX10_fails_1 : decode cX10_fails 1 = .ok (.iload_n 1, 1) := by decide +kernel
theorem dX10_fails_2 : decode cX10_fails 2 = .ok (.putfield 114, 3) := by decide +kernel
theorem dX10_fails_5 : decode cX10_fails 5 = .ok (.iconst 0, 1) := by decide +kernel
theorem dX10_fails_6 : decode cX10_fails 6 = .ok (.ireturn, 1) := by decide +kernel
theorem dX10_number_0 : decode cX10_number 0 = .ok (.aload_n 0, 1) := by decide +kernel
theorem dX10_number_1 : decode cX10_number 1 = .ok (.invokevirtual 117, 3) := by decide +kernel
theorem dX10_number_4 : decode cX10_number 4 = .ok (.aload_n 0, 1) := by decide +kernel
theorem dX10_number_5 : decode cX10_number 5 = .ok (.getfield 101, 3) := by decide +kernel
theorem dX10_number_8 : decode cX10_number 8 = .ok (.bipush 48, 2) := by decide +kernel
theorem dX10_number_10 : decode cX10_number 10 = .ok (.if_icmp .eq 9, 3) := by decide +kernel
theorem dX10_number_13 : decode cX10_number 13 = .ok (.aload_n 0, 1) := by decide +kernel
theorem dX10_number_14 : decode cX10_number 14 = .ok (.iconst 1, 1) := by decide +kernel
theorem dX10_number_15 : decode cX10_number 15 = .ok (.invokevirtual 120, 3) := by decide +kernel
theorem dX10_number_18 : decode cX10_number 18 = .ok (.ireturn, 1) := by decide +kernel
theorem dX10_number_19 : decode cX10_number 19 = .ok (.aload_n 0, 1) := by decide +kernel
theorem dX10_number_20 : decode cX10_number 20 = .ok (.getfield 104, 3) := by decide +kernel
theorem dX10_number_23 : decode cX10_number 23 = .ok (.iconst 3, 1) := by decide +kernel
theorem dX10_number_24 : decode cX10_number 24 = .ok (.if_icmp .gt 18, 3) := by decide +kernel
theorem dX10_number_27 : decode cX10_number 27 = .ok (.aload_n 0, 1) := by decide +kernel
theorem dX10_number_28 : decode cX10_number 28 = .ok (.getfield 107, 3) := by decide +kernel
theorem dX10_number_31 : decode cX10_number 31 = .ok (.i2l, 1) := by decide +kernel
theorem dX10_number_32 : decode cX10_number 32 = .ok (.iload_n 2, 1) := by decide +kernel
theorem dX10_number_33 : decode cX10_number 33 = .ok (.i2l, 1) := by decide +kernel
theorem dX10_number_34 : decode cX10_number 34 = .ok (.iload_n 3, 1) := by decide +kernel
theorem dX10_number_35 : decode cX10_number 35 = .ok (.i2l, 1) := by decide +kernel
theorem dX10_number_36 : decode cX10_number 36 = .ok (.invokestatic 64, 3) := by decide +kernel
theorem dX10_number_39 : decode cX10_number 39 = .ok (.ifCond .ne 9, 3) := by decide +kernel
theorem dX10_number_42 : decode cX10_number 42 = .ok (.aload_n 0, 1) := by decide +kernel
theorem dX10_number_43 : decode cX10_number 43 = .ok (.iconst 2, 1) := by decide +kernel
theorem dX10_number_44 : decode cX10_number 44 = .ok (.invokevirtual 120, 3) := by decide +kernel
theorem dX10_number_47 : decode cX10_number 47 = .ok (.ireturn, 1) := by decide +kernel
theorem dX10_number_48 : decode cX10_number 48 = .ok (.aload_n 0, 1) := by decide +kernel
theorem dX10_number_49 : decode cX10_number 49 = .ok (.getfield 13, 3) := by decide +kernel
theorem dX10_number_52 : decode cX10_number 52 = .ok (.iload_n 1, 1) := by decide +kernel
theorem dX10_number_53 : decode cX10_number 53 = .ok (.aload_n 0, 1) := by decide +kernel
theorem dX10_number_54 : decode cX10_number 54 = .ok (.getfield 107, 3) := by decide +kernel
theorem dX10_number_57 : decode cX10_number 57 = .ok (.iastore, 1) := by decide +kernel
theorem dX10_number_58 : decode cX10_number 58 = .ok (.iconst 1, 1) := by decide +kernel
theorem dX10_number_59 : decode cX10_number 59 = .ok (.ireturn, 1) := by decide +kernel
theorem dX10_ends_0 : decode cX10_ends 0 = .ok (.aload_n 0, 1) := by decide +kernel
theorem dX10_ends_1 : decode cX10_ends 1 = .ok (.invokevirtual 117, 3) := by decide +kernel
theorem dX10_ends_4 : decode cX10_ends 4 = .ok (.aload_n 0, 1) := by decide +kernel
theorem dX10_ends_5 : decode cX10_ends 5 = .ok (.getfield 101, 3) := by decide +kernel
theorem dX10_ends_8 : decode cX10_ends 8 = .ok (.bipush 59, 2) := by decide +kernel
theorem dX10_ends_10 : decode cX10_ends 10 = .ok (.if_icmp .eq 11, 3) := by decide +kernel
theorem dX10_ends_13 : decode cX10_ends 13 = .ok (.aload_n 0, 1) := by decide +kernel
theorem dX10_ends_14 : decode cX10_ends 14 = .ok (.iconst 1, 1) := by decide +kernel
theorem dX10_ends_15 : decode cX10_ends 15 = .ok (.invokevirtual 120, 3) := by decide +kernel
theorem dX10_ends_18 : decode cX10_ends 18 = .ok (.ifCond .eq 7, 3) := by decide +kernel
theorem dX10_ends_21 : decode cX10_ends 21 = .ok (.iconst 1, 1) := by decide +kernel
theorem dX10_ends_22 : decode cX10_ends 22 = .ok (.goto 4, 3) := by decide +kernel
theorem dX10_ends_25 : decode cX10_ends 25 = .ok (.iconst 0, 1) := by decide +kernel
theorem dX10_ends_26 : decode cX10_ends 26 = .ok (.ireturn, 1) := by decide +kernel
theorem dX10_readsCells_0 : decode cX10_readsCells 0 = .ok (.aload_n 0, 1) := by decide +kernel
theorem dX10_readsCells_1 : decode cX10_readsCells 1 = .ok (.getfield 13, 3) := by decide +kernel
theorem dX10_readsCells_4 : decode cX10_readsCells 4 = .ok (.iconst 0, 1) := by decide +kernel
theorem dX10_readsCells_5 : decode cX10_readsCells 5 = .ok (.iaload, 1) := by decide +kernel
theorem dX10_readsCells_6 : decode cX10_readsCells 6 = .ok (.ifCond .le 9, 3) := by decide +kernel
theorem dX10_readsCells_9 : decode cX10_readsCells 9 = .ok (.aload_n 0, 1) := by decide +kernel
theorem dX10_readsCells_10 : decode cX10_readsCells 10 = .ok (.iconst 3, 1) := by decide +kernel
theorem dX10_readsCells_11 : decode cX10_readsCells 11 = .ok (.invokevirtual 120, 3) := by decide +kernel
theorem dX10_readsCells_14 : decode cX10_readsCells 14 = .ok (.ireturn, 1) := by decide +kernel
theorem dX10_readsCells_15 : decode cX10_readsCells 15 = .ok (.iconst 1, 1) := by decide +kernel
theorem dX10_readsCells_16 : decode cX10_readsCells 16 = .ok (.istore_n 1, 1) := by decide +kernel
theorem dX10_readsCells_17 : decode cX10_readsCells 17 = .ok (.iload_n 1, 1) := by decide +kernel
theorem dX10_readsCells_18 : decode cX10_readsCells 18 = .ok (.ifCond .eq 73, 3) := by decide +kernel
theorem dX10_readsCells_21 : decode cX10_readsCells 21 = .ok (.aload_n 0, 1) := by decide +kernel
theorem dX10_readsCells_22 : decode cX10_readsCells 22 = .ok (.iconst 4, 1) := by decide +kernel
theorem dX10_readsCells_23 : decode cX10_readsCells 23 = .ok (.aload_n 0, 1) := by decide +kernel
theorem dX10_readsCells_24 : decode cX10_readsCells 24 = .ok (.getfield 13, 3) := by decide +kernel
theorem dX10_readsCells_27 : decode cX10_readsCells 27 = .ok (.iconst 0, 1) := by decide +kernel
theorem dX10_readsCells_28 : decode cX10_readsCells 28 = .ok (.iaload, 1) := by decide +kernel
theorem dX10_readsCells_29 : decode cX10_readsCells 29 = .ok (.iadd, 1) := by decide +kernel
theorem dX10_readsCells_30 : decode cX10_readsCells 30 = .ok (.iconst 0, 1) := by decide +kernel
theorem dX10_readsCells_31 : decode cX10_readsCells 31 = .ok (.bipush 60, 2) := by decide +kernel
theorem dX10_readsCells_33 : decode cX10_readsCells 33 = .ok (.invokevirtual 124, 3) := by decide +kernel
theorem dX10_readsCells_36 : decode cX10_readsCells 36 = .ok (.ifCond .ne 5, 3) := by decide +kernel
theorem dX10_readsCells_39 : decode cX10_readsCells 39 = .ok (.iconst 0, 1) := by decide +kernel
theorem dX10_readsCells_40 : decode cX10_readsCells 40 = .ok (.ireturn, 1) := by decide +kernel
theorem dX10_readsCells_41 : decode cX10_readsCells 41 = .ok (.aload_n 0, 1) := by decide +kernel
theorem dX10_readsCells_42 : decode cX10_readsCells 42 = .ok (.getfield 13, 3) := by decide +kernel
theorem dX10_readsCells_45 : decode cX10_readsCells 45 = .ok (.iconst 0, 1) := by decide +kernel
theorem dX10_readsCells_46 : decode cX10_readsCells 46 = .ok (.dup2, 1) := by decide +kernel
theorem dX10_readsCells_47 : decode cX10_readsCells 47 = .ok (.iaload, 1) := by decide +kernel
theorem dX10_readsCells_48 : decode cX10_readsCells 48 = .ok (.iconst 1, 1) := by decide +kernel
theorem dX10_readsCells_49 : decode cX10_readsCells 49 = .ok (.iadd, 1) := by decide +kernel
theorem dX10_readsCells_50 : decode cX10_readsCells 50 = .ok (.iastore, 1) := by decide +kernel
theorem dX10_readsCells_51 : decode cX10_readsCells 51 = .ok (.aload_n 0, 1) := by decide +kernel
theorem dX10_readsCells_52 : decode cX10_readsCells 52 = .ok (.invokevirtual 117, 3) := by decide +kernel
theorem dX10_readsCells_55 : decode cX10_readsCells 55 = .ok (.aload_n 0, 1) := by decide +kernel
theorem dX10_readsCells_56 : decode cX10_readsCells 56 = .ok (.getfield 101, 3) := by decide +kernel
theorem dX10_readsCells_59 : decode cX10_readsCells 59 = .ok (.bipush 44, 2) := by decide +kernel
theorem dX10_readsCells_61 : decode cX10_readsCells 61 = .ok (.if_icmp .ne 7, 3) := by decide +kernel
theorem dX10_readsCells_64 : decode cX10_readsCells 64 = .ok (.iconst 1, 1) := by decide +kernel
theorem dX10_readsCells_65 : decode cX10_readsCells 65 = .ok (.goto 4, 3) := by decide +kernel
theorem dX10_readsCells_68 : decode cX10_readsCells 68 = .ok (.iconst 0, 1) := by decide +kernel
theorem dX10_readsCells_69 : decode cX10_readsCells 69 = .ok (.istore_n 1, 1) := by decide +kernel
theorem dX10_readsCells_70 : decode cX10_readsCells 70 = .ok (.iload_n 1, 1) := by decide +kernel
theorem dX10_readsCells_71 : decode cX10_readsCells 71 = .ok (.ifCond .eq (-54), 3) := by decide +kernel
theorem dX10_readsCells_74 : decode cX10_readsCells 74 = .ok (.aload_n 0, 1) := by decide +kernel
theorem dX10_readsCells_75 : decode cX10_readsCells 75 = .ok (.getfield 13, 3) := by decide +kernel
theorem dX10_readsCells_78 : decode cX10_readsCells 78 = .ok (.iconst 0, 1) := by decide +kernel
theorem dX10_readsCells_79 : decode cX10_readsCells 79 = .ok (.iaload, 1) := by decide +kernel
theorem dX10_readsCells_80 : decode cX10_readsCells 80 = .ok (.bipush 10, 2) := by decide +kernel
theorem dX10_readsCells_82 : decode cX10_readsCells 82 = .ok (.if_icmp .ne (-65), 3) := by decide +kernel
theorem dX10_readsCells_85 : decode cX10_readsCells 85 = .ok (.aload_n 0, 1) := by decide +kernel
theorem dX10_readsCells_86 : decode cX10_readsCells 86 = .ok (.iconst 1, 1) := by decide +kernel
theorem dX10_readsCells_87 : decode cX10_readsCells 87 = .ok (.invokevirtual 120, 3) := by decide +kernel
theorem dX10_readsCells_90 : decode cX10_readsCells 90 = .ok (.ireturn, 1) := by decide +kernel
theorem dX10_readsCells_91 : decode cX10_readsCells 91 = .ok (.aload_n 0, 1) := by decide +kernel
theorem dX10_readsCells_92 : decode cX10_readsCells 92 = .ok (.getfield 101, 3) := by decide +kernel
theorem dX10_readsCells_95 : decode cX10_readsCells 95 = .ok (.bipush 59, 2) := by decide +kernel
theorem dX10_readsCells_97 : decode cX10_readsCells 97 = .ok (.if_icmp .ne 13, 3) := by decide +kernel
theorem dX10_readsCells_100 : decode cX10_readsCells 100 = .ok (.aload_n 0, 1) := by decide +kernel
theorem dX10_readsCells_101 : decode cX10_readsCells 101 = .ok (.getfield 13, 3) := by decide +kernel
theorem dX10_readsCells_104 : decode cX10_readsCells 104 = .ok (.iconst 0, 1) := by decide +kernel
theorem dX10_readsCells_105 : decode cX10_readsCells 105 = .ok (.iaload, 1) := by decide +kernel
theorem dX10_readsCells_106 : decode cX10_readsCells 106 = .ok (.iconst 1, 1) := by decide +kernel
theorem dX10_readsCells_107 : decode cX10_readsCells 107 = .ok (.if_icmp .gt 11, 3) := by decide +kernel
theorem dX10_readsCells_110 : decode cX10_readsCells 110 = .ok (.aload_n 0, 1) := by decide +kernel
theorem dX10_readsCells_111 : decode cX10_readsCells 111 = .ok (.iconst 1, 1) := by decide +kernel
theorem dX10_readsCells_112 : decode cX10_readsCells 112 = .ok (.invokevirtual 120, 3) := by decide +kernel
theorem dX10_readsCells_115 : decode cX10_readsCells 115 = .ok (.ifCond .eq 7, 3) := by decide +kernel
theorem dX10_readsCells_118 : decode cX10_readsCells 118 = .ok (.iconst 1, 1) := by decide +kernel
theorem dX10_readsCells_119 : decode cX10_readsCells 119 = .ok (.goto 4, 3) := by decide +kernel
theorem dX10_readsCells_122 : decode cX10_readsCells 122 = .ok (.iconst 0, 1) := by decide +kernel
theorem dX10_readsCells_123 : decode cX10_readsCells 123 = .ok (.ireturn, 1) := by decide +kernel
theorem dX10_readsTower_0 : decode cX10_readsTower 0 = .ok (.aload_n 0, 1) := by decide +kernel
theorem dX10_readsTower_1 : decode cX10_readsTower 1 = .ok (.getfield 13, 3) := by decide +kernel
theorem dX10_readsTower_4 : decode cX10_readsTower 4 = .ok (.iconst 1, 1) := by decide +kernel
theorem dX10_readsTower_5 : decode cX10_readsTower 5 = .ok (.iaload, 1) := by decide +kernel
theorem dX10_readsTower_6 : decode cX10_readsTower 6 = .ok (.istore_n 1, 1) := by decide +kernel
theorem dX10_readsTower_7 : decode cX10_readsTower 7 = .ok (.iload_n 1, 1) := by decide +kernel
theorem dX10_readsTower_8 : decode cX10_readsTower 8 = .ok (.bipush 6, 2) := by decide +kernel
theorem dX10_readsTower_10 : decode cX10_readsTower 10 = .ok (.if_icmp .ne 9, 3) := by decide +kernel
theorem dX10_readsTower_13 : decode cX10_readsTower 13 = .ok (.aload_n 0, 1) := by decide +kernel
theorem dX10_readsTower_14 : decode cX10_readsTower 14 = .ok (.iconst 3, 1) := by decide +kernel
theorem dX10_readsTower_15 : decode cX10_readsTower 15 = .ok (.invokevirtual 120, 3) := by decide +kernel
theorem dX10_readsTower_18 : decode cX10_readsTower 18 = .ok (.ireturn, 1) := by decide +kernel
theorem dX10_readsTower_19 : decode cX10_readsTower 19 = .ok (.aload_n 0, 1) := by decide +kernel
theorem dX10_readsTower_20 : decode cX10_readsTower 20 = .ok (.getfield 13, 3) := by decide +kernel
theorem dX10_readsTower_23 : decode cX10_readsTower 23 = .ok (.iconst 1, 1) := by decide +kernel
theorem dX10_readsTower_24 : decode cX10_readsTower 24 = .ok (.dup2, 1) := by decide +kernel
theorem dX10_readsTower_25 : decode cX10_readsTower 25 = .ok (.iaload, 1) := by decide +kernel
theorem dX10_readsTower_26 : decode cX10_readsTower 26 = .ok (.iconst 1, 1) := by decide +kernel
theorem dX10_readsTower_27 : decode cX10_readsTower 27 = .ok (.iadd, 1) := by decide +kernel
theorem dX10_readsTower_28 : decode cX10_readsTower 28 = .ok (.iastore, 1) := by decide +kernel
theorem dX10_readsTower_29 : decode cX10_readsTower 29 = .ok (.aload_n 0, 1) := by decide +kernel
theorem dX10_readsTower_30 : decode cX10_readsTower 30 = .ok (.bipush 14, 2) := by decide +kernel
theorem dX10_readsTower_32 : decode cX10_readsTower 32 = .ok (.iload_n 1, 1) := by decide +kernel
theorem dX10_readsTower_33 : decode cX10_readsTower 33 = .ok (.iadd, 1) := by decide +kernel
theorem dX10_readsTower_34 : decode cX10_readsTower 34 = .ok (.iconst 0, 1) := by decide +kernel
theorem dX10_readsTower_35 : decode cX10_readsTower 35 = .ok (.aload_n 0, 1) := by decide +kernel
theorem dX10_readsTower_36 : decode cX10_readsTower 36 = .ok (.getfield 13, 3) := by decide +kernel
theorem dX10_readsTower_39 : decode cX10_readsTower 39 = .ok (.iconst 0, 1) := by decide +kernel
theorem dX10_readsTower_40 : decode cX10_readsTower 40 = .ok (.iaload, 1) := by decide +kernel
theorem dX10_readsTower_41 : decode cX10_readsTower 41 = .ok (.iconst 1, 1) := by decide +kernel
theorem dX10_readsTower_42 : decode cX10_readsTower 42 = .ok (.isub, 1) := by decide +kernel
theorem dX10_readsTower_43 : decode cX10_readsTower 43 = .ok (.invokevirtual 124, 3) := by decide +kernel
theorem dX10_readsTower_46 : decode cX10_readsTower 46 = .ok (.ifCond .eq 28, 3) := by decide +kernel
theorem dX10_readsTower_49 : decode cX10_readsTower 49 = .ok (.aload_n 0, 1) := by decide +kernel
theorem dX10_readsTower_50 : decode cX10_readsTower 50 = .ok (.bipush 20, 2) := by decide +kernel
theorem dX10_readsTower_52 : decode cX10_readsTower 52 = .ok (.iload_n 1, 1) := by decide +kernel
theorem dX10_readsTower_53 : decode cX10_readsTower 53 = .ok (.iadd, 1) := by decide +kernel
theorem dX10_readsTower_54 : decode cX10_readsTower 54 = .ok (.iconst 1, 1) := by decide +kernel
theorem dX10_readsTower_55 : decode cX10_readsTower 55 = .ok (.bipush 20, 2) := by decide +kernel
theorem dX10_readsTower_57 : decode cX10_readsTower 57 = .ok (.invokevirtual 124, 3) := by decide +kernel
theorem dX10_readsTower_60 : decode cX10_readsTower 60 = .ok (.ifCond .eq 14, 3) := by decide +kernel
theorem dX10_readsTower_63 : decode cX10_readsTower 63 = .ok (.aload_n 0, 1) := by decide +kernel
theorem dX10_readsTower_64 : decode cX10_readsTower 64 = .ok (.invokevirtual 128, 3) := by decide +kernel
theorem dX10_readsTower_67 : decode cX10_readsTower 67 = .ok (.ifCond .eq 7, 3) := by decide +kernel
theorem dX10_readsTower_70 : decode cX10_readsTower 70 = .ok (.iconst 1, 1) := by decide +kernel
theorem dX10_readsTower_71 : decode cX10_readsTower 71 = .ok (.goto 4, 3) := by decide +kernel
theorem dX10_readsTower_74 : decode cX10_readsTower 74 = .ok (.iconst 0, 1) := by decide +kernel
theorem dX10_readsTower_75 : decode cX10_readsTower 75 = .ok (.ireturn, 1) := by decide +kernel
theorem dX10_readsPlayer_0 : decode cX10_readsPlayer 0 = .ok (.aload_n 0, 1) := by decide +kernel
theorem dX10_readsPlayer_1 : decode cX10_readsPlayer 1 = .ok (.getfield 13, 3) := by decide +kernel
theorem dX10_readsPlayer_4 : decode cX10_readsPlayer 4 = .ok (.iconst 2, 1) := by decide +kernel
theorem dX10_readsPlayer_5 : decode cX10_readsPlayer 5 = .ok (.iaload, 1) := by decide +kernel
theorem dX10_readsPlayer_6 : decode cX10_readsPlayer 6 = .ok (.istore_n 1, 1) := by decide +kernel
theorem dX10_readsPlayer_7 : decode cX10_readsPlayer 7 = .ok (.iload_n 1, 1) := by decide +kernel
theorem dX10_readsPlayer_8 : decode cX10_readsPlayer 8 = .ok (.bipush 6, 2) := by decide +kernel
theorem dX10_readsPlayer_10 : decode cX10_readsPlayer 10 = .ok (.if_icmp .ne 9, 3) := by decide +kernel
theorem dX10_readsPlayer_13 : decode cX10_readsPlayer 13 = .ok (.aload_n 0, 1) := by decide +kernel
theorem dX10_readsPlayer_14 : decode cX10_readsPlayer 14 = .ok (.iconst 3, 1) := by decide +kernel
theorem dX10_readsPlayer_15 : decode cX10_readsPlayer 15 = .ok (.invokevirtual 120, 3) := by decide +kernel
theorem dX10_readsPlayer_18 : decode cX10_readsPlayer 18 = .ok (.ireturn, 1) := by decide +kernel
theorem dX10_readsPlayer_19 : decode cX10_readsPlayer 19 = .ok (.aload_n 0, 1) := by decide +kernel
theorem dX10_readsPlayer_20 : decode cX10_readsPlayer 20 = .ok (.getfield 13, 3) := by decide +kernel
theorem dX10_readsPlayer_23 : decode cX10_readsPlayer 23 = .ok (.iconst 2, 1) := by decide +kernel
theorem dX10_readsPlayer_24 : decode cX10_readsPlayer 24 = .ok (.dup2, 1) := by decide +kernel
theorem dX10_readsPlayer_25 : decode cX10_readsPlayer 25 = .ok (.iaload, 1) := by decide +kernel
theorem dX10_readsPlayer_26 : decode cX10_readsPlayer 26 = .ok (.iconst 1, 1) := by decide +kernel
theorem dX10_readsPlayer_27 : decode cX10_readsPlayer 27 = .ok (.iadd, 1) := by decide +kernel
theorem dX10_readsPlayer_28 : decode cX10_readsPlayer 28 = .ok (.iastore, 1) := by decide +kernel
theorem dX10_readsPlayer_29 : decode cX10_readsPlayer 29 = .ok (.aload_n 0, 1) := by decide +kernel
theorem dX10_readsPlayer_30 : decode cX10_readsPlayer 30 = .ok (.bipush 26, 2) := by decide +kernel
theorem dX10_readsPlayer_32 : decode cX10_readsPlayer 32 = .ok (.iload_n 1, 1) := by decide +kernel
theorem dX10_readsPlayer_33 : decode cX10_readsPlayer 33 = .ok (.iadd, 1) := by decide +kernel
theorem dX10_readsPlayer_34 : decode cX10_readsPlayer 34 = .ok (.iconst 1, 1) := by decide +kernel
theorem dX10_readsPlayer_35 : decode cX10_readsPlayer 35 = .ok (.bipush 9, 2) := by decide +kernel
theorem dX10_readsPlayer_37 : decode cX10_readsPlayer 37 = .ok (.invokevirtual 124, 3) := by decide +kernel
theorem dX10_readsPlayer_40 : decode cX10_readsPlayer 40 = .ok (.ifCond .eq 14, 3) := by decide +kernel
theorem dX10_readsPlayer_43 : decode cX10_readsPlayer 43 = .ok (.aload_n 0, 1) := by decide +kernel
theorem dX10_readsPlayer_44 : decode cX10_readsPlayer 44 = .ok (.invokevirtual 128, 3) := by decide +kernel
theorem dX10_readsPlayer_47 : decode cX10_readsPlayer 47 = .ok (.ifCond .eq 7, 3) := by decide +kernel
theorem dX10_readsPlayer_50 : decode cX10_readsPlayer 50 = .ok (.iconst 1, 1) := by decide +kernel
theorem dX10_readsPlayer_51 : decode cX10_readsPlayer 51 = .ok (.goto 4, 3) := by decide +kernel
theorem dX10_readsPlayer_54 : decode cX10_readsPlayer 54 = .ok (.iconst 0, 1) := by decide +kernel
theorem dX10_readsPlayer_55 : decode cX10_readsPlayer 55 = .ok (.ireturn, 1) := by decide +kernel
theorem dX10_readsBoat_0 : decode cX10_readsBoat 0 = .ok (.aload_n 0, 1) := by decide +kernel
theorem dX10_readsBoat_1 : decode cX10_readsBoat 1 = .ok (.getfield 13, 3) := by decide +kernel
theorem dX10_readsBoat_4 : decode cX10_readsBoat 4 = .ok (.iconst 3, 1) := by decide +kernel
theorem dX10_readsBoat_5 : decode cX10_readsBoat 5 = .ok (.iaload, 1) := by decide +kernel
theorem dX10_readsBoat_6 : decode cX10_readsBoat 6 = .ok (.istore_n 1, 1) := by decide +kernel
theorem dX10_readsBoat_7 : decode cX10_readsBoat 7 = .ok (.iload_n 1, 1) := by decide +kernel
theorem dX10_readsBoat_8 : decode cX10_readsBoat 8 = .ok (.iconst 4, 1) := by decide +kernel
theorem dX10_readsBoat_9 : decode cX10_readsBoat 9 = .ok (.if_icmp .ne 9, 3) := by decide +kernel
theorem dX10_readsBoat_12 : decode cX10_readsBoat 12 = .ok (.aload_n 0, 1) := by decide +kernel
theorem dX10_readsBoat_13 : decode cX10_readsBoat 13 = .ok (.iconst 3, 1) := by decide +kernel
theorem dX10_readsBoat_14 : decode cX10_readsBoat 14 = .ok (.invokevirtual 120, 3) := by decide +kernel
theorem dX10_readsBoat_17 : decode cX10_readsBoat 17 = .ok (.ireturn, 1) := by decide +kernel
theorem dX10_readsBoat_18 : decode cX10_readsBoat 18 = .ok (.aload_n 0, 1) := by decide +kernel
theorem dX10_readsBoat_19 : decode cX10_readsBoat 19 = .ok (.getfield 13, 3) := by decide +kernel
theorem dX10_readsBoat_22 : decode cX10_readsBoat 22 = .ok (.iconst 3, 1) := by decide +kernel
theorem dX10_readsBoat_23 : decode cX10_readsBoat 23 = .ok (.dup2, 1) := by decide +kernel
theorem dX10_readsBoat_24 : decode cX10_readsBoat 24 = .ok (.iaload, 1) := by decide +kernel
theorem dX10_readsBoat_25 : decode cX10_readsBoat 25 = .ok (.iconst 1, 1) := by decide +kernel
theorem dX10_readsBoat_26 : decode cX10_readsBoat 26 = .ok (.iadd, 1) := by decide +kernel
theorem dX10_readsBoat_27 : decode cX10_readsBoat 27 = .ok (.iastore, 1) := by decide +kernel
theorem dX10_readsBoat_28 : decode cX10_readsBoat 28 = .ok (.aload_n 0, 1) := by decide +kernel
theorem dX10_readsBoat_29 : decode cX10_readsBoat 29 = .ok (.bipush 32, 2) := by decide +kernel
theorem dX10_readsBoat_31 : decode cX10_readsBoat 31 = .ok (.iload_n 1, 1) := by decide +kernel
theorem dX10_readsBoat_32 : decode cX10_readsBoat 32 = .ok (.iadd, 1) := by decide +kernel
theorem dX10_readsBoat_33 : decode cX10_readsBoat 33 = .ok (.iconst 1, 1) := by decide +kernel
theorem dX10_readsBoat_34 : decode cX10_readsBoat 34 = .ok (.bipush 30, 2) := by decide +kernel
theorem dX10_readsBoat_36 : decode cX10_readsBoat 36 = .ok (.invokevirtual 124, 3) := by decide +kernel
theorem dX10_readsBoat_39 : decode cX10_readsBoat 39 = .ok (.ifCond .eq 54, 3) := by decide +kernel
theorem dX10_readsBoat_42 : decode cX10_readsBoat 42 = .ok (.aload_n 0, 1) := by decide +kernel
theorem dX10_readsBoat_43 : decode cX10_readsBoat 43 = .ok (.bipush 36, 2) := by decide +kernel
theorem dX10_readsBoat_45 : decode cX10_readsBoat 45 = .ok (.iload_n 1, 1) := by decide +kernel
theorem dX10_readsBoat_46 : decode cX10_readsBoat 46 = .ok (.iadd, 1) := by decide +kernel
theorem dX10_readsBoat_47 : decode cX10_readsBoat 47 = .ok (.iconst 0, 1) := by decide +kernel
theorem dX10_readsBoat_48 : decode cX10_readsBoat 48 = .ok (.aload_n 0, 1) := by decide +kernel
theorem dX10_readsBoat_49 : decode cX10_readsBoat 49 = .ok (.getfield 13, 3) := by decide +kernel
theorem dX10_readsBoat_52 : decode cX10_readsBoat 52 = .ok (.iconst 0, 1) := by decide +kernel
theorem dX10_readsBoat_53 : decode cX10_readsBoat 53 = .ok (.iaload, 1) := by decide +kernel
theorem dX10_readsBoat_54 : decode cX10_readsBoat 54 = .ok (.iconst 1, 1) := by decide +kernel
theorem dX10_readsBoat_55 : decode cX10_readsBoat 55 = .ok (.isub, 1) := by decide +kernel
theorem dX10_readsBoat_56 : decode cX10_readsBoat 56 = .ok (.invokevirtual 124, 3) := by decide +kernel
theorem dX10_readsBoat_59 : decode cX10_readsBoat 59 = .ok (.ifCond .eq 34, 3) := by decide +kernel
theorem dX10_readsBoat_62 : decode cX10_readsBoat 62 = .ok (.aload_n 0, 1) := by decide +kernel
theorem dX10_readsBoat_63 : decode cX10_readsBoat 63 = .ok (.bipush 40, 2) := by decide +kernel
theorem dX10_readsBoat_65 : decode cX10_readsBoat 65 = .ok (.iload_n 1, 1) := by decide +kernel
theorem dX10_readsBoat_66 : decode cX10_readsBoat 66 = .ok (.iadd, 1) := by decide +kernel
theorem dX10_readsBoat_67 : decode cX10_readsBoat 67 = .ok (.iconst 0, 1) := by decide +kernel
theorem dX10_readsBoat_68 : decode cX10_readsBoat 68 = .ok (.aload_n 0, 1) := by decide +kernel
theorem dX10_readsBoat_69 : decode cX10_readsBoat 69 = .ok (.getfield 13, 3) := by decide +kernel
theorem dX10_readsBoat_72 : decode cX10_readsBoat 72 = .ok (.iconst 0, 1) := by decide +kernel
theorem dX10_readsBoat_73 : decode cX10_readsBoat 73 = .ok (.iaload, 1) := by decide +kernel
theorem dX10_readsBoat_74 : decode cX10_readsBoat 74 = .ok (.iconst 1, 1) := by decide +kernel
theorem dX10_readsBoat_75 : decode cX10_readsBoat 75 = .ok (.isub, 1) := by decide +kernel
theorem dX10_readsBoat_76 : decode cX10_readsBoat 76 = .ok (.invokevirtual 124, 3) := by decide +kernel
theorem dX10_readsBoat_79 : decode cX10_readsBoat 79 = .ok (.ifCond .eq 14, 3) := by decide +kernel
theorem dX10_readsBoat_82 : decode cX10_readsBoat 82 = .ok (.aload_n 0, 1) := by decide +kernel
theorem dX10_readsBoat_83 : decode cX10_readsBoat 83 = .ok (.invokevirtual 128, 3) := by decide +kernel
theorem dX10_readsBoat_86 : decode cX10_readsBoat 86 = .ok (.ifCond .eq 7, 3) := by decide +kernel
theorem dX10_readsBoat_89 : decode cX10_readsBoat 89 = .ok (.iconst 1, 1) := by decide +kernel
theorem dX10_readsBoat_90 : decode cX10_readsBoat 90 = .ok (.goto 4, 3) := by decide +kernel
theorem dX10_readsBoat_93 : decode cX10_readsBoat 93 = .ok (.iconst 0, 1) := by decide +kernel
theorem dX10_readsBoat_94 : decode cX10_readsBoat 94 = .ok (.ireturn, 1) := by decide +kernel
theorem dX10_readsClause_0 : decode cX10_readsClause 0 = .ok (.aload_n 0, 1) := by decide +kernel
theorem dX10_readsClause_1 : decode cX10_readsClause 1 = .ok (.getfield 101, 3) := by decide +kernel
theorem dX10_readsClause_4 : decode cX10_readsClause 4 = .ok (.bipush 99, 2) := by decide +kernel
theorem dX10_readsClause_6 : decode cX10_readsClause 6 = .ok (.if_icmp .ne 8, 3) := by decide +kernel
theorem dX10_readsClause_9 : decode cX10_readsClause 9 = .ok (.aload_n 0, 1) := by decide +kernel
theorem dX10_readsClause_10 : decode cX10_readsClause 10 = .ok (.invokevirtual 132, 3) := by decide +kernel
theorem dX10_readsClause_13 : decode cX10_readsClause 13 = .ok (.ireturn, 1) := by decide +kernel
theorem dX10_readsClause_14 : decode cX10_readsClause 14 = .ok (.aload_n 0, 1) := by decide +kernel
theorem dX10_readsClause_15 : decode cX10_readsClause 15 = .ok (.getfield 13, 3) := by decide +kernel
theorem dX10_readsClause_18 : decode cX10_readsClause 18 = .ok (.iconst 0, 1) := by decide +kernel
theorem dX10_readsClause_19 : decode cX10_readsClause 19 = .ok (.iaload, 1) := by decide +kernel
theorem dX10_readsClause_20 : decode cX10_readsClause 20 = .ok (.ifCond .ne 9, 3) := by decide +kernel
theorem dX10_readsClause_23 : decode cX10_readsClause 23 = .ok (.aload_n 0, 1) := by decide +kernel
theorem dX10_readsClause_24 : decode cX10_readsClause 24 = .ok (.iconst 1, 1) := by decide +kernel
theorem dX10_readsClause_25 : decode cX10_readsClause 25 = .ok (.invokevirtual 120, 3) := by decide +kernel
theorem dX10_readsClause_28 : decode cX10_readsClause 28 = .ok (.ireturn, 1) := by decide +kernel
theorem dX10_readsClause_29 : decode cX10_readsClause 29 = .ok (.aload_n 0, 1) := by decide +kernel
theorem dX10_readsClause_30 : decode cX10_readsClause 30 = .ok (.getfield 101, 3) := by decide +kernel
theorem dX10_readsClause_33 : decode cX10_readsClause 33 = .ok (.lookupswitch 50 #[(98, 45), (112, 40), (116, 35)], 35) := by decide +kernel
theorem dX10_readsClause_68 : decode cX10_readsClause 68 = .ok (.aload_n 0, 1) := by decide +kernel
theorem dX10_readsClause_69 : decode cX10_readsClause 69 = .ok (.invokevirtual 135, 3) := by decide +kernel
theorem dX10_readsClause_72 : decode cX10_readsClause 72 = .ok (.ireturn, 1) := by decide +kernel
theorem dX10_readsClause_73 : decode cX10_readsClause 73 = .ok (.aload_n 0, 1) := by decide +kernel
theorem dX10_readsClause_74 : decode cX10_readsClause 74 = .ok (.invokevirtual 138, 3) := by decide +kernel
theorem dX10_readsClause_77 : decode cX10_readsClause 77 = .ok (.ireturn, 1) := by decide +kernel
theorem dX10_readsClause_78 : decode cX10_readsClause 78 = .ok (.aload_n 0, 1) := by decide +kernel
theorem dX10_readsClause_79 : decode cX10_readsClause 79 = .ok (.invokevirtual 141, 3) := by decide +kernel
theorem dX10_readsClause_82 : decode cX10_readsClause 82 = .ok (.ireturn, 1) := by decide +kernel
theorem dX10_readsClause_83 : decode cX10_readsClause 83 = .ok (.aload_n 0, 1) := by decide +kernel
theorem dX10_readsClause_84 : decode cX10_readsClause 84 = .ok (.iconst 1, 1) := by decide +kernel
theorem dX10_readsClause_85 : decode cX10_readsClause 85 = .ok (.invokevirtual 120, 3) := by decide +kernel
theorem dX10_readsClause_88 : decode cX10_readsClause 88 = .ok (.ireturn, 1) := by decide +kernel
theorem dX10_coast_0 : decode cX10_coast 0 = .ok (.iconst 0, 1) := by decide +kernel
theorem dX10_coast_1 : decode cX10_coast 1 = .ok (.istore_n 1, 1) := by decide +kernel
theorem dX10_coast_2 : decode cX10_coast 2 = .ok (.iload_n 1, 1) := by decide +kernel
theorem dX10_coast_3 : decode cX10_coast 3 = .ok (.bipush 44, 2) := by decide +kernel
theorem dX10_coast_5 : decode cX10_coast 5 = .ok (.if_icmp .ge 16, 3) := by decide +kernel
theorem dX10_coast_8 : decode cX10_coast 8 = .ok (.aload_n 0, 1) := by decide +kernel
theorem dX10_coast_9 : decode cX10_coast 9 = .ok (.getfield 13, 3) := by decide +kernel
theorem dX10_coast_12 : decode cX10_coast 12 = .ok (.iload_n 1, 1) := by decide +kernel
theorem dX10_coast_13 : decode cX10_coast 13 = .ok (.iconst 0, 1) := by decide +kernel
theorem dX10_coast_14 : decode cX10_coast 14 = .ok (.iastore, 1) := by decide +kernel
theorem dX10_coast_15 : decode cX10_coast 15 = .ok (.iinc 1 1, 3) := by decide +kernel
theorem dX10_coast_18 : decode cX10_coast 18 = .ok (.goto (-16), 3) := by decide +kernel
theorem dX10_coast_21 : decode cX10_coast 21 = .ok (.aload_n 0, 1) := by decide +kernel
theorem dX10_coast_22 : decode cX10_coast 22 = .ok (.iconst 0, 1) := by decide +kernel
theorem dX10_coast_23 : decode cX10_coast 23 = .ok (.putfield 91, 3) := by decide +kernel
theorem dX10_coast_26 : decode cX10_coast 26 = .ok (.aload_n 0, 1) := by decide +kernel
theorem dX10_coast_27 : decode cX10_coast 27 = .ok (.iconst (-1), 1) := by decide +kernel
theorem dX10_coast_28 : decode cX10_coast 28 = .ok (.putfield 35, 3) := by decide +kernel
theorem dX10_coast_31 : decode cX10_coast 31 = .ok (.iconst 1, 1) := by decide +kernel
theorem dX10_coast_32 : decode cX10_coast 32 = .ok (.istore_n 1, 1) := by decide +kernel
theorem dX10_coast_33 : decode cX10_coast 33 = .ok (.aload_n 0, 1) := by decide +kernel
theorem dX10_coast_34 : decode cX10_coast 34 = .ok (.invokevirtual 117, 3) := by decide +kernel
theorem dX10_coast_37 : decode cX10_coast 37 = .ok (.aload_n 0, 1) := by decide +kernel
theorem dX10_coast_38 : decode cX10_coast 38 = .ok (.getfield 101, 3) := by decide +kernel
theorem dX10_coast_41 : decode cX10_coast 41 = .ok (.ifCond .lt 23, 3) := by decide +kernel
theorem dX10_coast_44 : decode cX10_coast 44 = .ok (.iload_n 1, 1) := by decide +kernel
theorem dX10_coast_45 : decode cX10_coast 45 = .ok (.ifCond .eq 19, 3) := by decide +kernel
theorem dX10_coast_48 : decode cX10_coast 48 = .ok (.aload_n 0, 1) := by decide +kernel
theorem dX10_coast_49 : decode cX10_coast 49 = .ok (.invokevirtual 144, 3) := by decide +kernel
theorem dX10_coast_52 : decode cX10_coast 52 = .ok (.istore_n 1, 1) := by decide +kernel
theorem dX10_coast_53 : decode cX10_coast 53 = .ok (.iload_n 1, 1) := by decide +kernel
theorem dX10_coast_54 : decode cX10_coast 54 = .ok (.ifCond .eq (-17), 3) := by decide +kernel
theorem dX10_coast_57 : decode cX10_coast 57 = .ok (.aload_n 0, 1) := by decide +kernel
theorem dX10_coast_58 : decode cX10_coast 58 = .ok (.invokevirtual 117, 3) := by decide +kernel
theorem dX10_coast_61 : decode cX10_coast 61 = .ok (.goto (-24), 3) := by decide +kernel
theorem dX10_coast_64 : decode cX10_coast 64 = .ok (.aload_n 0, 1) := by decide +kernel
theorem dX10_coast_65 : decode cX10_coast 65 = .ok (.iconst 0, 1) := by decide +kernel
theorem dX10_coast_66 : decode cX10_coast 66 = .ok (.putfield 87, 3) := by decide +kernel
theorem dX10_coast_69 : decode cX10_coast 69 = .ok (.iload_n 1, 1) := by decide +kernel
theorem dX10_coast_70 : decode cX10_coast 70 = .ok (.ifCond .ne 19, 3) := by decide +kernel
theorem dX10_coast_73 : decode cX10_coast 73 = .ok (.aload_n 0, 1) := by decide +kernel
theorem dX10_coast_74 : decode cX10_coast 74 = .ok (.aload_n 0, 1) := by decide +kernel
theorem dX10_coast_75 : decode cX10_coast 75 = .ok (.getfield 98, 3) := by decide +kernel
theorem dX10_coast_78 : decode cX10_coast 78 = .ok (.putfield 35, 3) := by decide +kernel
theorem dX10_coast_81 : decode cX10_coast 81 = .ok (.bipush (-10), 2) := by decide +kernel
theorem dX10_coast_83 : decode cX10_coast 83 = .ok (.aload_n 0, 1) := by decide +kernel
theorem dX10_coast_84 : decode cX10_coast 84 = .ok (.getfield 114, 3) := by decide +kernel
theorem dX10_coast_87 : decode cX10_coast 87 = .ok (.isub, 1) := by decide +kernel
theorem dX10_coast_88 : decode cX10_coast 88 = .ok (.ireturn, 1) := by decide +kernel
theorem dX10_coast_89 : decode cX10_coast 89 = .ok (.aload_n 0, 1) := by decide +kernel
theorem dX10_coast_90 : decode cX10_coast 90 = .ok (.getfield 13, 3) := by decide +kernel
theorem dX10_coast_93 : decode cX10_coast 93 = .ok (.iconst 0, 1) := by decide +kernel
theorem dX10_coast_94 : decode cX10_coast 94 = .ok (.aload_n 0, 1) := by decide +kernel
theorem dX10_coast_95 : decode cX10_coast 95 = .ok (.getfield 7, 3) := by decide +kernel
theorem dX10_coast_98 : decode cX10_coast 98 = .ok (.iconst 0, 1) := by decide +kernel
theorem dX10_coast_99 : decode cX10_coast 99 = .ok (.bipush 44, 2) := by decide +kernel
theorem dX10_coast_101 : decode cX10_coast 101 = .ok (.invokestatic 68, 3) := by decide +kernel
theorem dX10_coast_104 : decode cX10_coast 104 = .ok (.aload_n 0, 1) := by decide +kernel
theorem dX10_coast_105 : decode cX10_coast 105 = .ok (.invokevirtual 57, 3) := by decide +kernel
theorem dX10_coast_108 : decode cX10_coast 108 = .ok (.aload_n 0, 1) := by decide +kernel
theorem dX10_coast_109 : decode cX10_coast 109 = .ok (.getfield 7, 3) := by decide +kernel
theorem dX10_coast_112 : decode cX10_coast 112 = .ok (.iconst 0, 1) := by decide +kernel
theorem dX10_coast_113 : decode cX10_coast 113 = .ok (.iaload, 1) := by decide +kernel
theorem dX10_coast_114 : decode cX10_coast 114 = .ok (.ireturn, 1) := by decide +kernel
theorem dX10_fault_0 : decode cX10_fault 0 = .ok (.aload_n 0, 1) := by decide +kernel
theorem dX10_fault_1 : decode cX10_fault 1 = .ok (.getfield 35, 3) := by decide +kernel
theorem dX10_fault_4 : decode cX10_fault 4 = .ok (.ireturn, 1) := by decide +kernel
theorem dX10_isCell_0 : decode cX10_isCell 0 = .ok (.iload_n 1, 1) := by decide +kernel
theorem dX10_isCell_1 : decode cX10_isCell 1 = .ok (.i2l, 1) := by decide +kernel
theorem dX10_isCell_2 : decode cX10_isCell 2 = .ok (.lconst 0, 1) := by decide +kernel
theorem dX10_isCell_3 : decode cX10_isCell 3 = .ok (.aload_n 0, 1) := by decide +kernel
theorem dX10_isCell_4 : decode cX10_isCell 4 = .ok (.getfield 7, 3) := by decide +kernel
theorem dX10_isCell_7 : decode cX10_isCell 7 = .ok (.iconst 0, 1) := by decide +kernel
theorem dX10_isCell_8 : decode cX10_isCell 8 = .ok (.iaload, 1) := by decide +kernel
theorem dX10_isCell_9 : decode cX10_isCell 9 = .ok (.iconst 1, 1) := by decide +kernel
theorem dX10_isCell_10 : decode cX10_isCell 10 = .ok (.isub, 1) := by decide +kernel
theorem dX10_isCell_11 : decode cX10_isCell 11 = .ok (.i2l, 1) := by decide +kernel
theorem dX10_isCell_12 : decode cX10_isCell 12 = .ok (.invokestatic 64, 3) := by decide +kernel
theorem dX10_isCell_15 : decode cX10_isCell 15 = .ok (.ireturn, 1) := by decide +kernel
theorem dX10_isTower_0 : decode cX10_isTower 0 = .ok (.iload_n 1, 1) := by decide +kernel
theorem dX10_isTower_1 : decode cX10_isTower 1 = .ok (.i2l, 1) := by decide +kernel
theorem dX10_isTower_2 : decode cX10_isTower 2 = .ok (.lconst 0, 1) := by decide +kernel
theorem dX10_isTower_3 : decode cX10_isTower 3 = .ok (.aload_n 0, 1) := by decide +kernel
theorem dX10_isTower_4 : decode cX10_isTower 4 = .ok (.getfield 7, 3) := by decide +kernel
theorem dX10_isTower_7 : decode cX10_isTower 7 = .ok (.iconst 1, 1) := by decide +kernel
theorem dX10_isTower_8 : decode cX10_isTower 8 = .ok (.iaload, 1) := by decide +kernel
theorem dX10_isTower_9 : decode cX10_isTower 9 = .ok (.iconst 1, 1) := by decide +kernel
theorem dX10_isTower_10 : decode cX10_isTower 10 = .ok (.isub, 1) := by decide +kernel
theorem dX10_isTower_11 : decode cX10_isTower 11 = .ok (.i2l, 1) := by decide +kernel
theorem dX10_isTower_12 : decode cX10_isTower 12 = .ok (.invokestatic 64, 3) := by decide +kernel
theorem dX10_isTower_15 : decode cX10_isTower 15 = .ok (.ireturn, 1) := by decide +kernel
theorem dX10_isPlayer_0 : decode cX10_isPlayer 0 = .ok (.iload_n 1, 1) := by decide +kernel
theorem dX10_isPlayer_1 : decode cX10_isPlayer 1 = .ok (.i2l, 1) := by decide +kernel
theorem dX10_isPlayer_2 : decode cX10_isPlayer 2 = .ok (.lconst 0, 1) := by decide +kernel
theorem dX10_isPlayer_3 : decode cX10_isPlayer 3 = .ok (.aload_n 0, 1) := by decide +kernel
theorem dX10_isPlayer_4 : decode cX10_isPlayer 4 = .ok (.getfield 7, 3) := by decide +kernel
theorem dX10_isPlayer_7 : decode cX10_isPlayer 7 = .ok (.iconst 2, 1) := by decide +kernel
theorem dX10_isPlayer_8 : decode cX10_isPlayer 8 = .ok (.iaload, 1) := by decide +kernel
theorem dX10_isPlayer_9 : decode cX10_isPlayer 9 = .ok (.iconst 1, 1) := by decide +kernel
theorem dX10_isPlayer_10 : decode cX10_isPlayer 10 = .ok (.isub, 1) := by decide +kernel
theorem dX10_isPlayer_11 : decode cX10_isPlayer 11 = .ok (.i2l, 1) := by decide +kernel
theorem dX10_isPlayer_12 : decode cX10_isPlayer 12 = .ok (.invokestatic 64, 3) := by decide +kernel
theorem dX10_isPlayer_15 : decode cX10_isPlayer 15 = .ok (.ireturn, 1) := by decide +kernel
theorem dX10_isBoat_0 : decode cX10_isBoat 0 = .ok (.iload_n 1, 1) := by decide +kernel
theorem dX10_isBoat_1 : decode cX10_isBoat 1 = .ok (.i2l, 1) := by decide +kernel
theorem dX10_isBoat_2 : decode cX10_isBoat 2 = .ok (.lconst 0, 1) := by decide +kernel
theorem dX10_isBoat_3 : decode cX10_isBoat 3 = .ok (.aload_n 0, 1) := by decide +kernel
theorem dX10_isBoat_4 : decode cX10_isBoat 4 = .ok (.getfield 7, 3) := by decide +kernel
theorem dX10_isBoat_7 : decode cX10_isBoat 7 = .ok (.iconst 3, 1) := by decide +kernel
theorem dX10_isBoat_8 : decode cX10_isBoat 8 = .ok (.iaload, 1) := by decide +kernel
theorem dX10_isBoat_9 : decode cX10_isBoat 9 = .ok (.iconst 1, 1) := by decide +kernel
theorem dX10_isBoat_10 : decode cX10_isBoat 10 = .ok (.isub, 1) := by decide +kernel
theorem dX10_isBoat_11 : decode cX10_isBoat 11 = .ok (.i2l, 1) := by decide +kernel
theorem dX10_isBoat_12 : decode cX10_isBoat 12 = .ok (.invokestatic 64, 3) := by decide +kernel
theorem dX10_isBoat_15 : decode cX10_isBoat 15 = .ok (.ireturn, 1) := by decide +kernel
theorem dX10_bears_0 : decode cX10_bears 0 = .ok (.iload_n 3, 1) := by decide +kernel
theorem dX10_bears_1 : decode cX10_bears 1 = .ok (.aload_n 0, 1) := by decide +kernel
theorem dX10_bears_2 : decode cX10_bears 2 = .ok (.getfield 7, 3) := by decide +kernel
theorem dX10_bears_5 : decode cX10_bears 5 = .ok (.bipush 14, 2) := by decide +kernel
theorem dX10_bears_7 : decode cX10_bears 7 = .ok (.iload_n 2, 1) := by decide +kernel
theorem dX10_bears_8 : decode cX10_bears 8 = .ok (.iadd, 1) := by decide +kernel
theorem dX10_bears_9 : decode cX10_bears 9 = .ok (.iaload, 1) := by decide +kernel
theorem dX10_bears_10 : decode cX10_bears 10 = .ok (.isub, 1) := by decide +kernel
theorem dX10_bears_11 : decode cX10_bears 11 = .ok (.istore 4, 2) := by decide +kernel
theorem dX10_bears_13 : decode cX10_bears 13 = .ok (.iload 4, 2) := by decide +kernel
theorem dX10_bears_15 : decode cX10_bears 15 = .ok (.ifCond .ge 9, 3) := by decide +kernel
theorem dX10_bears_18 : decode cX10_bears 18 = .ok (.iload 4, 2) := by decide +kernel
theorem dX10_bears_20 : decode cX10_bears 20 = .ok (.ineg, 1) := by decide +kernel
theorem dX10_bears_21 : decode cX10_bears 21 = .ok (.goto 5, 3) := by decide +kernel
theorem dX10_bears_24 : decode cX10_bears 24 = .ok (.iload 4, 2) := by decide +kernel
theorem dX10_bears_26 : decode cX10_bears 26 = .ok (.istore 4, 2) := by decide +kernel
theorem dX10_bears_28 : decode cX10_bears 28 = .ok (.iconst 0, 1) := by decide +kernel
theorem dX10_bears_29 : decode cX10_bears 29 = .ok (.aload_n 1, 1) := by decide +kernel
theorem dX10_bears_30 : decode cX10_bears 30 = .ok (.iconst 0, 1) := by decide +kernel
theorem dX10_bears_31 : decode cX10_bears 31 = .ok (.iload_n 2, 1) := by decide +kernel
theorem dX10_bears_32 : decode cX10_bears 32 = .ok (.iadd, 1) := by decide +kernel
theorem dX10_bears_33 : decode cX10_bears 33 = .ok (.iaload, 1) := by decide +kernel
theorem dX10_bears_34 : decode cX10_bears 34 = .ok (.aload_n 0, 1) := by decide +kernel
theorem dX10_bears_35 : decode cX10_bears 35 = .ok (.getfield 7, 3) := by decide +kernel
theorem dX10_bears_38 : decode cX10_bears 38 = .ok (.bipush 20, 2) := by decide +kernel
theorem dX10_bears_40 : decode cX10_bears 40 = .ok (.iload_n 2, 1) := by decide +kernel
theorem dX10_bears_41 : decode cX10_bears 41 = .ok (.iadd, 1) := by decide +kernel
theorem dX10_bears_42 : decode cX10_bears 42 = .ok (.iaload, 1) := by decide +kernel
theorem dX10_bears_43 : decode cX10_bears 43 = .ok (.iload 4, 2) := by decide +kernel
theorem dX10_bears_45 : decode cX10_bears 45 = .ok (.imul, 1) := by decide +kernel
theorem dX10_bears_46 : decode cX10_bears 46 = .ok (.isub, 1) := by decide +kernel
theorem dX10_bears_47 : decode cX10_bears 47 = .ok (.invokestatic 147, 3) := by decide +kernel
theorem dX10_bears_50 : decode cX10_bears 50 = .ok (.ireturn, 1) := by decide +kernel
theorem dX10_seaOn_0 : decode cX10_seaOn 0 = .ok (.iconst 0, 1) := by decide +kernel
theorem dX10_seaOn_1 : decode cX10_seaOn 1 = .ok (.istore_n 3, 1) := by decide +kernel
theorem dX10_seaOn_2 : decode cX10_seaOn 2 = .ok (.iconst 0, 1) := by decide +kernel
theorem dX10_seaOn_3 : decode cX10_seaOn 3 = .ok (.istore 4, 2) := by decide +kernel
theorem dX10_seaOn_5 : decode cX10_seaOn 5 = .ok (.iload 4, 2) := by decide +kernel
theorem dX10_seaOn_7 : decode cX10_seaOn 7 = .ok (.aload_n 0, 1) := by decide +kernel
theorem dX10_seaOn_8 : decode cX10_seaOn 8 = .ok (.getfield 7, 3) := by decide +kernel
theorem dX10_seaOn_11 : decode cX10_seaOn 11 = .ok (.iconst 1, 1) := by decide +kernel
theorem dX10_seaOn_12 : decode cX10_seaOn 12 = .ok (.iaload, 1) := by decide +kernel
theorem dX10_seaOn_13 : decode cX10_seaOn 13 = .ok (.if_icmp .ge 20, 3) := by decide +kernel
theorem dX10_seaOn_16 : decode cX10_seaOn 16 = .ok (.iload_n 3, 1) := by decide +kernel
theorem dX10_seaOn_17 : decode cX10_seaOn 17 = .ok (.aload_n 0, 1) := by decide +kernel
theorem dX10_seaOn_18 : decode cX10_seaOn 18 = .ok (.aload_n 1, 1) := by decide +kernel
theorem dX10_seaOn_19 : decode cX10_seaOn 19 = .ok (.iload 4, 2) := by decide +kernel
theorem dX10_seaOn_21 : decode cX10_seaOn 21 = .ok (.iload_n 2, 1) := by decide +kernel
theorem dX10_seaOn_22 : decode cX10_seaOn 22 = .ok (.invokevirtual 151, 3) := by decide +kernel
theorem dX10_seaOn_25 : decode cX10_seaOn 25 = .ok (.iadd, 1) := by decide +kernel
theorem dX10_seaOn_26 : decode cX10_seaOn 26 = .ok (.istore_n 3, 1) := by decide +kernel
theorem dX10_seaOn_27 : decode cX10_seaOn 27 = .ok (.iinc 4 1, 3) := by decide +kernel
theorem dX10_seaOn_30 : decode cX10_seaOn 30 = .ok (.goto (-25), 3) := by decide +kernel
theorem dX10_seaOn_33 : decode cX10_seaOn 33 = .ok (.iload_n 3, 1) := by decide +kernel
theorem dX10_seaOn_34 : decode cX10_seaOn 34 = .ok (.ireturn, 1) := by decide +kernel
theorem dX10_depthOn_0 : decode cX10_depthOn 0 = .ok (.iconst 0, 1) := by decide +kernel
theorem dX10_depthOn_1 : decode cX10_depthOn 1 = .ok (.aload_n 0, 1) := by decide +kernel
theorem dX10_depthOn_2 : decode cX10_depthOn 2 = .ok (.aload_n 1, 1) := by decide +kernel
theorem dX10_depthOn_3 : decode cX10_depthOn 3 = .ok (.iload_n 2, 1) := by decide +kernel
theorem dX10_depthOn_4 : decode cX10_depthOn 4 = .ok (.invokevirtual 155, 3) := by decide +kernel
theorem dX10_depthOn_7 : decode cX10_depthOn 7 = .ok (.aload_n 0, 1) := by decide +kernel
theorem dX10_depthOn_8 : decode cX10_depthOn 8 = .ok (.getfield 7, 3) := by decide +kernel
theorem dX10_depthOn_11 : decode cX10_depthOn 11 = .ok (.iconst 4, 1) := by decide +kernel
theorem dX10_depthOn_12 : decode cX10_depthOn 12 = .ok (.iload_n 2, 1) := by decide +kernel
theorem dX10_depthOn_13 : decode cX10_depthOn 13 = .ok (.iadd, 1) := by decide +kernel
theorem dX10_depthOn_14 : decode cX10_depthOn 14 = .ok (.iaload, 1) := by decide +kernel
theorem dX10_depthOn_15 : decode cX10_depthOn 15 = .ok (.isub, 1) := by decide +kernel
theorem dX10_depthOn_16 : decode cX10_depthOn 16 = .ok (.invokestatic 147, 3) := by decide +kernel
theorem dX10_depthOn_19 : decode cX10_depthOn 19 = .ok (.ireturn, 1) := by decide +kernel
theorem dX10_unlike_0 : decode cX10_unlike 0 = .ok (.aload_n 0, 1) := by decide +kernel
theorem dX10_unlike_1 : decode cX10_unlike 1 = .ok (.aload_n 1, 1) := by decide +kernel
theorem dX10_unlike_2 : decode cX10_unlike 2 = .ok (.iload_n 2, 1) := by decide +kernel
theorem dX10_unlike_3 : decode cX10_unlike 3 = .ok (.invokevirtual 155, 3) := by decide +kernel
theorem dX10_unlike_6 : decode cX10_unlike 6 = .ok (.aload_n 0, 1) := by decide +kernel
theorem dX10_unlike_7 : decode cX10_unlike 7 = .ok (.aload_n 1, 1) := by decide +kernel
theorem dX10_unlike_8 : decode cX10_unlike 8 = .ok (.iload_n 2, 1) := by decide +kernel
theorem dX10_unlike_9 : decode cX10_unlike 9 = .ok (.iconst 1, 1) := by decide +kernel
theorem dX10_unlike_10 : decode cX10_unlike 10 = .ok (.iadd, 1) := by decide +kernel
theorem dX10_unlike_11 : decode cX10_unlike 11 = .ok (.invokevirtual 155, 3) := by decide +kernel
theorem dX10_unlike_14 : decode cX10_unlike 14 = .ok (.isub, 1) := by decide +kernel
theorem dX10_unlike_15 : decode cX10_unlike 15 = .ok (.istore_n 3, 1) := by decide +kernel
theorem dX10_unlike_16 : decode cX10_unlike 16 = .ok (.iload_n 3, 1) := by decide +kernel
theorem dX10_unlike_17 : decode cX10_unlike 17 = .ok (.ifCond .ge 8, 3) := by decide +kernel
theorem dX10_unlike_20 : decode cX10_unlike 20 = .ok (.iload_n 3, 1) := by decide +kernel
theorem dX10_unlike_21 : decode cX10_unlike 21 = .ok (.ineg, 1) := by decide +kernel
theorem dX10_unlike_22 : decode cX10_unlike 22 = .ok (.goto 4, 3) := by decide +kernel
theorem dX10_unlike_25 : decode cX10_unlike 25 = .ok (.iload_n 3, 1) := by decide +kernel
theorem dX10_unlike_26 : decode cX10_unlike 26 = .ok (.ireturn, 1) := by decide +kernel
theorem dX10_steepest_0 : decode cX10_steepest 0 = .ok (.iconst (-1), 1) := by decide +kernel
theorem dX10_steepest_1 : decode cX10_steepest 1 = .ok (.istore_n 2, 1) := by decide +kernel
theorem dX10_steepest_2 : decode cX10_steepest 2 = .ok (.iconst 0, 1) := by decide +kernel
theorem dX10_steepest_3 : decode cX10_steepest 3 = .ok (.istore_n 3, 1) := by decide +kernel
theorem dX10_steepest_4 : decode cX10_steepest 4 = .ok (.iload_n 3, 1) := by decide +kernel
theorem dX10_steepest_5 : decode cX10_steepest 5 = .ok (.iconst 1, 1) := by decide +kernel
theorem dX10_steepest_6 : decode cX10_steepest 6 = .ok (.iadd, 1) := by decide +kernel
theorem dX10_steepest_7 : decode cX10_steepest 7 = .ok (.aload_n 0, 1) := by decide +kernel
theorem dX10_steepest_8 : decode cX10_steepest 8 = .ok (.getfield 7, 3) := by decide +kernel
theorem dX10_steepest_11 : decode cX10_steepest 11 = .ok (.iconst 0, 1) := by decide +kernel
theorem dX10_steepest_12 : decode cX10_steepest 12 = .ok (.iaload, 1) := by decide +kernel
theorem dX10_steepest_13 : decode cX10_steepest 13 = .ok (.if_icmp .ge 35, 3) := by decide +kernel
theorem dX10_steepest_16 : decode cX10_steepest 16 = .ok (.iload_n 2, 1) := by decide +kernel
theorem dX10_steepest_17 : decode cX10_steepest 17 = .ok (.iconst (-1), 1) := by decide +kernel
theorem dX10_steepest_18 : decode cX10_steepest 18 = .ok (.if_icmp .eq 18, 3) := by decide +kernel
theorem dX10_steepest_21 : decode cX10_steepest 21 = .ok (.aload_n 0, 1) := by decide +kernel
theorem dX10_steepest_22 : decode cX10_steepest 22 = .ok (.aload_n 1, 1) := by decide +kernel
theorem dX10_steepest_23 : decode cX10_steepest 23 = .ok (.iload_n 3, 1) := by decide +kernel
theorem dX10_steepest_24 : decode cX10_steepest 24 = .ok (.invokevirtual 159, 3) := by decide +kernel
theorem dX10_steepest_27 : decode cX10_steepest 27 = .ok (.aload_n 0, 1) := by decide +kernel
theorem dX10_steepest_28 : decode cX10_steepest 28 = .ok (.aload_n 1, 1) := by decide +kernel
theorem dX10_steepest_29 : decode cX10_steepest 29 = .ok (.iload_n 2, 1) := by decide +kernel
theorem dX10_steepest_30 : decode cX10_steepest 30 = .ok (.invokevirtual 159, 3) := by decide +kernel
theorem dX10_steepest_33 : decode cX10_steepest 33 = .ok (.if_icmp .le 7, 3) := by decide +kernel
theorem dX10_steepest_36 : decode cX10_steepest 36 = .ok (.iload_n 3, 1) := by decide +kernel
theorem dX10_steepest_37 : decode cX10_steepest 37 = .ok (.goto 4, 3) := by decide +kernel
theorem dX10_steepest_40 : decode cX10_steepest 40 = .ok (.iload_n 2, 1) := by decide +kernel
theorem dX10_steepest_41 : decode cX10_steepest 41 = .ok (.istore_n 2, 1) := by decide +kernel
theorem dX10_steepest_42 : decode cX10_steepest 42 = .ok (.iinc 3 1, 3) := by decide +kernel
theorem dX10_steepest_45 : decode cX10_steepest 45 = .ok (.goto (-41), 3) := by decide +kernel
theorem dX10_steepest_48 : decode cX10_steepest 48 = .ok (.iload_n 2, 1) := by decide +kernel
theorem dX10_steepest_49 : decode cX10_steepest 49 = .ok (.ireturn, 1) := by decide +kernel
theorem dX10_slopeOn_0 : decode cX10_slopeOn 0 = .ok (.aload_n 0, 1) := by decide +kernel
theorem dX10_slopeOn_1 : decode cX10_slopeOn 1 = .ok (.aload_n 1, 1) := by decide +kernel
theorem dX10_slopeOn_2 : decode cX10_slopeOn 2 = .ok (.invokevirtual 162, 3) := by decide +kernel
theorem dX10_slopeOn_5 : decode cX10_slopeOn 5 = .ok (.istore_n 2, 1) := by decide +kernel
theorem dX10_slopeOn_6 : decode cX10_slopeOn 6 = .ok (.iload_n 2, 1) := by decide +kernel
theorem dX10_slopeOn_7 : decode cX10_slopeOn 7 = .ok (.iconst (-1), 1) := by decide +kernel
theorem dX10_slopeOn_8 : decode cX10_slopeOn 8 = .ok (.if_icmp .ne 7, 3) := by decide +kernel
theorem dX10_slopeOn_11 : decode cX10_slopeOn 11 = .ok (.iconst 0, 1) := by decide +kernel
theorem dX10_slopeOn_12 : decode cX10_slopeOn 12 = .ok (.goto 9, 3) := by decide +kernel
theorem dX10_slopeOn_15 : decode cX10_slopeOn 15 = .ok (.aload_n 0, 1) := by decide +kernel
theorem dX10_slopeOn_16 : decode cX10_slopeOn 16 = .ok (.aload_n 1, 1) := by decide +kernel
theorem dX10_slopeOn_17 : decode cX10_slopeOn 17 = .ok (.iload_n 2, 1) := by decide +kernel
theorem dX10_slopeOn_18 : decode cX10_slopeOn 18 = .ok (.invokevirtual 159, 3) := by decide +kernel
theorem dX10_slopeOn_21 : decode cX10_slopeOn 21 = .ok (.ireturn, 1) := by decide +kernel
theorem dX10_wet_0 : decode cX10_wet 0 = .ok (.iconst 0, 1) := by decide +kernel
theorem dX10_wet_1 : decode cX10_wet 1 = .ok (.istore_n 1, 1) := by decide +kernel
theorem dX10_wet_2 : decode cX10_wet 2 = .ok (.iconst 0, 1) := by decide +kernel
theorem dX10_wet_3 : decode cX10_wet 3 = .ok (.istore_n 2, 1) := by decide +kernel
theorem dX10_wet_4 : decode cX10_wet 4 = .ok (.iload_n 2, 1) := by decide +kernel
theorem dX10_wet_5 : decode cX10_wet 5 = .ok (.aload_n 0, 1) := by decide +kernel
theorem dX10_wet_6 : decode cX10_wet 6 = .ok (.getfield 7, 3) := by decide +kernel
theorem dX10_wet_9 : decode cX10_wet 9 = .ok (.iconst 0, 1) := by decide +kernel
theorem dX10_wet_10 : decode cX10_wet 10 = .ok (.iaload, 1) := by decide +kernel
theorem dX10_wet_11 : decode cX10_wet 11 = .ok (.if_icmp .ge 31, 3) := by decide +kernel
theorem dX10_wet_14 : decode cX10_wet 14 = .ok (.iload_n 1, 1) := by decide +kernel
theorem dX10_wet_15 : decode cX10_wet 15 = .ok (.aload_n 0, 1) := by decide +kernel
theorem dX10_wet_16 : decode cX10_wet 16 = .ok (.aload_n 0, 1) := by decide +kernel
theorem dX10_wet_17 : decode cX10_wet 17 = .ok (.getfield 16, 3) := by decide +kernel
theorem dX10_wet_20 : decode cX10_wet 20 = .ok (.iload_n 2, 1) := by decide +kernel
theorem dX10_wet_21 : decode cX10_wet 21 = .ok (.invokevirtual 166, 3) := by decide +kernel
theorem dX10_wet_24 : decode cX10_wet 24 = .ok (.ifCond .le 9, 3) := by decide +kernel
theorem dX10_wet_27 : decode cX10_wet 27 = .ok (.iconst 1, 1) := by decide +kernel
theorem dX10_wet_28 : decode cX10_wet 28 = .ok (.iload_n 2, 1) := by decide +kernel
theorem dX10_wet_29 : decode cX10_wet 29 = .ok (.ishl, 1) := by decide +kernel
theorem dX10_wet_30 : decode cX10_wet 30 = .ok (.goto 4, 3) := by decide +kernel
theorem dX10_wet_33 : decode cX10_wet 33 = .ok (.iconst 0, 1) := by decide +kernel
theorem dX10_wet_34 : decode cX10_wet 34 = .ok (.ior, 1) := by decide +kernel
theorem dX10_wet_35 : decode cX10_wet 35 = .ok (.istore_n 1, 1) := by decide +kernel
theorem dX10_wet_36 : decode cX10_wet 36 = .ok (.iinc 2 1, 3) := by decide +kernel
theorem dX10_wet_39 : decode cX10_wet 39 = .ok (.goto (-35), 3) := by decide +kernel
theorem dX10_wet_42 : decode cX10_wet 42 = .ok (.iload_n 1, 1) := by decide +kernel
theorem dX10_wet_43 : decode cX10_wet 43 = .ok (.ireturn, 1) := by decide +kernel
theorem dX10_strongest_0 : decode cX10_strongest 0 = .ok (.iconst (-1), 1) := by decide +kernel
theorem dX10_strongest_1 : decode cX10_strongest 1 = .ok (.istore_n 2, 1) := by decide +kernel
theorem dX10_strongest_2 : decode cX10_strongest 2 = .ok (.iconst 0, 1) := by decide +kernel
theorem dX10_strongest_3 : decode cX10_strongest 3 = .ok (.istore_n 3, 1) := by decide +kernel
theorem dX10_strongest_4 : decode cX10_strongest 4 = .ok (.iload_n 3, 1) := by decide +kernel
theorem dX10_strongest_5 : decode cX10_strongest 5 = .ok (.aload_n 0, 1) := by decide +kernel
theorem dX10_strongest_6 : decode cX10_strongest 6 = .ok (.getfield 7, 3) := by decide +kernel
theorem dX10_strongest_9 : decode cX10_strongest 9 = .ok (.iconst 1, 1) := by decide +kernel
theorem dX10_strongest_10 : decode cX10_strongest 10 = .ok (.iaload, 1) := by decide +kernel
theorem dX10_strongest_11 : decode cX10_strongest 11 = .ok (.if_icmp .ge 47, 3) := by decide +kernel
theorem dX10_strongest_14 : decode cX10_strongest 14 = .ok (.aload_n 0, 1) := by decide +kernel
theorem dX10_strongest_15 : decode cX10_strongest 15 = .ok (.aload_n 0, 1) := by decide +kernel
theorem dX10_strongest_16 : decode cX10_strongest 16 = .ok (.getfield 16, 3) := by decide +kernel
theorem dX10_strongest_19 : decode cX10_strongest 19 = .ok (.iload_n 3, 1) := by decide +kernel
theorem dX10_strongest_20 : decode cX10_strongest 20 = .ok (.iload_n 1, 1) := by decide +kernel
theorem dX10_strongest_21 : decode cX10_strongest 21 = .ok (.invokevirtual 151, 3) := by decide +kernel
theorem dX10_strongest_24 : decode cX10_strongest 24 = .ok (.iload_n 2, 1) := by decide +kernel
theorem dX10_strongest_25 : decode cX10_strongest 25 = .ok (.iconst (-1), 1) := by decide +kernel
theorem dX10_strongest_26 : decode cX10_strongest 26 = .ok (.if_icmp .ne 7, 3) := by decide +kernel
theorem dX10_strongest_29 : decode cX10_strongest 29 = .ok (.iconst 0, 1) := by decide +kernel
theorem dX10_strongest_30 : decode cX10_strongest 30 = .ok (.goto 13, 3) := by decide +kernel
theorem dX10_strongest_33 : decode cX10_strongest 33 = .ok (.aload_n 0, 1) := by decide +kernel
theorem dX10_strongest_34 : decode cX10_strongest 34 = .ok (.aload_n 0, 1) := by decide +kernel
theorem dX10_strongest_35 : decode cX10_strongest 35 = .ok (.getfield 16, 3) := by decide +kernel
theorem dX10_strongest_38 : decode cX10_strongest 38 = .ok (.iload_n 2, 1) := by decide +kernel
theorem dX10_strongest_39 : decode cX10_strongest 39 = .ok (.iload_n 1, 1) := by decide +kernel
theorem dX10_strongest_40 : decode cX10_strongest 40 = .ok (.invokevirtual 151, 3) := by decide +kernel
theorem dX10_strongest_43 : decode cX10_strongest 43 = .ok (.if_icmp .le 7, 3) := by decide +kernel
theorem dX10_strongest_46 : decode cX10_strongest 46 = .ok (.iload_n 3, 1) := by decide +kernel
theorem dX10_strongest_47 : decode cX10_strongest 47 = .ok (.goto 4, 3) := by decide +kernel
theorem dX10_strongest_50 : decode cX10_strongest 50 = .ok (.iload_n 2, 1) := by decide +kernel
theorem dX10_strongest_51 : decode cX10_strongest 51 = .ok (.istore_n 2, 1) := by decide +kernel
theorem dX10_strongest_52 : decode cX10_strongest 52 = .ok (.iinc 3 1, 3) := by decide +kernel
theorem dX10_strongest_55 : decode cX10_strongest 55 = .ok (.goto (-51), 3) := by decide +kernel
theorem dX10_strongest_58 : decode cX10_strongest 58 = .ok (.iload_n 2, 1) := by decide +kernel
theorem dX10_strongest_59 : decode cX10_strongest 59 = .ok (.ireturn, 1) := by decide +kernel
theorem dX10_sitterOn_0 : decode cX10_sitterOn 0 = .ok (.iconst (-1), 1) := by decide +kernel
theorem dX10_sitterOn_1 : decode cX10_sitterOn 1 = .ok (.istore_n 3, 1) := by decide +kernel
theorem dX10_sitterOn_2 : decode cX10_sitterOn 2 = .ok (.iconst 0, 1) := by decide +kernel
theorem dX10_sitterOn_3 : decode cX10_sitterOn 3 = .ok (.istore 4, 2) := by decide +kernel
theorem dX10_sitterOn_5 : decode cX10_sitterOn 5 = .ok (.iload 4, 2) := by decide +kernel
theorem dX10_sitterOn_7 : decode cX10_sitterOn 7 = .ok (.aload_n 0, 1) := by decide +kernel
theorem dX10_sitterOn_8 : decode cX10_sitterOn 8 = .ok (.getfield 7, 3) := by decide +kernel
theorem dX10_sitterOn_11 : decode cX10_sitterOn 11 = .ok (.iconst 2, 1) := by decide +kernel
theorem dX10_sitterOn_12 : decode cX10_sitterOn 12 = .ok (.iaload, 1) := by decide +kernel
theorem dX10_sitterOn_13 : decode cX10_sitterOn 13 = .ok (.if_icmp .ge 27, 3) := by decide +kernel
theorem dX10_sitterOn_16 : decode cX10_sitterOn 16 = .ok (.aload_n 1, 1) := by decide +kernel
theorem dX10_sitterOn_17 : decode cX10_sitterOn 17 = .ok (.bipush 12, 2) := by decide +kernel
theorem dX10_sitterOn_19 : decode cX10_sitterOn 19 = .ok (.iload 4, 2) := by decide +kernel
theorem dX10_sitterOn_21 : decode cX10_sitterOn 21 = .ok (.iadd, 1) := by decide +kernel
theorem dX10_sitterOn_22 : decode cX10_sitterOn 22 = .ok (.iaload, 1) := by decide +kernel
theorem dX10_sitterOn_23 : decode cX10_sitterOn 23 = .ok (.iload_n 2, 1) := by decide +kernel
theorem dX10_sitterOn_24 : decode cX10_sitterOn 24 = .ok (.if_icmp .ne 8, 3) := by decide +kernel
theorem dX10_sitterOn_27 : decode cX10_sitterOn 27 = .ok (.iload 4, 2) := by decide +kernel
theorem dX10_sitterOn_29 : decode cX10_sitterOn 29 = .ok (.goto 4, 3) := by decide +kernel
theorem dX10_sitterOn_32 : decode cX10_sitterOn 32 = .ok (.iload_n 3, 1) := by decide +kernel
theorem dX10_sitterOn_33 : decode cX10_sitterOn 33 = .ok (.istore_n 3, 1) := by decide +kernel
theorem dX10_sitterOn_34 : decode cX10_sitterOn 34 = .ok (.iinc 4 1, 3) := by decide +kernel
theorem dX10_sitterOn_37 : decode cX10_sitterOn 37 = .ok (.goto (-32), 3) := by decide +kernel
theorem dX10_sitterOn_40 : decode cX10_sitterOn 40 = .ok (.iload_n 3, 1) := by decide +kernel
theorem dX10_sitterOn_41 : decode cX10_sitterOn 41 = .ok (.ireturn, 1) := by decide +kernel
theorem dX10_boats_0 : decode cX10_boats 0 = .ok (.iconst 0, 1) := by decide +kernel
theorem dX10_boats_1 : decode cX10_boats 1 = .ok (.istore_n 2, 1) := by decide +kernel
theorem dX10_boats_2 : decode cX10_boats 2 = .ok (.iconst 0, 1) := by decide +kernel
theorem dX10_boats_3 : decode cX10_boats 3 = .ok (.istore_n 3, 1) := by decide +kernel
theorem dX10_boats_4 : decode cX10_boats 4 = .ok (.iload_n 3, 1) := by decide +kernel
theorem dX10_boats_5 : decode cX10_boats 5 = .ok (.aload_n 0, 1) := by decide +kernel
theorem dX10_boats_6 : decode cX10_boats 6 = .ok (.getfield 7, 3) := by decide +kernel
theorem dX10_boats_9 : decode cX10_boats 9 = .ok (.iconst 3, 1) := by decide +kernel
theorem dX10_boats_10 : decode cX10_boats 10 = .ok (.iaload, 1) := by decide +kernel
theorem dX10_boats_11 : decode cX10_boats 11 = .ok (.if_icmp .ge 93, 3) := by decide +kernel
theorem dX10_boats_14 : decode cX10_boats 14 = .ok (.iload_n 1, 1) := by decide +kernel
theorem dX10_boats_15 : decode cX10_boats 15 = .ok (.ifCond .eq 40, 3) := by decide +kernel
theorem dX10_boats_18 : decode cX10_boats 18 = .ok (.aload_n 0, 1) := by decide +kernel
theorem dX10_boats_19 : decode cX10_boats 19 = .ok (.aload_n 0, 1) := by decide +kernel
theorem dX10_boats_20 : decode cX10_boats 20 = .ok (.getfield 16, 3) := by decide +kernel
theorem dX10_boats_23 : decode cX10_boats 23 = .ok (.aload_n 0, 1) := by decide +kernel
theorem dX10_boats_24 : decode cX10_boats 24 = .ok (.getfield 16, 3) := by decide +kernel
theorem dX10_boats_27 : decode cX10_boats 27 = .ok (.bipush 19, 2) := by decide +kernel
theorem dX10_boats_29 : decode cX10_boats 29 = .ok (.iload_n 3, 1) := by decide +kernel
theorem dX10_boats_30 : decode cX10_boats 30 = .ok (.iadd, 1) := by decide +kernel
theorem dX10_boats_31 : decode cX10_boats 31 = .ok (.iaload, 1) := by decide +kernel
theorem dX10_boats_32 : decode cX10_boats 32 = .ok (.invokevirtual 166, 3) := by decide +kernel
theorem dX10_boats_35 : decode cX10_boats 35 = .ok (.aload_n 0, 1) := by decide +kernel
theorem dX10_boats_36 : decode cX10_boats 36 = .ok (.getfield 7, 3) := by decide +kernel
theorem dX10_boats_39 : decode cX10_boats 39 = .ok (.bipush 32, 2) := by decide +kernel
theorem dX10_boats_41 : decode cX10_boats 41 = .ok (.iload_n 3, 1) := by decide +kernel
theorem dX10_boats_42 : decode cX10_boats 42 = .ok (.iadd, 1) := by decide +kernel
theorem dX10_boats_43 : decode cX10_boats 43 = .ok (.iaload, 1) := by decide +kernel
theorem dX10_boats_44 : decode cX10_boats 44 = .ok (.if_icmp .ge 7, 3) := by decide +kernel
theorem dX10_boats_47 : decode cX10_boats 47 = .ok (.iconst 1, 1) := by decide +kernel
theorem dX10_boats_48 : decode cX10_boats 48 = .ok (.goto 33, 3) := by decide +kernel
theorem dX10_boats_51 : decode cX10_boats 51 = .ok (.iconst 0, 1) := by decide +kernel
theorem dX10_boats_52 : decode cX10_boats 52 = .ok (.goto 29, 3) := by decide +kernel
theorem dX10_boats_55 : decode cX10_boats 55 = .ok (.aload_n 0, 1) := by decide +kernel
theorem dX10_boats_56 : decode cX10_boats 56 = .ok (.getfield 16, 3) := by decide +kernel
theorem dX10_boats_59 : decode cX10_boats 59 = .ok (.bipush 19, 2) := by decide +kernel
theorem dX10_boats_61 : decode cX10_boats 61 = .ok (.iload_n 3, 1) := by decide +kernel
theorem dX10_boats_62 : decode cX10_boats 62 = .ok (.iadd, 1) := by decide +kernel
theorem dX10_boats_63 : decode cX10_boats 63 = .ok (.iaload, 1) := by decide +kernel
theorem dX10_boats_64 : decode cX10_boats 64 = .ok (.aload_n 0, 1) := by decide +kernel
theorem dX10_boats_65 : decode cX10_boats 65 = .ok (.getfield 7, 3) := by decide +kernel
theorem dX10_boats_68 : decode cX10_boats 68 = .ok (.bipush 40, 2) := by decide +kernel
theorem dX10_boats_70 : decode cX10_boats 70 = .ok (.iload_n 3, 1) := by decide +kernel
theorem dX10_boats_71 : decode cX10_boats 71 = .ok (.iadd, 1) := by decide +kernel
theorem dX10_boats_72 : decode cX10_boats 72 = .ok (.iaload, 1) := by decide +kernel
theorem dX10_boats_73 : decode cX10_boats 73 = .ok (.if_icmp .ne 7, 3) := by decide +kernel
theorem dX10_boats_76 : decode cX10_boats 76 = .ok (.iconst 1, 1) := by decide +kernel
theorem dX10_boats_77 : decode cX10_boats 77 = .ok (.goto 4, 3) := by decide +kernel
theorem dX10_boats_80 : decode cX10_boats 80 = .ok (.iconst 0, 1) := by decide +kernel
theorem dX10_boats_81 : decode cX10_boats 81 = .ok (.istore 4, 2) := by decide +kernel
theorem dX10_boats_83 : decode cX10_boats 83 = .ok (.iload_n 2, 1) := by decide +kernel
theorem dX10_boats_84 : decode cX10_boats 84 = .ok (.iload 4, 2) := by decide +kernel
theorem dX10_boats_86 : decode cX10_boats 86 = .ok (.ifCond .eq 9, 3) := by decide +kernel
theorem dX10_boats_89 : decode cX10_boats 89 = .ok (.iconst 1, 1) := by decide +kernel
theorem dX10_boats_90 : decode cX10_boats 90 = .ok (.iload_n 3, 1) := by decide +kernel
theorem dX10_boats_91 : decode cX10_boats 91 = .ok (.ishl, 1) := by decide +kernel
theorem dX10_boats_92 : decode cX10_boats 92 = .ok (.goto 4, 3) := by decide +kernel
theorem dX10_boats_95 : decode cX10_boats 95 = .ok (.iconst 0, 1) := by decide +kernel
theorem dX10_boats_96 : decode cX10_boats 96 = .ok (.ior, 1) := by decide +kernel
theorem dX10_boats_97 : decode cX10_boats 97 = .ok (.istore_n 2, 1) := by decide +kernel
theorem dX10_boats_98 : decode cX10_boats 98 = .ok (.iinc 3 1, 3) := by decide +kernel
theorem dX10_boats_101 : decode cX10_boats 101 = .ok (.goto (-97), 3) := by decide +kernel
theorem dX10_boats_104 : decode cX10_boats 104 = .ok (.iload_n 2, 1) := by decide +kernel
theorem dX10_boats_105 : decode cX10_boats 105 = .ok (.ireturn, 1) := by decide +kernel
theorem dX10_whoSits_0 : decode cX10_whoSits 0 = .ok (.iconst 0, 1) := by decide +kernel
theorem dX10_whoSits_1 : decode cX10_whoSits 1 = .ok (.istore_n 1, 1) := by decide +kernel
theorem dX10_whoSits_2 : decode cX10_whoSits 2 = .ok (.iconst 0, 1) := by decide +kernel
theorem dX10_whoSits_3 : decode cX10_whoSits 3 = .ok (.istore_n 2, 1) := by decide +kernel
theorem dX10_whoSits_4 : decode cX10_whoSits 4 = .ok (.iload_n 2, 1) := by decide +kernel
theorem dX10_whoSits_5 : decode cX10_whoSits 5 = .ok (.aload_n 0, 1) := by decide +kernel
theorem dX10_whoSits_6 : decode cX10_whoSits 6 = .ok (.getfield 7, 3) := by decide +kernel
theorem dX10_whoSits_9 : decode cX10_whoSits 9 = .ok (.iconst 2, 1) := by decide +kernel
theorem dX10_whoSits_10 : decode cX10_whoSits 10 = .ok (.iaload, 1) := by decide +kernel
theorem dX10_whoSits_11 : decode cX10_whoSits 11 = .ok (.if_icmp .ge 32, 3) := by decide +kernel
theorem dX10_whoSits_14 : decode cX10_whoSits 14 = .ok (.iload_n 1, 1) := by decide +kernel
theorem dX10_whoSits_15 : decode cX10_whoSits 15 = .ok (.aload_n 0, 1) := by decide +kernel
theorem dX10_whoSits_16 : decode cX10_whoSits 16 = .ok (.getfield 16, 3) := by decide +kernel
theorem dX10_whoSits_19 : decode cX10_whoSits 19 = .ok (.bipush 12, 2) := by decide +kernel
theorem dX10_whoSits_21 : decode cX10_whoSits 21 = .ok (.iload_n 2, 1) := by decide +kernel
theorem dX10_whoSits_22 : decode cX10_whoSits 22 = .ok (.iadd, 1) := by decide +kernel
theorem dX10_whoSits_23 : decode cX10_whoSits 23 = .ok (.iaload, 1) := by decide +kernel
theorem dX10_whoSits_24 : decode cX10_whoSits 24 = .ok (.iconst (-1), 1) := by decide +kernel
theorem dX10_whoSits_25 : decode cX10_whoSits 25 = .ok (.if_icmp .ne 7, 3) := by decide +kernel
theorem dX10_whoSits_28 : decode cX10_whoSits 28 = .ok (.iconst 0, 1) := by decide +kernel
theorem dX10_whoSits_29 : decode cX10_whoSits 29 = .ok (.goto 6, 3) := by decide +kernel
theorem dX10_whoSits_32 : decode cX10_whoSits 32 = .ok (.iconst 1, 1) := by decide +kernel
theorem dX10_whoSits_33 : decode cX10_whoSits 33 = .ok (.iload_n 2, 1) := by decide +kernel
theorem dX10_whoSits_34 : decode cX10_whoSits 34 = .ok (.ishl, 1) := by decide +kernel
theorem dX10_whoSits_35 : decode cX10_whoSits 35 = .ok (.ior, 1) := by decide +kernel
theorem dX10_whoSits_36 : decode cX10_whoSits 36 = .ok (.istore_n 1, 1) := by decide +kernel
theorem dX10_whoSits_37 : decode cX10_whoSits 37 = .ok (.iinc 2 1, 3) := by decide +kernel
theorem dX10_whoSits_40 : decode cX10_whoSits 40 = .ok (.goto (-36), 3) := by decide +kernel
theorem dX10_whoSits_43 : decode cX10_whoSits 43 = .ok (.iload_n 1, 1) := by decide +kernel
theorem dX10_whoSits_44 : decode cX10_whoSits 44 = .ok (.ireturn, 1) := by decide +kernel
theorem dX10_guts_0 : decode cX10_guts 0 = .ok (.iconst 0, 1) := by decide +kernel
theorem dX10_guts_1 : decode cX10_guts 1 = .ok (.istore_n 1, 1) := by decide +kernel
theorem dX10_guts_2 : decode cX10_guts 2 = .ok (.iconst 1, 1) := by decide +kernel
theorem dX10_guts_3 : decode cX10_guts 3 = .ok (.istore_n 2, 1) := by decide +kernel
theorem dX10_guts_4 : decode cX10_guts 4 = .ok (.iload_n 2, 1) := by decide +kernel
theorem dX10_guts_5 : decode cX10_guts 5 = .ok (.bipush 21, 2) := by decide +kernel
theorem dX10_guts_7 : decode cX10_guts 7 = .ok (.if_icmp .ge 90, 3) := by decide +kernel
theorem dX10_guts_10 : decode cX10_guts 10 = .ok (.iconst 1, 1) := by decide +kernel
theorem dX10_guts_11 : decode cX10_guts 11 = .ok (.istore_n 3, 1) := by decide +kernel
theorem dX10_guts_12 : decode cX10_guts 12 = .ok (.iconst 0, 1) := by decide +kernel
theorem dX10_guts_13 : decode cX10_guts 13 = .ok (.istore 4, 2) := by decide +kernel
theorem dX10_guts_15 : decode cX10_guts 15 = .ok (.iload 4, 2) := by decide +kernel
theorem dX10_guts_17 : decode cX10_guts 17 = .ok (.iconst 3, 1) := by decide +kernel
theorem dX10_guts_18 : decode cX10_guts 18 = .ok (.aload_n 0, 1) := by decide +kernel
theorem dX10_guts_19 : decode cX10_guts 19 = .ok (.getfield 78, 3) := by decide +kernel
theorem dX10_guts_22 : decode cX10_guts 22 = .ok (.imul, 1) := by decide +kernel
theorem dX10_guts_23 : decode cX10_guts 23 = .ok (.if_icmp .ge 54, 3) := by decide +kernel
theorem dX10_guts_26 : decode cX10_guts 26 = .ok (.iload_n 3, 1) := by decide +kernel
theorem dX10_guts_27 : decode cX10_guts 27 = .ok (.ifCond .eq 42, 3) := by decide +kernel
theorem dX10_guts_30 : decode cX10_guts 30 = .ok (.iconst 0, 1) := by decide +kernel
theorem dX10_guts_31 : decode cX10_guts 31 = .ok (.aload_n 0, 1) := by decide +kernel
theorem dX10_guts_32 : decode cX10_guts 32 = .ok (.getfield 42, 3) := by decide +kernel
theorem dX10_guts_35 : decode cX10_guts 35 = .ok (.iload 4, 2) := by decide +kernel
theorem dX10_guts_37 : decode cX10_guts 37 = .ok (.iaload, 1) := by decide +kernel
theorem dX10_guts_38 : decode cX10_guts 38 = .ok (.iload_n 2, 1) := by decide +kernel
theorem dX10_guts_39 : decode cX10_guts 39 = .ok (.aload_n 0, 1) := by decide +kernel
theorem dX10_guts_40 : decode cX10_guts 40 = .ok (.getfield 42, 3) := by decide +kernel
theorem dX10_guts_43 : decode cX10_guts 43 = .ok (.iload 4, 2) := by decide +kernel
theorem dX10_guts_45 : decode cX10_guts 45 = .ok (.iconst 1, 1) := by decide +kernel
theorem dX10_guts_46 : decode cX10_guts 46 = .ok (.iadd, 1) := by decide +kernel
theorem dX10_guts_47 : decode cX10_guts 47 = .ok (.iaload, 1) := by decide +kernel
theorem dX10_guts_48 : decode cX10_guts 48 = .ok (.imul, 1) := by decide +kernel
theorem dX10_guts_49 : decode cX10_guts 49 = .ok (.isub, 1) := by decide +kernel
theorem dX10_guts_50 : decode cX10_guts 50 = .ok (.invokestatic 147, 3) := by decide +kernel
theorem dX10_guts_53 : decode cX10_guts 53 = .ok (.aload_n 0, 1) := by decide +kernel
theorem dX10_guts_54 : decode cX10_guts 54 = .ok (.getfield 42, 3) := by decide +kernel
theorem dX10_guts_57 : decode cX10_guts 57 = .ok (.iload 4, 2) := by decide +kernel
theorem dX10_guts_59 : decode cX10_guts 59 = .ok (.iconst 2, 1) := by decide +kernel
theorem dX10_guts_60 : decode cX10_guts 60 = .ok (.iadd, 1) := by decide +kernel
theorem dX10_guts_61 : decode cX10_guts 61 = .ok (.iaload, 1) := by decide +kernel
theorem dX10_guts_62 : decode cX10_guts 62 = .ok (.if_icmp .ne 7, 3) := by decide +kernel
theorem dX10_guts_65 : decode cX10_guts 65 = .ok (.iconst 1, 1) := by decide +kernel
theorem dX10_guts_66 : decode cX10_guts 66 = .ok (.goto 4, 3) := by decide +kernel
theorem dX10_guts_69 : decode cX10_guts 69 = .ok (.iconst 0, 1) := by decide +kernel
theorem dX10_guts_70 : decode cX10_guts 70 = .ok (.istore_n 3, 1) := by decide +kernel
theorem dX10_guts_71 : decode cX10_guts 71 = .ok (.iinc 4 3, 3) := by decide +kernel
theorem dX10_guts_74 : decode cX10_guts 74 = .ok (.goto (-59), 3) := by decide +kernel
theorem dX10_guts_77 : decode cX10_guts 77 = .ok (.iload_n 1, 1) := by decide +kernel
theorem dX10_guts_78 : decode cX10_guts 78 = .ok (.iload_n 3, 1) := by decide +kernel
theorem dX10_guts_79 : decode cX10_guts 79 = .ok (.ifCond .eq 9, 3) := by decide +kernel
theorem dX10_guts_82 : decode cX10_guts 82 = .ok (.iconst 1, 1) := by decide +kernel
theorem dX10_guts_83 : decode cX10_guts 83 = .ok (.iload_n 2, 1) := by decide +kernel
theorem dX10_guts_84 : decode cX10_guts 84 = .ok (.ishl, 1) := by decide +kernel
theorem dX10_guts_85 : decode cX10_guts 85 = .ok (.goto 4, 3) := by decide +kernel
theorem dX10_guts_88 : decode cX10_guts 88 = .ok (.iconst 0, 1) := by decide +kernel
theorem dX10_guts_89 : decode cX10_guts 89 = .ok (.ior, 1) := by decide +kernel
theorem dX10_guts_90 : decode cX10_guts 90 = .ok (.istore_n 1, 1) := by decide +kernel
theorem dX10_guts_91 : decode cX10_guts 91 = .ok (.iinc 2 1, 3) := by decide +kernel
theorem dX10_guts_94 : decode cX10_guts 94 = .ok (.goto (-90), 3) := by decide +kernel
theorem dX10_guts_97 : decode cX10_guts 97 = .ok (.iload_n 1, 1) := by decide +kernel
theorem dX10_guts_98 : decode cX10_guts 98 = .ok (.ireturn, 1) := by decide +kernel
theorem dX10_told_0 : decode cX10_told 0 = .ok (.iload_n 1, 1) := by decide +kernel
theorem dX10_told_1 : decode cX10_told 1 = .ok (.tableswitch 189 0 18 #[91, 91, 91, 91, 98, 103, 111, 120, 129, 134, 140, 146, 151, 159, 164, 169, 174, 179, 184], 91) := by decide +kernel
theorem dX10_told_92 : decode cX10_told 92 = .ok (.aload_n 0, 1) := by decide +kernel
theorem dX10_told_93 : decode cX10_told 93 = .ok (.getfield 7, 3) := by decide +kernel
theorem dX10_told_96 : decode cX10_told 96 = .ok (.iload_n 1, 1) := by decide +kernel
theorem dX10_told_97 : decode cX10_told 97 = .ok (.iaload, 1) := by decide +kernel
theorem dX10_told_98 : decode cX10_told 98 = .ok (.ireturn, 1) := by decide +kernel
theorem dX10_told_99 : decode cX10_told 99 = .ok (.aload_n 0, 1) := by decide +kernel
theorem dX10_told_100 : decode cX10_told 100 = .ok (.getfield 87, 3) := by decide +kernel
theorem dX10_told_103 : decode cX10_told 103 = .ok (.ireturn, 1) := by decide +kernel
theorem dX10_told_104 : decode cX10_told 104 = .ok (.aload_n 0, 1) := by decide +kernel
theorem dX10_told_105 : decode cX10_told 105 = .ok (.getfield 16, 3) := by decide +kernel
theorem dX10_told_108 : decode cX10_told 108 = .ok (.bipush 23, 2) := by decide +kernel
theorem dX10_told_110 : decode cX10_told 110 = .ok (.iaload, 1) := by decide +kernel
theorem dX10_told_111 : decode cX10_told 111 = .ok (.ireturn, 1) := by decide +kernel
theorem dX10_told_112 : decode cX10_told 112 = .ok (.aload_n 0, 1) := by decide +kernel
theorem dX10_told_113 : decode cX10_told 113 = .ok (.aload_n 0, 1) := by decide +kernel
theorem dX10_told_114 : decode cX10_told 114 = .ok (.getfield 16, 3) := by decide +kernel
theorem dX10_told_117 : decode cX10_told 117 = .ok (.invokevirtual 169, 3) := by decide +kernel
theorem dX10_told_120 : decode cX10_told 120 = .ok (.ireturn, 1) := by decide +kernel
theorem dX10_told_121 : decode cX10_told 121 = .ok (.aload_n 0, 1) := by decide +kernel
theorem dX10_told_122 : decode cX10_told 122 = .ok (.aload_n 0, 1) := by decide +kernel
theorem dX10_told_123 : decode cX10_told 123 = .ok (.getfield 16, 3) := by decide +kernel
theorem dX10_told_126 : decode cX10_told 126 = .ok (.invokevirtual 162, 3) := by decide +kernel
theorem dX10_told_129 : decode cX10_told 129 = .ok (.ireturn, 1) := by decide +kernel
theorem dX10_told_130 : decode cX10_told 130 = .ok (.aload_n 0, 1) := by decide +kernel
theorem dX10_told_131 : decode cX10_told 131 = .ok (.invokevirtual 172, 3) := by decide +kernel
theorem dX10_told_134 : decode cX10_told 134 = .ok (.ireturn, 1) := by decide +kernel
theorem dX10_told_135 : decode cX10_told 135 = .ok (.aload_n 0, 1) := by decide +kernel
theorem dX10_told_136 : decode cX10_told 136 = .ok (.iconst 1, 1) := by decide +kernel
theorem dX10_told_137 : decode cX10_told 137 = .ok (.invokevirtual 175, 3) := by decide +kernel
theorem dX10_told_140 : decode cX10_told 140 = .ok (.ireturn, 1) := by decide +kernel
theorem dX10_told_141 : decode cX10_told 141 = .ok (.aload_n 0, 1) := by decide +kernel
theorem dX10_told_142 : decode cX10_told 142 = .ok (.iconst 0, 1) := by decide +kernel
theorem dX10_told_143 : decode cX10_told 143 = .ok (.invokevirtual 175, 3) := by decide +kernel
theorem dX10_told_146 : decode cX10_told 146 = .ok (.ireturn, 1) := by decide +kernel
theorem dX10_told_147 : decode cX10_told 147 = .ok (.aload_n 0, 1) := by decide +kernel
theorem dX10_told_148 : decode cX10_told 148 = .ok (.invokevirtual 179, 3) := by decide +kernel
theorem dX10_told_151 : decode cX10_told 151 = .ok (.ireturn, 1) := by decide +kernel
theorem dX10_told_152 : decode cX10_told 152 = .ok (.aload_n 0, 1) := by decide +kernel
theorem dX10_told_153 : decode cX10_told 153 = .ok (.getfield 16, 3) := by decide +kernel
theorem dX10_told_156 : decode cX10_told 156 = .ok (.bipush 18, 2) := by decide +kernel
theorem dX10_told_158 : decode cX10_told 158 = .ok (.iaload, 1) := by decide +kernel
theorem dX10_told_159 : decode cX10_told 159 = .ok (.ireturn, 1) := by decide +kernel
theorem dX10_told_160 : decode cX10_told 160 = .ok (.aload_n 0, 1) := by decide +kernel
theorem dX10_told_161 : decode cX10_told 161 = .ok (.getfield 75, 3) := by decide +kernel
theorem dX10_told_164 : decode cX10_told 164 = .ok (.ireturn, 1) := by decide +kernel
theorem dX10_told_165 : decode cX10_told 165 = .ok (.aload_n 0, 1) := by decide +kernel
theorem dX10_told_166 : decode cX10_told 166 = .ok (.invokevirtual 182, 3) := by decide +kernel
theorem dX10_told_169 : decode cX10_told 169 = .ok (.ireturn, 1) := by decide +kernel
theorem dX10_told_170 : decode cX10_told 170 = .ok (.aload_n 0, 1) := by decide +kernel
theorem dX10_told_171 : decode cX10_told 171 = .ok (.getfield 78, 3) := by decide +kernel
theorem dX10_told_174 : decode cX10_told 174 = .ok (.ireturn, 1) := by decide +kernel
theorem dX10_told_175 : decode cX10_told 175 = .ok (.aload_n 0, 1) := by decide +kernel
theorem dX10_told_176 : decode cX10_told 176 = .ok (.invokevirtual 185, 3) := by decide +kernel
theorem dX10_told_179 : decode cX10_told 179 = .ok (.ireturn, 1) := by decide +kernel
theorem dX10_told_180 : decode cX10_told 180 = .ok (.aload_n 0, 1) := by decide +kernel
theorem dX10_told_181 : decode cX10_told 181 = .ok (.getfield 81, 3) := by decide +kernel
theorem dX10_told_184 : decode cX10_told 184 = .ok (.ireturn, 1) := by decide +kernel
theorem dX10_told_185 : decode cX10_told 185 = .ok (.aload_n 0, 1) := by decide +kernel
theorem dX10_told_186 : decode cX10_told 186 = .ok (.getfield 72, 3) := by decide +kernel
theorem dX10_told_189 : decode cX10_told 189 = .ok (.ireturn, 1) := by decide +kernel
theorem dX10_told_190 : decode cX10_told 190 = .ok (.ldc 86, 2) := by decide +kernel
theorem dX10_told_192 : decode cX10_told 192 = .ok (.ireturn, 1) := by decide +kernel
theorem dX10_cell_0 : decode cX10_cell 0 = .ok (.aload_n 0, 1) := by decide +kernel
theorem dX10_cell_1 : decode cX10_cell 1 = .ok (.iload_n 1, 1) := by decide +kernel
theorem dX10_cell_2 : decode cX10_cell 2 = .ok (.invokevirtual 188, 3) := by decide +kernel
theorem dX10_cell_5 : decode cX10_cell 5 = .ok (.ifCond .ne 6, 3) := by decide +kernel
theorem dX10_cell_8 : decode cX10_cell 8 = .ok (.ldc 191, 2) := by decide +kernel
theorem dX10_cell_10 : decode cX10_cell 10 = .ok (.ireturn, 1) := by decide +kernel
theorem dX10_cell_11 : decode cX10_cell 11 = .ok (.iload_n 2, 1) := by decide +kernel
theorem dX10_cell_12 : decode cX10_cell 12 = .ok (.tableswitch 67 0 3 #[32, 41, 51, 61], 32) := by decide +kernel
theorem dX10_cell_44 : decode cX10_cell 44 = .ok (.aload_n 0, 1) := by decide +kernel
theorem dX10_cell_45 : decode cX10_cell 45 = .ok (.getfield 7, 3) := by decide +kernel
theorem dX10_cell_48 : decode cX10_cell 48 = .ok (.iconst 4, 1) := by decide +kernel
theorem dX10_cell_49 : decode cX10_cell 49 = .ok (.iload_n 1, 1) := by decide +kernel
theorem dX10_cell_50 : decode cX10_cell 50 = .ok (.iadd, 1) := by decide +kernel
theorem dX10_cell_51 : decode cX10_cell 51 = .ok (.iaload, 1) := by decide +kernel
theorem dX10_cell_52 : decode cX10_cell 52 = .ok (.ireturn, 1) := by decide +kernel
theorem dX10_cell_53 : decode cX10_cell 53 = .ok (.aload_n 0, 1) := by decide +kernel
theorem dX10_cell_54 : decode cX10_cell 54 = .ok (.aload_n 0, 1) := by decide +kernel
theorem dX10_cell_55 : decode cX10_cell 55 = .ok (.getfield 16, 3) := by decide +kernel
theorem dX10_cell_58 : decode cX10_cell 58 = .ok (.iload_n 1, 1) := by decide +kernel
theorem dX10_cell_59 : decode cX10_cell 59 = .ok (.invokevirtual 155, 3) := by decide +kernel
theorem dX10_cell_62 : decode cX10_cell 62 = .ok (.ireturn, 1) := by decide +kernel
theorem dX10_cell_63 : decode cX10_cell 63 = .ok (.aload_n 0, 1) := by decide +kernel
theorem dX10_cell_64 : decode cX10_cell 64 = .ok (.aload_n 0, 1) := by decide +kernel
theorem dX10_cell_65 : decode cX10_cell 65 = .ok (.getfield 16, 3) := by decide +kernel
theorem dX10_cell_68 : decode cX10_cell 68 = .ok (.iload_n 1, 1) := by decide +kernel
theorem dX10_cell_69 : decode cX10_cell 69 = .ok (.invokevirtual 166, 3) := by decide +kernel
theorem dX10_cell_72 : decode cX10_cell 72 = .ok (.ireturn, 1) := by decide +kernel
theorem dX10_cell_73 : decode cX10_cell 73 = .ok (.aload_n 0, 1) := by decide +kernel
theorem dX10_cell_74 : decode cX10_cell 74 = .ok (.iload_n 1, 1) := by decide +kernel
theorem dX10_cell_75 : decode cX10_cell 75 = .ok (.invokevirtual 192, 3) := by decide +kernel
theorem dX10_cell_78 : decode cX10_cell 78 = .ok (.ireturn, 1) := by decide +kernel
theorem dX10_cell_79 : decode cX10_cell 79 = .ok (.ldc 86, 2) := by decide +kernel
theorem dX10_cell_81 : decode cX10_cell 81 = .ok (.ireturn, 1) := by decide +kernel
theorem dX10_tower_0 : decode cX10_tower 0 = .ok (.aload_n 0, 1) := by decide +kernel
theorem dX10_tower_1 : decode cX10_tower 1 = .ok (.iload_n 1, 1) := by decide +kernel
theorem dX10_tower_2 : decode cX10_tower 2 = .ok (.invokevirtual 196, 3) := by decide +kernel
theorem dX10_tower_5 : decode cX10_tower 5 = .ok (.ifCond .ne 6, 3) := by decide +kernel
theorem dX10_tower_8 : decode cX10_tower 8 = .ok (.ldc 191, 2) := by decide +kernel
theorem dX10_tower_10 : decode cX10_tower 10 = .ok (.ireturn, 1) := by decide +kernel
theorem dX10_tower_11 : decode cX10_tower 11 = .ok (.iload_n 2, 1) := by decide +kernel
theorem dX10_tower_12 : decode cX10_tower 12 = .ok (.tableswitch 71 0 3 #[32, 42, 52, 61], 32) := by decide +kernel
theorem dX10_tower_44 : decode cX10_tower 44 = .ok (.aload_n 0, 1) := by decide +kernel
theorem dX10_tower_45 : decode cX10_tower 45 = .ok (.getfield 7, 3) := by decide +kernel
theorem dX10_tower_48 : decode cX10_tower 48 = .ok (.bipush 14, 2) := by decide +kernel
theorem dX10_tower_50 : decode cX10_tower 50 = .ok (.iload_n 1, 1) := by decide +kernel
theorem dX10_tower_51 : decode cX10_tower 51 = .ok (.iadd, 1) := by decide +kernel
theorem dX10_tower_52 : decode cX10_tower 52 = .ok (.iaload, 1) := by decide +kernel
theorem dX10_tower_53 : decode cX10_tower 53 = .ok (.ireturn, 1) := by decide +kernel
theorem dX10_tower_54 : decode cX10_tower 54 = .ok (.aload_n 0, 1) := by decide +kernel
theorem dX10_tower_55 : decode cX10_tower 55 = .ok (.getfield 7, 3) := by decide +kernel
theorem dX10_tower_58 : decode cX10_tower 58 = .ok (.bipush 20, 2) := by decide +kernel
theorem dX10_tower_60 : decode cX10_tower 60 = .ok (.iload_n 1, 1) := by decide +kernel
theorem dX10_tower_61 : decode cX10_tower 61 = .ok (.iadd, 1) := by decide +kernel
theorem dX10_tower_62 : decode cX10_tower 62 = .ok (.iaload, 1) := by decide +kernel
theorem dX10_tower_63 : decode cX10_tower 63 = .ok (.ireturn, 1) := by decide +kernel
theorem dX10_tower_64 : decode cX10_tower 64 = .ok (.aload_n 0, 1) := by decide +kernel
theorem dX10_tower_65 : decode cX10_tower 65 = .ok (.getfield 16, 3) := by decide +kernel
theorem dX10_tower_68 : decode cX10_tower 68 = .ok (.iconst 0, 1) := by decide +kernel
theorem dX10_tower_69 : decode cX10_tower 69 = .ok (.iload_n 1, 1) := by decide +kernel
theorem dX10_tower_70 : decode cX10_tower 70 = .ok (.iadd, 1) := by decide +kernel
theorem dX10_tower_71 : decode cX10_tower 71 = .ok (.iaload, 1) := by decide +kernel
theorem dX10_tower_72 : decode cX10_tower 72 = .ok (.ireturn, 1) := by decide +kernel
theorem dX10_tower_73 : decode cX10_tower 73 = .ok (.aload_n 0, 1) := by decide +kernel
theorem dX10_tower_74 : decode cX10_tower 74 = .ok (.aload_n 0, 1) := by decide +kernel
theorem dX10_tower_75 : decode cX10_tower 75 = .ok (.getfield 16, 3) := by decide +kernel
theorem dX10_tower_78 : decode cX10_tower 78 = .ok (.iload_n 1, 1) := by decide +kernel
theorem dX10_tower_79 : decode cX10_tower 79 = .ok (.invokevirtual 199, 3) := by decide +kernel
theorem dX10_tower_82 : decode cX10_tower 82 = .ok (.ireturn, 1) := by decide +kernel
theorem dX10_tower_83 : decode cX10_tower 83 = .ok (.ldc 86, 2) := by decide +kernel
theorem dX10_tower_85 : decode cX10_tower 85 = .ok (.ireturn, 1) := by decide +kernel
theorem dX10_player_0 : decode cX10_player 0 = .ok (.aload_n 0, 1) := by decide +kernel
theorem dX10_player_1 : decode cX10_player 1 = .ok (.iload_n 1, 1) := by decide +kernel
theorem dX10_player_2 : decode cX10_player 2 = .ok (.invokevirtual 202, 3) := by decide +kernel
theorem dX10_player_5 : decode cX10_player 5 = .ok (.ifCond .ne 6, 3) := by decide +kernel
theorem dX10_player_8 : decode cX10_player 8 = .ok (.ldc 191, 2) := by decide +kernel
theorem dX10_player_10 : decode cX10_player 10 = .ok (.ireturn, 1) := by decide +kernel
theorem dX10_player_11 : decode cX10_player 11 = .ok (.iload_n 2, 1) := by decide +kernel
theorem dX10_player_12 : decode cX10_player 12 = .ok (.tableswitch 74 0 3 #[32, 42, 52, 62], 32) := by decide +kernel
theorem dX10_player_44 : decode cX10_player 44 = .ok (.aload_n 0, 1) := by decide +kernel
theorem dX10_player_45 : decode cX10_player 45 = .ok (.getfield 7, 3) := by decide +kernel
theorem dX10_player_48 : decode cX10_player 48 = .ok (.bipush 26, 2) := by decide +kernel
theorem dX10_player_50 : decode cX10_player 50 = .ok (.iload_n 1, 1) := by decide +kernel
theorem dX10_player_51 : decode cX10_player 51 = .ok (.iadd, 1) := by decide +kernel
theorem dX10_player_52 : decode cX10_player 52 = .ok (.iaload, 1) := by decide +kernel
theorem dX10_player_53 : decode cX10_player 53 = .ok (.ireturn, 1) := by decide +kernel
theorem dX10_player_54 : decode cX10_player 54 = .ok (.aload_n 0, 1) := by decide +kernel
theorem dX10_player_55 : decode cX10_player 55 = .ok (.getfield 16, 3) := by decide +kernel
theorem dX10_player_58 : decode cX10_player 58 = .ok (.bipush 6, 2) := by decide +kernel
theorem dX10_player_60 : decode cX10_player 60 = .ok (.iload_n 1, 1) := by decide +kernel
theorem dX10_player_61 : decode cX10_player 61 = .ok (.iadd, 1) := by decide +kernel
theorem dX10_player_62 : decode cX10_player 62 = .ok (.iaload, 1) := by decide +kernel
theorem dX10_player_63 : decode cX10_player 63 = .ok (.ireturn, 1) := by decide +kernel
theorem dX10_player_64 : decode cX10_player 64 = .ok (.aload_n 0, 1) := by decide +kernel
theorem dX10_player_65 : decode cX10_player 65 = .ok (.getfield 16, 3) := by decide +kernel
theorem dX10_player_68 : decode cX10_player 68 = .ok (.bipush 12, 2) := by decide +kernel
theorem dX10_player_70 : decode cX10_player 70 = .ok (.iload_n 1, 1) := by decide +kernel
theorem dX10_player_71 : decode cX10_player 71 = .ok (.iadd, 1) := by decide +kernel
theorem dX10_player_72 : decode cX10_player 72 = .ok (.iaload, 1) := by decide +kernel
theorem dX10_player_73 : decode cX10_player 73 = .ok (.ireturn, 1) := by decide +kernel
theorem dX10_player_74 : decode cX10_player 74 = .ok (.aload_n 0, 1) := by decide +kernel
theorem dX10_player_75 : decode cX10_player 75 = .ok (.getfield 16, 3) := by decide +kernel
theorem dX10_player_78 : decode cX10_player 78 = .ok (.bipush 18, 2) := by decide +kernel
theorem dX10_player_80 : decode cX10_player 80 = .ok (.iaload, 1) := by decide +kernel
theorem dX10_player_81 : decode cX10_player 81 = .ok (.iload_n 1, 1) := by decide +kernel
theorem dX10_player_82 : decode cX10_player 82 = .ok (.ishr, 1) := by decide +kernel
theorem dX10_player_83 : decode cX10_player 83 = .ok (.iconst 1, 1) := by decide +kernel
theorem dX10_player_84 : decode cX10_player 84 = .ok (.iand, 1) := by decide +kernel
theorem dX10_player_85 : decode cX10_player 85 = .ok (.ireturn, 1) := by decide +kernel
theorem dX10_player_86 : decode cX10_player 86 = .ok (.ldc 86, 2) := by decide +kernel
theorem dX10_player_88 : decode cX10_player 88 = .ok (.ireturn, 1) := by decide +kernel
theorem dX10_boat_0 : decode cX10_boat 0 = .ok (.aload_n 0, 1) := by decide +kernel
theorem dX10_boat_1 : decode cX10_boat 1 = .ok (.iload_n 1, 1) := by decide +kernel
theorem dX10_boat_2 : decode cX10_boat 2 = .ok (.invokevirtual 205, 3) := by decide +kernel
theorem dX10_boat_5 : decode cX10_boat 5 = .ok (.ifCond .ne 6, 3) := by decide +kernel
theorem dX10_boat_8 : decode cX10_boat 8 = .ok (.ldc 191, 2) := by decide +kernel
theorem dX10_boat_10 : decode cX10_boat 10 = .ok (.ireturn, 1) := by decide +kernel
theorem dX10_boat_11 : decode cX10_boat 11 = .ok (.iload_n 2, 1) := by decide +kernel
theorem dX10_boat_12 : decode cX10_boat 12 = .ok (.tableswitch 72 0 3 #[32, 42, 52, 62], 32) := by decide +kernel
theorem dX10_boat_44 : decode cX10_boat 44 = .ok (.aload_n 0, 1) := by decide +kernel
theorem dX10_boat_45 : decode cX10_boat 45 = .ok (.getfield 7, 3) := by decide +kernel
theorem dX10_boat_48 : decode cX10_boat 48 = .ok (.bipush 32, 2) := by decide +kernel
theorem dX10_boat_50 : decode cX10_boat 50 = .ok (.iload_n 1, 1) := by decide +kernel
theorem dX10_boat_51 : decode cX10_boat 51 = .ok (.iadd, 1) := by decide +kernel
theorem dX10_boat_52 : decode cX10_boat 52 = .ok (.iaload, 1) := by decide +kernel
theorem dX10_boat_53 : decode cX10_boat 53 = .ok (.ireturn, 1) := by decide +kernel
theorem dX10_boat_54 : decode cX10_boat 54 = .ok (.aload_n 0, 1) := by decide +kernel
theorem dX10_boat_55 : decode cX10_boat 55 = .ok (.getfield 16, 3) := by decide +kernel
theorem dX10_boat_58 : decode cX10_boat 58 = .ok (.bipush 19, 2) := by decide +kernel
theorem dX10_boat_60 : decode cX10_boat 60 = .ok (.iload_n 1, 1) := by decide +kernel
theorem dX10_boat_61 : decode cX10_boat 61 = .ok (.iadd, 1) := by decide +kernel
theorem dX10_boat_62 : decode cX10_boat 62 = .ok (.iaload, 1) := by decide +kernel
theorem dX10_boat_63 : decode cX10_boat 63 = .ok (.ireturn, 1) := by decide +kernel
theorem dX10_boat_64 : decode cX10_boat 64 = .ok (.aload_n 0, 1) := by decide +kernel
theorem dX10_boat_65 : decode cX10_boat 65 = .ok (.getfield 7, 3) := by decide +kernel
theorem dX10_boat_68 : decode cX10_boat 68 = .ok (.bipush 36, 2) := by decide +kernel
theorem dX10_boat_70 : decode cX10_boat 70 = .ok (.iload_n 1, 1) := by decide +kernel
theorem dX10_boat_71 : decode cX10_boat 71 = .ok (.iadd, 1) := by decide +kernel
theorem dX10_boat_72 : decode cX10_boat 72 = .ok (.iaload, 1) := by decide +kernel
theorem dX10_boat_73 : decode cX10_boat 73 = .ok (.ireturn, 1) := by decide +kernel
theorem dX10_boat_74 : decode cX10_boat 74 = .ok (.aload_n 0, 1) := by decide +kernel
theorem dX10_boat_75 : decode cX10_boat 75 = .ok (.getfield 7, 3) := by decide +kernel
theorem dX10_boat_78 : decode cX10_boat 78 = .ok (.bipush 40, 2) := by decide +kernel
theorem dX10_boat_80 : decode cX10_boat 80 = .ok (.iload_n 1, 1) := by decide +kernel
theorem dX10_boat_81 : decode cX10_boat 81 = .ok (.iadd, 1) := by decide +kernel
theorem dX10_boat_82 : decode cX10_boat 82 = .ok (.iaload, 1) := by decide +kernel
theorem dX10_boat_83 : decode cX10_boat 83 = .ok (.ireturn, 1) := by decide +kernel
theorem dX10_boat_84 : decode cX10_boat 84 = .ok (.ldc 86, 2) := by decide +kernel
theorem dX10_boat_86 : decode cX10_boat 86 = .ok (.ireturn, 1) := by decide +kernel
theorem dX10_winds_0 : decode cX10_winds 0 = .ok (.iconst 0, 1) := by decide +kernel
theorem dX10_winds_1 : decode cX10_winds 1 = .ok (.istore_n 2, 1) := by decide +kernel
theorem dX10_winds_2 : decode cX10_winds 2 = .ok (.iconst 0, 1) := by decide +kernel
theorem dX10_winds_3 : decode cX10_winds 3 = .ok (.istore_n 3, 1) := by decide +kernel
theorem dX10_winds_4 : decode cX10_winds 4 = .ok (.iload_n 3, 1) := by decide +kernel
theorem dX10_winds_5 : decode cX10_winds 5 = .ok (.aload_n 0, 1) := by decide +kernel
theorem dX10_winds_6 : decode cX10_winds 6 = .ok (.getfield 7, 3) := by decide +kernel
theorem dX10_winds_9 : decode cX10_winds 9 = .ok (.iconst 2, 1) := by decide +kernel
theorem dX10_winds_10 : decode cX10_winds 10 = .ok (.iaload, 1) := by decide +kernel
theorem dX10_winds_11 : decode cX10_winds 11 = .ok (.if_icmp .ge 121, 3) := by decide +kernel
theorem dX10_winds_14 : decode cX10_winds 14 = .ok (.aload_n 1, 1) := by decide +kernel
theorem dX10_winds_15 : decode cX10_winds 15 = .ok (.bipush 12, 2) := by decide +kernel
theorem dX10_winds_17 : decode cX10_winds 17 = .ok (.iload_n 3, 1) := by decide +kernel
theorem dX10_winds_18 : decode cX10_winds 18 = .ok (.iadd, 1) := by decide +kernel
theorem dX10_winds_19 : decode cX10_winds 19 = .ok (.iaload, 1) := by decide +kernel
theorem dX10_winds_20 : decode cX10_winds 20 = .ok (.istore 4, 2) := by decide +kernel
theorem dX10_winds_22 : decode cX10_winds 22 = .ok (.iload 4, 2) := by decide +kernel
theorem dX10_winds_24 : decode cX10_winds 24 = .ok (.iconst (-1), 1) := by decide +kernel
theorem dX10_winds_25 : decode cX10_winds 25 = .ok (.if_icmp .eq 83, 3) := by decide +kernel
theorem dX10_winds_28 : decode cX10_winds 28 = .ok (.aload_n 1, 1) := by decide +kernel
theorem dX10_winds_29 : decode cX10_winds 29 = .ok (.bipush 18, 2) := by decide +kernel
theorem dX10_winds_31 : decode cX10_winds 31 = .ok (.iaload, 1) := by decide +kernel
theorem dX10_winds_32 : decode cX10_winds 32 = .ok (.iload_n 3, 1) := by decide +kernel
theorem dX10_winds_33 : decode cX10_winds 33 = .ok (.invokestatic 208, 3) := by decide +kernel
theorem dX10_winds_36 : decode cX10_winds 36 = .ok (.ifCond .ne 72, 3) := by decide +kernel
theorem dX10_winds_39 : decode cX10_winds 39 = .ok (.aload_n 1, 1) := by decide +kernel
theorem dX10_winds_40 : decode cX10_winds 40 = .ok (.iconst 0, 1) := by decide +kernel
theorem dX10_winds_41 : decode cX10_winds 41 = .ok (.iload 4, 2) := by decide +kernel
theorem dX10_winds_43 : decode cX10_winds 43 = .ok (.iadd, 1) := by decide +kernel
theorem dX10_winds_44 : decode cX10_winds 44 = .ok (.bipush 99, 2) := by decide +kernel
theorem dX10_winds_46 : decode cX10_winds 46 = .ok (.aload_n 1, 1) := by decide +kernel
theorem dX10_winds_47 : decode cX10_winds 47 = .ok (.iconst 0, 1) := by decide +kernel
theorem dX10_winds_48 : decode cX10_winds 48 = .ok (.iload 4, 2) := by decide +kernel
theorem dX10_winds_50 : decode cX10_winds 50 = .ok (.iadd, 1) := by decide +kernel
theorem dX10_winds_51 : decode cX10_winds 51 = .ok (.iaload, 1) := by decide +kernel
theorem dX10_winds_52 : decode cX10_winds 52 = .ok (.iconst 0, 1) := by decide +kernel
theorem dX10_winds_53 : decode cX10_winds 53 = .ok (.aload_n 0, 1) := by decide +kernel
theorem dX10_winds_54 : decode cX10_winds 54 = .ok (.getfield 7, 3) := by decide +kernel
theorem dX10_winds_57 : decode cX10_winds 57 = .ok (.bipush 26, 2) := by decide +kernel
theorem dX10_winds_59 : decode cX10_winds 59 = .ok (.iload_n 3, 1) := by decide +kernel
theorem dX10_winds_60 : decode cX10_winds 60 = .ok (.iadd, 1) := by decide +kernel
theorem dX10_winds_61 : decode cX10_winds 61 = .ok (.iaload, 1) := by decide +kernel
theorem dX10_winds_62 : decode cX10_winds 62 = .ok (.aload_n 1, 1) := by decide +kernel
theorem dX10_winds_63 : decode cX10_winds 63 = .ok (.bipush 6, 2) := by decide +kernel
theorem dX10_winds_65 : decode cX10_winds 65 = .ok (.iload_n 3, 1) := by decide +kernel
theorem dX10_winds_66 : decode cX10_winds 66 = .ok (.iadd, 1) := by decide +kernel
theorem dX10_winds_67 : decode cX10_winds 67 = .ok (.iaload, 1) := by decide +kernel
theorem dX10_winds_68 : decode cX10_winds 68 = .ok (.iconst 5, 1) := by decide +kernel
theorem dX10_winds_69 : decode cX10_winds 69 = .ok (.idiv, 1) := by decide +kernel
theorem dX10_winds_70 : decode cX10_winds 70 = .ok (.isub, 1) := by decide +kernel
theorem dX10_winds_71 : decode cX10_winds 71 = .ok (.invokestatic 147, 3) := by decide +kernel
theorem dX10_winds_74 : decode cX10_winds 74 = .ok (.iadd, 1) := by decide +kernel
theorem dX10_winds_75 : decode cX10_winds 75 = .ok (.invokestatic 212, 3) := by decide +kernel
theorem dX10_winds_78 : decode cX10_winds 78 = .ok (.iastore, 1) := by decide +kernel
theorem dX10_winds_79 : decode cX10_winds 79 = .ok (.aload_n 1, 1) := by decide +kernel
theorem dX10_winds_80 : decode cX10_winds 80 = .ok (.bipush 6, 2) := by decide +kernel
theorem dX10_winds_82 : decode cX10_winds 82 = .ok (.iload_n 3, 1) := by decide +kernel
theorem dX10_winds_83 : decode cX10_winds 83 = .ok (.iadd, 1) := by decide +kernel
theorem dX10_winds_84 : decode cX10_winds 84 = .ok (.bipush 99, 2) := by decide +kernel
theorem dX10_winds_86 : decode cX10_winds 86 = .ok (.aload_n 1, 1) := by decide +kernel
theorem dX10_winds_87 : decode cX10_winds 87 = .ok (.bipush 6, 2) := by decide +kernel
theorem dX10_winds_89 : decode cX10_winds 89 = .ok (.iload_n 3, 1) := by decide +kernel
theorem dX10_winds_90 : decode cX10_winds 90 = .ok (.iadd, 1) := by decide +kernel
theorem dX10_winds_91 : decode cX10_winds 91 = .ok (.iaload, 1) := by decide +kernel
theorem dX10_winds_92 : decode cX10_winds 92 = .ok (.iconst 1, 1) := by decide +kernel
theorem dX10_winds_93 : decode cX10_winds 93 = .ok (.iadd, 1) := by decide +kernel
theorem dX10_winds_94 : decode cX10_winds 94 = .ok (.invokestatic 212, 3) := by decide +kernel
theorem dX10_winds_97 : decode cX10_winds 97 = .ok (.iastore, 1) := by decide +kernel
theorem dX10_winds_98 : decode cX10_winds 98 = .ok (.iload_n 2, 1) := by decide +kernel
theorem dX10_winds_99 : decode cX10_winds 99 = .ok (.iconst 1, 1) := by decide +kernel
theorem dX10_winds_100 : decode cX10_winds 100 = .ok (.iload 4, 2) := by decide +kernel
theorem dX10_winds_102 : decode cX10_winds 102 = .ok (.ishl, 1) := by decide +kernel
theorem dX10_winds_103 : decode cX10_winds 103 = .ok (.ior, 1) := by decide +kernel
theorem dX10_winds_104 : decode cX10_winds 104 = .ok (.istore_n 2, 1) := by decide +kernel
theorem dX10_winds_105 : decode cX10_winds 105 = .ok (.goto 21, 3) := by decide +kernel
theorem dX10_winds_108 : decode cX10_winds 108 = .ok (.aload_n 1, 1) := by decide +kernel
theorem dX10_winds_109 : decode cX10_winds 109 = .ok (.bipush 6, 2) := by decide +kernel
theorem dX10_winds_111 : decode cX10_winds 111 = .ok (.iload_n 3, 1) := by decide +kernel
theorem dX10_winds_112 : decode cX10_winds 112 = .ok (.iadd, 1) := by decide +kernel
theorem dX10_winds_113 : decode cX10_winds 113 = .ok (.iconst 0, 1) := by decide +kernel
theorem dX10_winds_114 : decode cX10_winds 114 = .ok (.aload_n 1, 1) := by decide +kernel
theorem dX10_winds_115 : decode cX10_winds 115 = .ok (.bipush 6, 2) := by decide +kernel
theorem dX10_winds_117 : decode cX10_winds 117 = .ok (.iload_n 3, 1) := by decide +kernel
theorem dX10_winds_118 : decode cX10_winds 118 = .ok (.iadd, 1) := by decide +kernel
theorem dX10_winds_119 : decode cX10_winds 119 = .ok (.iaload, 1) := by decide +kernel
theorem dX10_winds_120 : decode cX10_winds 120 = .ok (.iconst 2, 1) := by decide +kernel
theorem dX10_winds_121 : decode cX10_winds 121 = .ok (.isub, 1) := by decide +kernel
theorem dX10_winds_122 : decode cX10_winds 122 = .ok (.invokestatic 147, 3) := by decide +kernel
theorem dX10_winds_125 : decode cX10_winds 125 = .ok (.iastore, 1) := by decide +kernel
theorem dX10_winds_126 : decode cX10_winds 126 = .ok (.iinc 3 1, 3) := by decide +kernel
theorem dX10_winds_129 : decode cX10_winds 129 = .ok (.goto (-125), 3) := by decide +kernel
theorem dX10_winds_132 : decode cX10_winds 132 = .ok (.iconst 0, 1) := by decide +kernel
theorem dX10_winds_133 : decode cX10_winds 133 = .ok (.istore_n 3, 1) := by decide +kernel
theorem dX10_winds_134 : decode cX10_winds 134 = .ok (.iload_n 3, 1) := by decide +kernel
theorem dX10_winds_135 : decode cX10_winds 135 = .ok (.aload_n 0, 1) := by decide +kernel
theorem dX10_winds_136 : decode cX10_winds 136 = .ok (.getfield 7, 3) := by decide +kernel
theorem dX10_winds_139 : decode cX10_winds 139 = .ok (.iconst 1, 1) := by decide +kernel
theorem dX10_winds_140 : decode cX10_winds 140 = .ok (.iaload, 1) := by decide +kernel
theorem dX10_winds_141 : decode cX10_winds 141 = .ok (.if_icmp .ge 41, 3) := by decide +kernel
theorem dX10_winds_144 : decode cX10_winds 144 = .ok (.aload_n 1, 1) := by decide +kernel
theorem dX10_winds_145 : decode cX10_winds 145 = .ok (.iconst 0, 1) := by decide +kernel
theorem dX10_winds_146 : decode cX10_winds 146 = .ok (.iload_n 3, 1) := by decide +kernel
theorem dX10_winds_147 : decode cX10_winds 147 = .ok (.iadd, 1) := by decide +kernel
theorem dX10_winds_148 : decode cX10_winds 148 = .ok (.iload_n 2, 1) := by decide +kernel
theorem dX10_winds_149 : decode cX10_winds 149 = .ok (.iload_n 3, 1) := by decide +kernel
theorem dX10_winds_150 : decode cX10_winds 150 = .ok (.invokestatic 208, 3) := by decide +kernel
theorem dX10_winds_153 : decode cX10_winds 153 = .ok (.ifCond .eq 11, 3) := by decide +kernel
theorem dX10_winds_156 : decode cX10_winds 156 = .ok (.aload_n 1, 1) := by decide +kernel
theorem dX10_winds_157 : decode cX10_winds 157 = .ok (.iconst 0, 1) := by decide +kernel
theorem dX10_winds_158 : decode cX10_winds 158 = .ok (.iload_n 3, 1) := by decide +kernel
theorem dX10_winds_159 : decode cX10_winds 159 = .ok (.iadd, 1) := by decide +kernel
theorem dX10_winds_160 : decode cX10_winds 160 = .ok (.iaload, 1) := by decide +kernel
theorem dX10_winds_161 : decode cX10_winds 161 = .ok (.goto 14, 3) := by decide +kernel
theorem dX10_winds_164 : decode cX10_winds 164 = .ok (.iconst 0, 1) := by decide +kernel
theorem dX10_winds_165 : decode cX10_winds 165 = .ok (.aload_n 1, 1) := by decide +kernel
theorem dX10_winds_166 : decode cX10_winds 166 = .ok (.iconst 0, 1) := by decide +kernel
theorem dX10_winds_167 : decode cX10_winds 167 = .ok (.iload_n 3, 1) := by decide +kernel
theorem dX10_winds_168 : decode cX10_winds 168 = .ok (.iadd, 1) := by decide +kernel
theorem dX10_winds_169 : decode cX10_winds 169 = .ok (.iaload, 1) := by decide +kernel
theorem dX10_winds_170 : decode cX10_winds 170 = .ok (.iconst 3, 1) := by decide +kernel
theorem dX10_winds_171 : decode cX10_winds 171 = .ok (.isub, 1) := by decide +kernel
theorem dX10_winds_172 : decode cX10_winds 172 = .ok (.invokestatic 147, 3) := by decide +kernel
theorem dX10_winds_175 : decode cX10_winds 175 = .ok (.iastore, 1) := by decide +kernel
theorem dX10_winds_176 : decode cX10_winds 176 = .ok (.iinc 3 1, 3) := by decide +kernel
theorem dX10_winds_179 : decode cX10_winds 179 = .ok (.goto (-45), 3) := by decide +kernel
theorem dX10_winds_182 : decode cX10_winds 182 = .ok (.return_, 1) := by decide +kernel
theorem dX10_hourGoes_0 : decode cX10_hourGoes 0 = .ok (.aload_n 0, 1) := by decide +kernel
theorem dX10_hourGoes_1 : decode cX10_hourGoes 1 = .ok (.aload_n 1, 1) := by decide +kernel
theorem dX10_hourGoes_2 : decode cX10_hourGoes 2 = .ok (.invokevirtual 215, 3) := by decide +kernel
theorem dX10_hourGoes_5 : decode cX10_hourGoes 5 = .ok (.iconst 0, 1) := by decide +kernel
theorem dX10_hourGoes_6 : decode cX10_hourGoes 6 = .ok (.istore_n 2, 1) := by decide +kernel
theorem dX10_hourGoes_7 : decode cX10_hourGoes 7 = .ok (.iload_n 2, 1) := by decide +kernel
theorem dX10_hourGoes_8 : decode cX10_hourGoes 8 = .ok (.aload_n 0, 1) := by decide +kernel
theorem dX10_hourGoes_9 : decode cX10_hourGoes 9 = .ok (.getfield 7, 3) := by decide +kernel
theorem dX10_hourGoes_12 : decode cX10_hourGoes 12 = .ok (.iconst 3, 1) := by decide +kernel
theorem dX10_hourGoes_13 : decode cX10_hourGoes 13 = .ok (.iaload, 1) := by decide +kernel
theorem dX10_hourGoes_14 : decode cX10_hourGoes 14 = .ok (.if_icmp .ge 118, 3) := by decide +kernel
theorem dX10_hourGoes_17 : decode cX10_hourGoes 17 = .ok (.aload_n 1, 1) := by decide +kernel
theorem dX10_hourGoes_18 : decode cX10_hourGoes 18 = .ok (.bipush 19, 2) := by decide +kernel
theorem dX10_hourGoes_20 : decode cX10_hourGoes 20 = .ok (.iload_n 2, 1) := by decide +kernel
theorem dX10_hourGoes_21 : decode cX10_hourGoes 21 = .ok (.iadd, 1) := by decide +kernel
theorem dX10_hourGoes_22 : decode cX10_hourGoes 22 = .ok (.iaload, 1) := by decide +kernel
theorem dX10_hourGoes_23 : decode cX10_hourGoes 23 = .ok (.istore_n 3, 1) := by decide +kernel
theorem dX10_hourGoes_24 : decode cX10_hourGoes 24 = .ok (.iload_n 3, 1) := by decide +kernel
theorem dX10_hourGoes_25 : decode cX10_hourGoes 25 = .ok (.aload_n 0, 1) := by decide +kernel
theorem dX10_hourGoes_26 : decode cX10_hourGoes 26 = .ok (.getfield 7, 3) := by decide +kernel
theorem dX10_hourGoes_29 : decode cX10_hourGoes 29 = .ok (.bipush 40, 2) := by decide +kernel
theorem dX10_hourGoes_31 : decode cX10_hourGoes 31 = .ok (.iload_n 2, 1) := by decide +kernel
theorem dX10_hourGoes_32 : decode cX10_hourGoes 32 = .ok (.iadd, 1) := by decide +kernel
theorem dX10_hourGoes_33 : decode cX10_hourGoes 33 = .ok (.iaload, 1) := by decide +kernel
theorem dX10_hourGoes_34 : decode cX10_hourGoes 34 = .ok (.if_icmp .ge 9, 3) := by decide +kernel
theorem dX10_hourGoes_37 : decode cX10_hourGoes 37 = .ok (.iload_n 3, 1) := by decide +kernel
theorem dX10_hourGoes_38 : decode cX10_hourGoes 38 = .ok (.iconst 1, 1) := by decide +kernel
theorem dX10_hourGoes_39 : decode cX10_hourGoes 39 = .ok (.iadd, 1) := by decide +kernel
theorem dX10_hourGoes_40 : decode cX10_hourGoes 40 = .ok (.goto 23, 3) := by decide +kernel
theorem dX10_hourGoes_43 : decode cX10_hourGoes 43 = .ok (.iload_n 3, 1) := by decide +kernel
theorem dX10_hourGoes_44 : decode cX10_hourGoes 44 = .ok (.aload_n 0, 1) := by decide +kernel
theorem dX10_hourGoes_45 : decode cX10_hourGoes 45 = .ok (.getfield 7, 3) := by decide +kernel
theorem dX10_hourGoes_48 : decode cX10_hourGoes 48 = .ok (.bipush 40, 2) := by decide +kernel
theorem dX10_hourGoes_50 : decode cX10_hourGoes 50 = .ok (.iload_n 2, 1) := by decide +kernel
theorem dX10_hourGoes_51 : decode cX10_hourGoes 51 = .ok (.iadd, 1) := by decide +kernel
theorem dX10_hourGoes_52 : decode cX10_hourGoes 52 = .ok (.iaload, 1) := by decide +kernel
theorem dX10_hourGoes_53 : decode cX10_hourGoes 53 = .ok (.if_icmp .le 9, 3) := by decide +kernel
theorem dX10_hourGoes_56 : decode cX10_hourGoes 56 = .ok (.iload_n 3, 1) := by decide +kernel
theorem dX10_hourGoes_57 : decode cX10_hourGoes 57 = .ok (.iconst 1, 1) := by decide +kernel
theorem dX10_hourGoes_58 : decode cX10_hourGoes 58 = .ok (.isub, 1) := by decide +kernel
theorem dX10_hourGoes_59 : decode cX10_hourGoes 59 = .ok (.goto 4, 3) := by decide +kernel
theorem dX10_hourGoes_62 : decode cX10_hourGoes 62 = .ok (.iload_n 3, 1) := by decide +kernel
theorem dX10_hourGoes_63 : decode cX10_hourGoes 63 = .ok (.istore 4, 2) := by decide +kernel
theorem dX10_hourGoes_65 : decode cX10_hourGoes 65 = .ok (.aload_n 0, 1) := by decide +kernel
theorem dX10_hourGoes_66 : decode cX10_hourGoes 66 = .ok (.aload_n 1, 1) := by decide +kernel
theorem dX10_hourGoes_67 : decode cX10_hourGoes 67 = .ok (.iload_n 3, 1) := by decide +kernel
theorem dX10_hourGoes_68 : decode cX10_hourGoes 68 = .ok (.invokevirtual 166, 3) := by decide +kernel
theorem dX10_hourGoes_71 : decode cX10_hourGoes 71 = .ok (.aload_n 0, 1) := by decide +kernel
theorem dX10_hourGoes_72 : decode cX10_hourGoes 72 = .ok (.getfield 7, 3) := by decide +kernel
theorem dX10_hourGoes_75 : decode cX10_hourGoes 75 = .ok (.bipush 32, 2) := by decide +kernel
theorem dX10_hourGoes_77 : decode cX10_hourGoes 77 = .ok (.iload_n 2, 1) := by decide +kernel
theorem dX10_hourGoes_78 : decode cX10_hourGoes 78 = .ok (.iadd, 1) := by decide +kernel
theorem dX10_hourGoes_79 : decode cX10_hourGoes 79 = .ok (.iaload, 1) := by decide +kernel
theorem dX10_hourGoes_80 : decode cX10_hourGoes 80 = .ok (.if_icmp .lt 26, 3) := by decide +kernel
theorem dX10_hourGoes_83 : decode cX10_hourGoes 83 = .ok (.aload_n 0, 1) := by decide +kernel
theorem dX10_hourGoes_84 : decode cX10_hourGoes 84 = .ok (.aload_n 1, 1) := by decide +kernel
theorem dX10_hourGoes_85 : decode cX10_hourGoes 85 = .ok (.iload 4, 2) := by decide +kernel
theorem dX10_hourGoes_87 : decode cX10_hourGoes 87 = .ok (.invokevirtual 166, 3) := by decide +kernel
theorem dX10_hourGoes_90 : decode cX10_hourGoes 90 = .ok (.aload_n 0, 1) := by decide +kernel
theorem dX10_hourGoes_91 : decode cX10_hourGoes 91 = .ok (.getfield 7, 3) := by decide +kernel
theorem dX10_hourGoes_94 : decode cX10_hourGoes 94 = .ok (.bipush 32, 2) := by decide +kernel
theorem dX10_hourGoes_96 : decode cX10_hourGoes 96 = .ok (.iload_n 2, 1) := by decide +kernel
theorem dX10_hourGoes_97 : decode cX10_hourGoes 97 = .ok (.iadd, 1) := by decide +kernel
theorem dX10_hourGoes_98 : decode cX10_hourGoes 98 = .ok (.iaload, 1) := by decide +kernel
theorem dX10_hourGoes_99 : decode cX10_hourGoes 99 = .ok (.if_icmp .lt 7, 3) := by decide +kernel
theorem dX10_hourGoes_102 : decode cX10_hourGoes 102 = .ok (.iconst 1, 1) := by decide +kernel
theorem dX10_hourGoes_103 : decode cX10_hourGoes 103 = .ok (.goto 4, 3) := by decide +kernel
theorem dX10_hourGoes_106 : decode cX10_hourGoes 106 = .ok (.iconst 0, 1) := by decide +kernel
theorem dX10_hourGoes_107 : decode cX10_hourGoes 107 = .ok (.istore 5, 2) := by decide +kernel
theorem dX10_hourGoes_109 : decode cX10_hourGoes 109 = .ok (.aload_n 1, 1) := by decide +kernel
theorem dX10_hourGoes_110 : decode cX10_hourGoes 110 = .ok (.bipush 19, 2) := by decide +kernel
theorem dX10_hourGoes_112 : decode cX10_hourGoes 112 = .ok (.iload_n 2, 1) := by decide +kernel
theorem dX10_hourGoes_113 : decode cX10_hourGoes 113 = .ok (.iadd, 1) := by decide +kernel
theorem dX10_hourGoes_114 : decode cX10_hourGoes 114 = .ok (.iload 5, 2) := by decide +kernel
theorem dX10_hourGoes_116 : decode cX10_hourGoes 116 = .ok (.ifCond .eq 8, 3) := by decide +kernel
theorem dX10_hourGoes_119 : decode cX10_hourGoes 119 = .ok (.iload 4, 2) := by decide +kernel
theorem dX10_hourGoes_121 : decode cX10_hourGoes 121 = .ok (.goto 4, 3) := by decide +kernel
theorem dX10_hourGoes_124 : decode cX10_hourGoes 124 = .ok (.iload_n 3, 1) := by decide +kernel
theorem dX10_hourGoes_125 : decode cX10_hourGoes 125 = .ok (.iastore, 1) := by decide +kernel
theorem dX10_hourGoes_126 : decode cX10_hourGoes 126 = .ok (.iinc 2 1, 3) := by decide +kernel
theorem dX10_hourGoes_129 : decode cX10_hourGoes 129 = .ok (.goto (-122), 3) := by decide +kernel
theorem dX10_hourGoes_132 : decode cX10_hourGoes 132 = .ok (.aload_n 1, 1) := by decide +kernel
theorem dX10_hourGoes_133 : decode cX10_hourGoes 133 = .ok (.bipush 23, 2) := by decide +kernel
theorem dX10_hourGoes_135 : decode cX10_hourGoes 135 = .ok (.dup2, 1) := by decide +kernel
theorem dX10_hourGoes_136 : decode cX10_hourGoes 136 = .ok (.iaload, 1) := by decide +kernel
theorem dX10_hourGoes_137 : decode cX10_hourGoes 137 = .ok (.iconst 1, 1) := by decide +kernel
theorem dX10_hourGoes_138 : decode cX10_hourGoes 138 = .ok (.iadd, 1) := by decide +kernel
theorem dX10_hourGoes_139 : decode cX10_hourGoes 139 = .ok (.iastore, 1) := by decide +kernel
theorem dX10_hourGoes_140 : decode cX10_hourGoes 140 = .ok (.return_, 1) := by decide +kernel
theorem dX10_remember_0 : decode cX10_remember 0 = .ok (.aload_n 0, 1) := by decide +kernel
theorem dX10_remember_1 : decode cX10_remember 1 = .ok (.getfield 72, 3) := by decide +kernel
theorem dX10_remember_4 : decode cX10_remember 4 = .ok (.bipush 16, 2) := by decide +kernel
theorem dX10_remember_6 : decode cX10_remember 6 = .ok (.if_icmp .ne 43, 3) := by decide +kernel
theorem dX10_remember_9 : decode cX10_remember 9 = .ok (.iconst 0, 1) := by decide +kernel
theorem dX10_remember_10 : decode cX10_remember 10 = .ok (.istore_n 1, 1) := by decide +kernel
theorem dX10_remember_11 : decode cX10_remember 11 = .ok (.iload_n 1, 1) := by decide +kernel
theorem dX10_remember_12 : decode cX10_remember 12 = .ok (.sipush 360, 3) := by decide +kernel
theorem dX10_remember_15 : decode cX10_remember 15 = .ok (.if_icmp .ge 24, 3) := by decide +kernel
theorem dX10_remember_18 : decode cX10_remember 18 = .ok (.aload_n 0, 1) := by decide +kernel
theorem dX10_remember_19 : decode cX10_remember 19 = .ok (.getfield 22, 3) := by decide +kernel
theorem dX10_remember_22 : decode cX10_remember 22 = .ok (.iload_n 1, 1) := by decide +kernel
theorem dX10_remember_23 : decode cX10_remember 23 = .ok (.aload_n 0, 1) := by decide +kernel
theorem dX10_remember_24 : decode cX10_remember 24 = .ok (.getfield 22, 3) := by decide +kernel
theorem dX10_remember_27 : decode cX10_remember 27 = .ok (.iload_n 1, 1) := by decide +kernel
theorem dX10_remember_28 : decode cX10_remember 28 = .ok (.bipush 24, 2) := by decide +kernel
theorem dX10_remember_30 : decode cX10_remember 30 = .ok (.iadd, 1) := by decide +kernel
theorem dX10_remember_31 : decode cX10_remember 31 = .ok (.iaload, 1) := by decide +kernel
theorem dX10_remember_32 : decode cX10_remember 32 = .ok (.iastore, 1) := by decide +kernel
theorem dX10_remember_33 : decode cX10_remember 33 = .ok (.iinc 1 1, 3) := by decide +kernel
theorem dX10_remember_36 : decode cX10_remember 36 = .ok (.goto (-25), 3) := by decide +kernel
theorem dX10_remember_39 : decode cX10_remember 39 = .ok (.aload_n 0, 1) := by decide +kernel
theorem dX10_remember_40 : decode cX10_remember 40 = .ok (.dup, 1) := by decide +kernel
theorem dX10_remember_41 : decode cX10_remember 41 = .ok (.getfield 72, 3) := by decide +kernel
theorem dX10_remember_44 : decode cX10_remember 44 = .ok (.iconst 1, 1) := by decide +kernel
theorem dX10_remember_45 : decode cX10_remember 45 = .ok (.isub, 1) := by decide +kernel
theorem dX10_remember_46 : decode cX10_remember 46 = .ok (.putfield 72, 3) := by decide +kernel
theorem dX10_remember_49 : decode cX10_remember 49 = .ok (.aload_n 0, 1) := by decide +kernel
theorem dX10_remember_50 : decode cX10_remember 50 = .ok (.getfield 16, 3) := by decide +kernel
theorem dX10_remember_53 : decode cX10_remember 53 = .ok (.iconst 0, 1) := by decide +kernel
theorem dX10_remember_54 : decode cX10_remember 54 = .ok (.aload_n 0, 1) := by decide +kernel
theorem dX10_remember_55 : decode cX10_remember 55 = .ok (.getfield 22, 3) := by decide +kernel
theorem dX10_remember_58 : decode cX10_remember 58 = .ok (.bipush 24, 2) := by decide +kernel
theorem dX10_remember_60 : decode cX10_remember 60 = .ok (.aload_n 0, 1) := by decide +kernel
theorem dX10_remember_61 : decode cX10_remember 61 = .ok (.getfield 72, 3) := by decide +kernel
theorem dX10_remember_64 : decode cX10_remember 64 = .ok (.imul, 1) := by decide +kernel
theorem dX10_remember_65 : decode cX10_remember 65 = .ok (.bipush 24, 2) := by decide +kernel
theorem dX10_remember_67 : decode cX10_remember 67 = .ok (.invokestatic 68, 3) := by decide +kernel
theorem dX10_remember_70 : decode cX10_remember 70 = .ok (.aload_n 0, 1) := by decide +kernel
theorem dX10_remember_71 : decode cX10_remember 71 = .ok (.dup, 1) := by decide +kernel
theorem dX10_remember_72 : decode cX10_remember 72 = .ok (.getfield 72, 3) := by decide +kernel
theorem dX10_remember_75 : decode cX10_remember 75 = .ok (.iconst 1, 1) := by decide +kernel
theorem dX10_remember_76 : decode cX10_remember 76 = .ok (.iadd, 1) := by decide +kernel
theorem dX10_remember_77 : decode cX10_remember 77 = .ok (.putfield 72, 3) := by decide +kernel
theorem dX10_remember_80 : decode cX10_remember 80 = .ok (.return_, 1) := by decide +kernel
theorem dX10_refuses_0 : decode cX10_refuses 0 = .ok (.iload_n 1, 1) := by decide +kernel
theorem dX10_refuses_1 : decode cX10_refuses 1 = .ok (.i2l, 1) := by decide +kernel
theorem dX10_refuses_2 : decode cX10_refuses 2 = .ok (.lconst 1, 1) := by decide +kernel
theorem dX10_refuses_3 : decode cX10_refuses 3 = .ok (.ldc2_w 219, 3) := by decide +kernel
theorem dX10_refuses_6 : decode cX10_refuses 6 = .ok (.invokestatic 64, 3) := by decide +kernel
theorem dX10_refuses_9 : decode cX10_refuses 9 = .ok (.ifCond .ne 6, 3) := by decide +kernel
theorem dX10_refuses_12 : decode cX10_refuses 12 = .ok (.ldc 86, 2) := by decide +kernel
theorem dX10_refuses_14 : decode cX10_refuses 14 = .ok (.ireturn, 1) := by decide +kernel
theorem dX10_refuses_15 : decode cX10_refuses 15 = .ok (.aload_n 0, 1) := by decide +kernel
theorem dX10_refuses_16 : decode cX10_refuses 16 = .ok (.getfield 7, 3) := by decide +kernel
theorem dX10_refuses_19 : decode cX10_refuses 19 = .ok (.iconst 0, 1) := by decide +kernel
theorem dX10_refuses_20 : decode cX10_refuses 20 = .ok (.iaload, 1) := by decide +kernel
theorem dX10_refuses_21 : decode cX10_refuses 21 = .ok (.ifCond .ne 8, 3) := by decide +kernel
theorem dX10_refuses_24 : decode cX10_refuses 24 = .ok (.ldc 221, 2) := by decide +kernel
theorem dX10_refuses_26 : decode cX10_refuses 26 = .ok (.goto 22, 3) := by decide +kernel
theorem dX10_refuses_29 : decode cX10_refuses 29 = .ok (.aload_n 0, 1) := by decide +kernel
theorem dX10_refuses_30 : decode cX10_refuses 30 = .ok (.getfield 16, 3) := by decide +kernel
theorem dX10_refuses_33 : decode cX10_refuses 33 = .ok (.bipush 23, 2) := by decide +kernel
theorem dX10_refuses_35 : decode cX10_refuses 35 = .ok (.iaload, 1) := by decide +kernel
theorem dX10_refuses_36 : decode cX10_refuses 36 = .ok (.sipush 9000, 3) := by decide +kernel
theorem dX10_refuses_39 : decode cX10_refuses 39 = .ok (.if_icmp .le 8, 3) := by decide +kernel
theorem dX10_refuses_42 : decode cX10_refuses 42 = .ok (.ldc 90, 2) := by decide +kernel
theorem dX10_refuses_44 : decode cX10_refuses 44 = .ok (.goto 4, 3) := by decide +kernel
theorem dX10_refuses_47 : decode cX10_refuses 47 = .ok (.iconst 0, 1) := by decide +kernel
theorem dX10_refuses_48 : decode cX10_refuses 48 = .ok (.ireturn, 1) := by decide +kernel
