theorem dX7_init_0 : decode cX7_init 0 = .ok (.aload_n 0, 1) := by decide +kernel
theorem dX7_init_1 : decode cX7_init 1 = .ok (.invokespecial 1, 3) := by decide +kernel
theorem dX7_init_4 : decode cX7_init 4 = .ok (.aload_n 0, 1) := by decide +kernel
theorem dX7_init_5 : decode cX7_init 5 = .ok (.sipush 171, 3) := by decide +kernel
theorem dX7_init_8 : decode cX7_init 8 = .ok (.newarray .int, 2) := by decide +kernel
theorem dX7_init_10 : decode cX7_init 10 = .ok (.putfield 7, 3) := by decide +kernel
theorem dX7_init_13 : decode cX7_init 13 = .ok (.aload_n 0, 1) := by decide +kernel
theorem dX7_init_14 : decode cX7_init 14 = .ok (.bipush 57, 2) := by decide +kernel
theorem dX7_init_16 : decode cX7_init 16 = .ok (.newarray .int, 2) := by decide +kernel
theorem dX7_init_18 : decode cX7_init 18 = .ok (.putfield 13, 3) := by decide +kernel
theorem dX7_init_21 : decode cX7_init 21 = .ok (.aload_n 0, 1) := by decide +kernel
theorem dX7_init_22 : decode cX7_init 22 = .ok (.iconst 2, 1) := by decide +kernel
theorem dX7_init_23 : decode cX7_init 23 = .ok (.newarray .boolean, 2) := by decide +kernel
theorem dX7_init_25 : decode cX7_init 25 = .ok (.putfield 16, 3) := by decide +kernel
theorem dX7_init_28 : decode cX7_init 28 = .ok (.aload_n 0, 1) := by decide +kernel
theorem dX7_init_29 : decode cX7_init 29 = .ok (.bipush 57, 2) := by decide +kernel
theorem dX7_init_31 : decode cX7_init 31 = .ok (.newarray .int, 2) := by decide +kernel
theorem dX7_init_33 : decode cX7_init 33 = .ok (.putfield 20, 3) := by decide +kernel
theorem dX7_init_36 : decode cX7_init 36 = .ok (.aload_n 0, 1) := by decide +kernel
theorem dX7_init_37 : decode cX7_init 37 = .ok (.sipush 160, 3) := by decide +kernel
theorem dX7_init_40 : decode cX7_init 40 = .ok (.newarray .int, 2) := by decide +kernel
theorem dX7_init_42 : decode cX7_init 42 = .ok (.putfield 23, 3) := by decide +kernel
theorem dX7_init_45 : decode cX7_init 45 = .ok (.aload_n 0, 1) := by decide +kernel
theorem dX7_init_46 : decode cX7_init 46 = .ok (.bipush 84, 2) := by decide +kernel
theorem dX7_init_48 : decode cX7_init 48 = .ok (.newarray .int, 2) := by decide +kernel
theorem dX7_init_50 : decode cX7_init 50 = .ok (.putfield 26, 3) := by decide +kernel
theorem dX7_init_53 : decode cX7_init 53 = .ok (.aload_n 0, 1) := by decide +kernel
theorem dX7_init_54 : decode cX7_init 54 = .ok (.bipush 84, 2) := by decide +kernel
theorem dX7_init_56 : decode cX7_init 56 = .ok (.newarray .int, 2) := by decide +kernel
theorem dX7_init_58 : decode cX7_init 58 = .ok (.putfield 29, 3) := by decide +kernel
theorem dX7_init_61 : decode cX7_init 61 = .ok (.aload_n 0, 1) := by decide +kernel
theorem dX7_init_62 : decode cX7_init 62 = .ok (.iconst 4, 1) := by decide +kernel
theorem dX7_init_63 : decode cX7_init 63 = .ok (.newarray .int, 2) := by decide +kernel
theorem dX7_init_65 : decode cX7_init 65 = .ok (.putfield 32, 3) := by decide +kernel
theorem dX7_init_68 : decode cX7_init 68 = .ok (.aload_n 0, 1) := by decide +kernel
theorem dX7_init_69 : decode cX7_init 69 = .ok (.iconst 4, 1) := by decide +kernel
theorem dX7_init_70 : decode cX7_init 70 = .ok (.newarray .int, 2) := by decide +kernel
theorem dX7_init_72 : decode cX7_init 72 = .ok (.putfield 35, 3) := by decide +kernel
theorem dX7_init_75 : decode cX7_init 75 = .ok (.aload_n 0, 1) := by decide +kernel
theorem dX7_init_76 : decode cX7_init 76 = .ok (.sipush 160, 3) := by decide +kernel
theorem dX7_init_79 : decode cX7_init 79 = .ok (.newarray .int, 2) := by decide +kernel
theorem dX7_init_81 : decode cX7_init 81 = .ok (.putfield 38, 3) := by decide +kernel
theorem dX7_init_84 : decode cX7_init 84 = .ok (.aload_n 0, 1) := by decide +kernel
theorem dX7_init_85 : decode cX7_init 85 = .ok (.bipush 57, 2) := by decide +kernel
theorem dX7_init_87 : decode cX7_init 87 = .ok (.newarray .int, 2) := by decide +kernel
theorem dX7_init_89 : decode cX7_init 89 = .ok (.putfield 41, 3) := by decide +kernel
theorem dX7_init_92 : decode cX7_init 92 = .ok (.iconst 0, 1) := by decide +kernel
theorem dX7_init_93 : decode cX7_init 93 = .ok (.istore_n 1, 1) := by decide +kernel
theorem dX7_init_94 : decode cX7_init 94 = .ok (.iload_n 1, 1) := by decide +kernel
theorem dX7_init_95 : decode cX7_init 95 = .ok (.iconst 4, 1) := by decide +kernel
theorem dX7_init_96 : decode cX7_init 96 = .ok (.if_icmp .ge 17, 3) := by decide +kernel
theorem dX7_init_99 : decode cX7_init 99 = .ok (.aload_n 0, 1) := by decide +kernel
theorem dX7_init_100 : decode cX7_init 100 = .ok (.getfield 32, 3) := by decide +kernel
theorem dX7_init_103 : decode cX7_init 103 = .ok (.iload_n 1, 1) := by decide +kernel
theorem dX7_init_104 : decode cX7_init 104 = .ok (.bipush (-4), 2) := by decide +kernel
theorem dX7_init_106 : decode cX7_init 106 = .ok (.iastore, 1) := by decide +kernel
theorem dX7_init_107 : decode cX7_init 107 = .ok (.iinc 1 1, 3) := by decide +kernel
theorem dX7_init_110 : decode cX7_init 110 = .ok (.goto (-16), 3) := by decide +kernel
theorem dX7_init_113 : decode cX7_init 113 = .ok (.aload_n 0, 1) := by decide +kernel
theorem dX7_init_114 : decode cX7_init 114 = .ok (.invokevirtual 44, 3) := by decide +kernel
theorem dX7_init_117 : decode cX7_init 117 = .ok (.aload_n 0, 1) := by decide +kernel
theorem dX7_init_118 : decode cX7_init 118 = .ok (.invokevirtual 47, 3) := by decide +kernel
theorem dX7_init_121 : decode cX7_init 121 = .ok (.return_, 1) := by decide +kernel
theorem dX7_in_0 : decode cX7_in 0 = .ok (.lload_n 0, 1) := by decide +kernel
theorem dX7_in_1 : decode cX7_in 1 = .ok (.lload_n 2, 1) := by decide +kernel
theorem dX7_in_2 : decode cX7_in 2 = .ok (.lcmp, 1) := by decide +kernel
theorem dX7_in_3 : decode cX7_in 3 = .ok (.ifCond .lt 14, 3) := by decide +kernel
theorem dX7_in_6 : decode cX7_in 6 = .ok (.lload_n 0, 1) := by decide +kernel
theorem dX7_in_7 : decode cX7_in 7 = .ok (.lload 4, 2) := by decide +kernel
theorem dX7_in_9 : decode cX7_in 9 = .ok (.lcmp, 1) := by decide +kernel
theorem dX7_in_10 : decode cX7_in 10 = .ok (.ifCond .gt 7, 3) := by decide +kernel
theorem dX7_in_13 : decode cX7_in 13 = .ok (.iconst 1, 1) := by decide +kernel
theorem dX7_in_14 : decode cX7_in 14 = .ok (.goto 4, 3) := by decide +kernel
theorem dX7_in_17 : decode cX7_in 17 = .ok (.iconst 0, 1) := by decide +kernel
theorem dX7_in_18 : decode cX7_in 18 = .ok (.ireturn, 1) := by decide +kernel
theorem dX7_flag_0 : decode cX7_flag 0 = .ok (.iload_n 0, 1) := by decide +kernel
theorem dX7_flag_1 : decode cX7_flag 1 = .ok (.ifCond .eq 7, 3) := by decide +kernel
theorem dX7_flag_4 : decode cX7_flag 4 = .ok (.iconst 1, 1) := by decide +kernel
theorem dX7_flag_5 : decode cX7_flag 5 = .ok (.goto 4, 3) := by decide +kernel
theorem dX7_flag_8 : decode cX7_flag 8 = .ok (.iconst 0, 1) := by decide +kernel
theorem dX7_flag_9 : decode cX7_flag 9 = .ok (.ireturn, 1) := by decide +kernel
theorem dX7_lesser_0 : decode cX7_lesser 0 = .ok (.iload_n 0, 1) := by decide +kernel
theorem dX7_lesser_1 : decode cX7_lesser 1 = .ok (.iload_n 1, 1) := by decide +kernel
theorem dX7_lesser_2 : decode cX7_lesser 2 = .ok (.if_icmp .ge 7, 3) := by decide +kernel
theorem dX7_lesser_5 : decode cX7_lesser 5 = .ok (.iload_n 0, 1) := by decide +kernel
theorem dX7_lesser_6 : decode cX7_lesser 6 = .ok (.goto 4, 3) := by decide +kernel
theorem dX7_lesser_9 : decode cX7_lesser 9 = .ok (.iload_n 1, 1) := by decide +kernel
theorem dX7_lesser_10 : decode cX7_lesser 10 = .ok (.ireturn, 1) := by decide +kernel
theorem dX7_firstDraft_0 : decode cX7_firstDraft 0 = .ok (.iconst 0, 1) := by decide +kernel
theorem dX7_firstDraft_1 : decode cX7_firstDraft 1 = .ok (.istore_n 1, 1) := by decide +kernel
theorem dX7_firstDraft_2 : decode cX7_firstDraft 2 = .ok (.iload_n 1, 1) := by decide +kernel
theorem dX7_firstDraft_3 : decode cX7_firstDraft 3 = .ok (.bipush 57, 2) := by decide +kernel
theorem dX7_firstDraft_5 : decode cX7_firstDraft 5 = .ok (.if_icmp .ge 16, 3) := by decide +kernel
theorem dX7_firstDraft_8 : decode cX7_firstDraft 8 = .ok (.aload_n 0, 1) := by decide +kernel
theorem dX7_firstDraft_9 : decode cX7_firstDraft 9 = .ok (.getfield 20, 3) := by decide +kernel
theorem dX7_firstDraft_12 : decode cX7_firstDraft 12 = .ok (.iload_n 1, 1) := by decide +kernel
theorem dX7_firstDraft_13 : decode cX7_firstDraft 13 = .ok (.iconst 0, 1) := by decide +kernel
theorem dX7_firstDraft_14 : decode cX7_firstDraft 14 = .ok (.iastore, 1) := by decide +kernel
theorem dX7_firstDraft_15 : decode cX7_firstDraft 15 = .ok (.iinc 1 1, 3) := by decide +kernel
theorem dX7_firstDraft_18 : decode cX7_firstDraft 18 = .ok (.goto (-16), 3) := by decide +kernel
theorem dX7_firstDraft_21 : decode cX7_firstDraft 21 = .ok (.aload_n 0, 1) := by decide +kernel
theorem dX7_firstDraft_22 : decode cX7_firstDraft 22 = .ok (.iconst 0, 1) := by decide +kernel
theorem dX7_firstDraft_23 : decode cX7_firstDraft 23 = .ok (.putfield 50, 3) := by decide +kernel
theorem dX7_firstDraft_26 : decode cX7_firstDraft 26 = .ok (.aload_n 0, 1) := by decide +kernel
theorem dX7_firstDraft_27 : decode cX7_firstDraft 27 = .ok (.iconst 0, 1) := by decide +kernel
theorem dX7_firstDraft_28 : decode cX7_firstDraft 28 = .ok (.putfield 54, 3) := by decide +kernel
theorem dX7_firstDraft_31 : decode cX7_firstDraft 31 = .ok (.aload_n 0, 1) := by decide +kernel
theorem dX7_firstDraft_32 : decode cX7_firstDraft 32 = .ok (.iconst 0, 1) := by decide +kernel
theorem dX7_firstDraft_33 : decode cX7_firstDraft 33 = .ok (.putfield 57, 3) := by decide +kernel
theorem dX7_firstDraft_36 : decode cX7_firstDraft 36 = .ok (.aload_n 0, 1) := by decide +kernel
theorem dX7_firstDraft_37 : decode cX7_firstDraft 37 = .ok (.iconst 0, 1) := by decide +kernel
theorem dX7_firstDraft_38 : decode cX7_firstDraft 38 = .ok (.putfield 61, 3) := by decide +kernel
theorem dX7_firstDraft_41 : decode cX7_firstDraft 41 = .ok (.aload_n 0, 1) := by decide +kernel
theorem dX7_firstDraft_42 : decode cX7_firstDraft 42 = .ok (.iconst 0, 1) := by decide +kernel
theorem dX7_firstDraft_43 : decode cX7_firstDraft 43 = .ok (.putfield 64, 3) := by decide +kernel
theorem dX7_firstDraft_46 : decode cX7_firstDraft 46 = .ok (.return_, 1) := by decide +kernel
theorem dX7_keepDraft_0 : decode cX7_keepDraft 0 = .ok (.iconst 0, 1) := by decide +kernel
theorem dX7_keepDraft_1 : decode cX7_keepDraft 1 = .ok (.istore_n 1, 1) := by decide +kernel
theorem dX7_keepDraft_2 : decode cX7_keepDraft 2 = .ok (.iload_n 1, 1) := by decide +kernel
theorem dX7_keepDraft_3 : decode cX7_keepDraft 3 = .ok (.bipush 57, 2) := by decide +kernel
theorem dX7_keepDraft_5 : decode cX7_keepDraft 5 = .ok (.if_icmp .ge 21, 3) := by decide +kernel
theorem dX7_keepDraft_8 : decode cX7_keepDraft 8 = .ok (.aload_n 0, 1) := by decide +kernel
theorem dX7_keepDraft_9 : decode cX7_keepDraft 9 = .ok (.getfield 7, 3) := by decide +kernel
theorem dX7_keepDraft_12 : decode cX7_keepDraft 12 = .ok (.iload_n 1, 1) := by decide +kernel
theorem dX7_keepDraft_13 : decode cX7_keepDraft 13 = .ok (.aload_n 0, 1) := by decide +kernel
theorem dX7_keepDraft_14 : decode cX7_keepDraft 14 = .ok (.getfield 20, 3) := by decide +kernel
theorem dX7_keepDraft_17 : decode cX7_keepDraft 17 = .ok (.iload_n 1, 1) := by decide +kernel
theorem dX7_keepDraft_18 : decode cX7_keepDraft 18 = .ok (.iaload, 1) := by decide +kernel
theorem dX7_keepDraft_19 : decode cX7_keepDraft 19 = .ok (.iastore, 1) := by decide +kernel
theorem dX7_keepDraft_20 : decode cX7_keepDraft 20 = .ok (.iinc 1 1, 3) := by decide +kernel
theorem dX7_keepDraft_23 : decode cX7_keepDraft 23 = .ok (.goto (-21), 3) := by decide +kernel
theorem dX7_keepDraft_26 : decode cX7_keepDraft 26 = .ok (.aload_n 0, 1) := by decide +kernel
theorem dX7_keepDraft_27 : decode cX7_keepDraft 27 = .ok (.aload_n 0, 1) := by decide +kernel
theorem dX7_keepDraft_28 : decode cX7_keepDraft 28 = .ok (.getfield 50, 3) := by decide +kernel
theorem dX7_keepDraft_31 : decode cX7_keepDraft 31 = .ok (.putfield 67, 3) := by decide +kernel
theorem dX7_keepDraft_34 : decode cX7_keepDraft 34 = .ok (.aload_n 0, 1) := by decide +kernel
theorem dX7_keepDraft_35 : decode cX7_keepDraft 35 = .ok (.getfield 16, 3) := by decide +kernel
theorem dX7_keepDraft_38 : decode cX7_keepDraft 38 = .ok (.iconst 0, 1) := by decide +kernel
theorem dX7_keepDraft_39 : decode cX7_keepDraft 39 = .ok (.iconst 0, 1) := by decide +kernel
theorem dX7_keepDraft_40 : decode cX7_keepDraft 40 = .ok (.bastore, 1) := by decide +kernel
theorem dX7_keepDraft_41 : decode cX7_keepDraft 41 = .ok (.aload_n 0, 1) := by decide +kernel
theorem dX7_keepDraft_42 : decode cX7_keepDraft 42 = .ok (.getfield 16, 3) := by decide +kernel
theorem dX7_keepDraft_45 : decode cX7_keepDraft 45 = .ok (.iconst 1, 1) := by decide +kernel
theorem dX7_keepDraft_46 : decode cX7_keepDraft 46 = .ok (.iconst 0, 1) := by decide +kernel
theorem dX7_keepDraft_47 : decode cX7_keepDraft 47 = .ok (.bastore, 1) := by decide +kernel
theorem dX7_keepDraft_48 : decode cX7_keepDraft 48 = .ok (.return_, 1) := by decide +kernel
theorem dX7_feed_0 : decode cX7_feed 0 = .ok (.iload_n 1, 1) := by decide +kernel
theorem dX7_feed_1 : decode cX7_feed 1 = .ok (.i2l, 1) := by decide +kernel
theorem dX7_feed_2 : decode cX7_feed 2 = .ok (.lconst 0, 1) := by decide +kernel
theorem dX7_feed_3 : decode cX7_feed 3 = .ok (.ldc2_w 70, 3) := by decide +kernel
theorem dX7_feed_6 : decode cX7_feed 6 = .ok (.invokestatic 72, 3) := by decide +kernel
theorem dX7_feed_9 : decode cX7_feed 9 = .ok (.ifCond .ne 5, 3) := by decide +kernel
theorem dX7_feed_12 : decode cX7_feed 12 = .ok (.iconst (-1), 1) := by decide +kernel
theorem dX7_feed_13 : decode cX7_feed 13 = .ok (.ireturn, 1) := by decide +kernel
theorem dX7_feed_14 : decode cX7_feed 14 = .ok (.aload_n 0, 1) := by decide +kernel
theorem dX7_feed_15 : decode cX7_feed 15 = .ok (.getfield 76, 3) := by decide +kernel
theorem dX7_feed_18 : decode cX7_feed 18 = .ok (.sipush 160, 3) := by decide +kernel
theorem dX7_feed_21 : decode cX7_feed 21 = .ok (.if_icmp .ne 6, 3) := by decide +kernel
theorem dX7_feed_24 : decode cX7_feed 24 = .ok (.bipush (-3), 2) := by decide +kernel
theorem dX7_feed_26 : decode cX7_feed 26 = .ok (.ireturn, 1) := by decide +kernel
theorem dX7_feed_27 : decode cX7_feed 27 = .ok (.aload_n 0, 1) := by decide +kernel
theorem dX7_feed_28 : decode cX7_feed 28 = .ok (.getfield 23, 3) := by decide +kernel
theorem dX7_feed_31 : decode cX7_feed 31 = .ok (.aload_n 0, 1) := by decide +kernel
theorem dX7_feed_32 : decode cX7_feed 32 = .ok (.getfield 76, 3) := by decide +kernel
theorem dX7_feed_35 : decode cX7_feed 35 = .ok (.iload_n 1, 1) := by decide +kernel
theorem dX7_feed_36 : decode cX7_feed 36 = .ok (.iastore, 1) := by decide +kernel
theorem dX7_feed_37 : decode cX7_feed 37 = .ok (.aload_n 0, 1) := by decide +kernel
theorem dX7_feed_38 : decode cX7_feed 38 = .ok (.dup, 1) := by decide +kernel
theorem dX7_feed_39 : decode cX7_feed 39 = .ok (.getfield 76, 3) := by decide +kernel
theorem dX7_feed_42 : decode cX7_feed 42 = .ok (.iconst 1, 1) := by decide +kernel
theorem dX7_feed_43 : decode cX7_feed 43 = .ok (.iadd, 1) := by decide +kernel
theorem dX7_feed_44 : decode cX7_feed 44 = .ok (.putfield 76, 3) := by decide +kernel
theorem dX7_feed_47 : decode cX7_feed 47 = .ok (.aload_n 0, 1) := by decide +kernel
theorem dX7_feed_48 : decode cX7_feed 48 = .ok (.getfield 76, 3) := by decide +kernel
theorem dX7_feed_51 : decode cX7_feed 51 = .ok (.ireturn, 1) := by decide +kernel
theorem dX7_end_0 : decode cX7_end 0 = .ok (.iload_n 1, 1) := by decide +kernel
theorem dX7_end_1 : decode cX7_end 1 = .ok (.i2l, 1) := by decide +kernel
theorem dX7_end_2 : decode cX7_end 2 = .ok (.lconst 0, 1) := by decide +kernel
theorem dX7_end_3 : decode cX7_end 3 = .ok (.aload_n 0, 1) := by decide +kernel
theorem dX7_end_4 : decode cX7_end 4 = .ok (.getfield 76, 3) := by decide +kernel
theorem dX7_end_7 : decode cX7_end 7 = .ok (.i2l, 1) := by decide +kernel
theorem dX7_end_8 : decode cX7_end 8 = .ok (.invokestatic 72, 3) := by decide +kernel
theorem dX7_end_11 : decode cX7_end 11 = .ok (.ifCond .ne 5, 3) := by decide +kernel
theorem dX7_end_14 : decode cX7_end 14 = .ok (.iconst (-1), 1) := by decide +kernel
theorem dX7_end_15 : decode cX7_end 15 = .ok (.ireturn, 1) := by decide +kernel
theorem dX7_end_16 : decode cX7_end 16 = .ok (.aload_n 0, 1) := by decide +kernel
theorem dX7_end_17 : decode cX7_end 17 = .ok (.getfield 76, 3) := by decide +kernel
theorem dX7_end_20 : decode cX7_end 20 = .ok (.istore_n 2, 1) := by decide +kernel
theorem dX7_end_21 : decode cX7_end 21 = .ok (.aload_n 0, 1) := by decide +kernel
theorem dX7_end_22 : decode cX7_end 22 = .ok (.iload_n 1, 1) := by decide +kernel
theorem dX7_end_23 : decode cX7_end 23 = .ok (.putfield 76, 3) := by decide +kernel
theorem dX7_end_26 : decode cX7_end 26 = .ok (.iload_n 2, 1) := by decide +kernel
theorem dX7_end_27 : decode cX7_end 27 = .ok (.ireturn, 1) := by decide +kernel
theorem dX7_requires_0 : decode cX7_requires 0 = .ok (.iload_n 1, 1) := by decide +kernel
theorem dX7_requires_1 : decode cX7_requires 1 = .ok (.ifCond .ne 23, 3) := by decide +kernel
theorem dX7_requires_4 : decode cX7_requires 4 = .ok (.aload_n 0, 1) := by decide +kernel
theorem dX7_requires_5 : decode cX7_requires 5 = .ok (.getfield 79, 3) := by decide +kernel
theorem dX7_requires_8 : decode cX7_requires 8 = .ok (.ifCond .ne 16, 3) := by decide +kernel
theorem dX7_requires_11 : decode cX7_requires 11 = .ok (.aload_n 0, 1) := by decide +kernel
theorem dX7_requires_12 : decode cX7_requires 12 = .ok (.iload_n 2, 1) := by decide +kernel
theorem dX7_requires_13 : decode cX7_requires 13 = .ok (.putfield 79, 3) := by decide +kernel
theorem dX7_requires_16 : decode cX7_requires 16 = .ok (.aload_n 0, 1) := by decide +kernel
theorem dX7_requires_17 : decode cX7_requires 17 = .ok (.aload_n 0, 1) := by decide +kernel
theorem dX7_requires_18 : decode cX7_requires 18 = .ok (.getfield 82, 3) := by decide +kernel
theorem dX7_requires_21 : decode cX7_requires 21 = .ok (.putfield 85, 3) := by decide +kernel
theorem dX7_requires_24 : decode cX7_requires 24 = .ok (.return_, 1) := by decide +kernel
theorem dX7_byteAt_0 : decode cX7_byteAt 0 = .ok (.iload_n 1, 1) := by decide +kernel
theorem dX7_byteAt_1 : decode cX7_byteAt 1 = .ok (.aload_n 0, 1) := by decide +kernel
theorem dX7_byteAt_2 : decode cX7_byteAt 2 = .ok (.getfield 76, 3) := by decide +kernel
theorem dX7_byteAt_5 : decode cX7_byteAt 5 = .ok (.if_icmp .ge 12, 3) := by decide +kernel
theorem dX7_byteAt_8 : decode cX7_byteAt 8 = .ok (.aload_n 0, 1) := by decide +kernel
theorem dX7_byteAt_9 : decode cX7_byteAt 9 = .ok (.getfield 23, 3) := by decide +kernel
theorem dX7_byteAt_12 : decode cX7_byteAt 12 = .ok (.iload_n 1, 1) := by decide +kernel
theorem dX7_byteAt_13 : decode cX7_byteAt 13 = .ok (.iaload, 1) := by decide +kernel
theorem dX7_byteAt_14 : decode cX7_byteAt 14 = .ok (.goto 4, 3) := by decide +kernel
theorem dX7_byteAt_17 : decode cX7_byteAt 17 = .ok (.iconst (-1), 1) := by decide +kernel
theorem dX7_byteAt_18 : decode cX7_byteAt 18 = .ok (.ireturn, 1) := by decide +kernel
theorem dX7_is_0 : decode cX7_is 0 = .ok (.aload_n 0, 1) := by decide +kernel
theorem dX7_is_1 : decode cX7_is 1 = .ok (.getfield 88, 3) := by decide +kernel
theorem dX7_is_4 : decode cX7_is 4 = .ok (.aload_n 0, 1) := by decide +kernel
theorem dX7_is_5 : decode cX7_is 5 = .ok (.getfield 82, 3) := by decide +kernel
theorem dX7_is_8 : decode cX7_is 8 = .ok (.isub, 1) := by decide +kernel
theorem dX7_is_9 : decode cX7_is 9 = .ok (.iload_n 1, 1) := by decide +kernel
theorem dX7_is_10 : decode cX7_is 10 = .ok (.if_icmp .ne 48, 3) := by decide +kernel
theorem dX7_is_13 : decode cX7_is 13 = .ok (.aload_n 0, 1) := by decide +kernel
theorem dX7_is_14 : decode cX7_is 14 = .ok (.aload_n 0, 1) := by decide +kernel
theorem dX7_is_15 : decode cX7_is 15 = .ok (.getfield 82, 3) := by decide +kernel
theorem dX7_is_18 : decode cX7_is 18 = .ok (.invokevirtual 91, 3) := by decide +kernel
theorem dX7_is_21 : decode cX7_is 21 = .ok (.iload_n 2, 1) := by decide +kernel
theorem dX7_is_22 : decode cX7_is 22 = .ok (.if_icmp .ne 36, 3) := by decide +kernel
theorem dX7_is_25 : decode cX7_is 25 = .ok (.aload_n 0, 1) := by decide +kernel
theorem dX7_is_26 : decode cX7_is 26 = .ok (.aload_n 0, 1) := by decide +kernel
theorem dX7_is_27 : decode cX7_is 27 = .ok (.getfield 82, 3) := by decide +kernel
theorem dX7_is_30 : decode cX7_is 30 = .ok (.iconst 1, 1) := by decide +kernel
theorem dX7_is_31 : decode cX7_is 31 = .ok (.iadd, 1) := by decide +kernel
theorem dX7_is_32 : decode cX7_is 32 = .ok (.invokevirtual 91, 3) := by decide +kernel
theorem dX7_is_35 : decode cX7_is 35 = .ok (.iload_n 3, 1) := by decide +kernel
theorem dX7_is_36 : decode cX7_is 36 = .ok (.if_icmp .ne 22, 3) := by decide +kernel
theorem dX7_is_39 : decode cX7_is 39 = .ok (.aload_n 0, 1) := by decide +kernel
theorem dX7_is_40 : decode cX7_is 40 = .ok (.aload_n 0, 1) := by decide +kernel
theorem dX7_is_41 : decode cX7_is 41 = .ok (.getfield 82, 3) := by decide +kernel
theorem dX7_is_44 : decode cX7_is 44 = .ok (.iconst 2, 1) := by decide +kernel
theorem dX7_is_45 : decode cX7_is 45 = .ok (.iadd, 1) := by decide +kernel
theorem dX7_is_46 : decode cX7_is 46 = .ok (.invokevirtual 91, 3) := by decide +kernel
theorem dX7_is_49 : decode cX7_is 49 = .ok (.iload 4, 2) := by decide +kernel
theorem dX7_is_51 : decode cX7_is 51 = .ok (.if_icmp .ne 7, 3) := by decide +kernel
theorem dX7_is_54 : decode cX7_is 54 = .ok (.iconst 1, 1) := by decide +kernel
theorem dX7_is_55 : decode cX7_is 55 = .ok (.goto 4, 3) := by decide +kernel
theorem dX7_is_58 : decode cX7_is 58 = .ok (.iconst 0, 1) := by decide +kernel
theorem dX7_is_59 : decode cX7_is 59 = .ok (.ireturn, 1) := by decide +kernel
theorem dX7_endsIn_0 : decode cX7_endsIn 0 = .ok (.aload_n 0, 1) := by decide +kernel
theorem dX7_endsIn_1 : decode cX7_endsIn 1 = .ok (.aload_n 0, 1) := by decide +kernel
theorem dX7_endsIn_2 : decode cX7_endsIn 2 = .ok (.getfield 82, 3) := by decide +kernel
theorem dX7_endsIn_5 : decode cX7_endsIn 5 = .ok (.iconst 3, 1) := by decide +kernel
theorem dX7_endsIn_6 : decode cX7_endsIn 6 = .ok (.iadd, 1) := by decide +kernel
theorem dX7_endsIn_7 : decode cX7_endsIn 7 = .ok (.invokevirtual 91, 3) := by decide +kernel
theorem dX7_endsIn_10 : decode cX7_endsIn 10 = .ok (.iload_n 1, 1) := by decide +kernel
theorem dX7_endsIn_11 : decode cX7_endsIn 11 = .ok (.if_icmp .ne 43, 3) := by decide +kernel
theorem dX7_endsIn_14 : decode cX7_endsIn 14 = .ok (.iload_n 2, 1) := by decide +kernel
theorem dX7_endsIn_15 : decode cX7_endsIn 15 = .ok (.ifCond .eq 17, 3) := by decide +kernel
theorem dX7_endsIn_18 : decode cX7_endsIn 18 = .ok (.aload_n 0, 1) := by decide +kernel
theorem dX7_endsIn_19 : decode cX7_endsIn 19 = .ok (.aload_n 0, 1) := by decide +kernel
theorem dX7_endsIn_20 : decode cX7_endsIn 20 = .ok (.getfield 82, 3) := by decide +kernel
theorem dX7_endsIn_23 : decode cX7_endsIn 23 = .ok (.iconst 4, 1) := by decide +kernel
theorem dX7_endsIn_24 : decode cX7_endsIn 24 = .ok (.iadd, 1) := by decide +kernel
theorem dX7_endsIn_25 : decode cX7_endsIn 25 = .ok (.invokevirtual 91, 3) := by decide +kernel
theorem dX7_endsIn_28 : decode cX7_endsIn 28 = .ok (.iload_n 2, 1) := by decide +kernel
theorem dX7_endsIn_29 : decode cX7_endsIn 29 = .ok (.if_icmp .ne 25, 3) := by decide +kernel
theorem dX7_endsIn_32 : decode cX7_endsIn 32 = .ok (.iload_n 3, 1) := by decide +kernel
theorem dX7_endsIn_33 : decode cX7_endsIn 33 = .ok (.ifCond .eq 17, 3) := by decide +kernel
theorem dX7_endsIn_36 : decode cX7_endsIn 36 = .ok (.aload_n 0, 1) := by decide +kernel
theorem dX7_endsIn_37 : decode cX7_endsIn 37 = .ok (.aload_n 0, 1) := by decide +kernel
theorem dX7_endsIn_38 : decode cX7_endsIn 38 = .ok (.getfield 82, 3) := by decide +kernel
theorem dX7_endsIn_41 : decode cX7_endsIn 41 = .ok (.iconst 5, 1) := by decide +kernel
theorem dX7_endsIn_42 : decode cX7_endsIn 42 = .ok (.iadd, 1) := by decide +kernel
theorem dX7_endsIn_43 : decode cX7_endsIn 43 = .ok (.invokevirtual 91, 3) := by decide +kernel
theorem dX7_endsIn_46 : decode cX7_endsIn 46 = .ok (.iload_n 3, 1) := by decide +kernel
theorem dX7_endsIn_47 : decode cX7_endsIn 47 = .ok (.if_icmp .ne 7, 3) := by decide +kernel
theorem dX7_endsIn_50 : decode cX7_endsIn 50 = .ok (.iconst 1, 1) := by decide +kernel
theorem dX7_endsIn_51 : decode cX7_endsIn 51 = .ok (.goto 4, 3) := by decide +kernel
theorem dX7_endsIn_54 : decode cX7_endsIn 54 = .ok (.iconst 0, 1) := by decide +kernel
theorem dX7_endsIn_55 : decode cX7_endsIn 55 = .ok (.ireturn, 1) := by decide +kernel
theorem dX7_lineNow_0 : decode cX7_lineNow 0 = .ok (.aload_n 0, 1) := by decide +kernel
theorem dX7_lineNow_1 : decode cX7_lineNow 1 = .ok (.bipush 6, 2) := by decide +kernel
theorem dX7_lineNow_3 : decode cX7_lineNow 3 = .ok (.bipush 115, 2) := by decide +kernel
theorem dX7_lineNow_5 : decode cX7_lineNow 5 = .ok (.bipush 105, 2) := by decide +kernel
theorem dX7_lineNow_7 : decode cX7_lineNow 7 = .ok (.bipush 103, 2) := by decide +kernel
theorem dX7_lineNow_9 : decode cX7_lineNow 9 = .ok (.invokevirtual 95, 3) := by decide +kernel
theorem dX7_lineNow_12 : decode cX7_lineNow 12 = .ok (.ifCond .eq 18, 3) := by decide +kernel
theorem dX7_lineNow_15 : decode cX7_lineNow 15 = .ok (.aload_n 0, 1) := by decide +kernel
theorem dX7_lineNow_16 : decode cX7_lineNow 16 = .ok (.bipush 110, 2) := by decide +kernel
theorem dX7_lineNow_18 : decode cX7_lineNow 18 = .ok (.bipush 101, 2) := by decide +kernel
theorem dX7_lineNow_20 : decode cX7_lineNow 20 = .ok (.bipush 114, 2) := by decide +kernel
theorem dX7_lineNow_22 : decode cX7_lineNow 22 = .ok (.invokevirtual 99, 3) := by decide +kernel
theorem dX7_lineNow_25 : decode cX7_lineNow 25 = .ok (.ifCond .eq 5, 3) := by decide +kernel
theorem dX7_lineNow_28 : decode cX7_lineNow 28 = .ok (.iconst 0, 1) := by decide +kernel
theorem dX7_lineNow_29 : decode cX7_lineNow 29 = .ok (.ireturn, 1) := by decide +kernel
theorem dX7_lineNow_30 : decode cX7_lineNow 30 = .ok (.aload_n 0, 1) := by decide +kernel
theorem dX7_lineNow_31 : decode cX7_lineNow 31 = .ok (.bipush 6, 2) := by decide +kernel
theorem dX7_lineNow_33 : decode cX7_lineNow 33 = .ok (.bipush 100, 2) := by decide +kernel
theorem dX7_lineNow_35 : decode cX7_lineNow 35 = .ok (.bipush 97, 2) := by decide +kernel
theorem dX7_lineNow_37 : decode cX7_lineNow 37 = .ok (.bipush 110, 2) := by decide +kernel
theorem dX7_lineNow_39 : decode cX7_lineNow 39 = .ok (.invokevirtual 95, 3) := by decide +kernel
theorem dX7_lineNow_42 : decode cX7_lineNow 42 = .ok (.ifCond .eq 18, 3) := by decide +kernel
theorem dX7_lineNow_45 : decode cX7_lineNow 45 = .ok (.aload_n 0, 1) := by decide +kernel
theorem dX7_lineNow_46 : decode cX7_lineNow 46 = .ok (.bipush 99, 2) := by decide +kernel
theorem dX7_lineNow_48 : decode cX7_lineNow 48 = .ok (.bipush 101, 2) := by decide +kernel
theorem dX7_lineNow_50 : decode cX7_lineNow 50 = .ok (.bipush 114, 2) := by decide +kernel
theorem dX7_lineNow_52 : decode cX7_lineNow 52 = .ok (.invokevirtual 99, 3) := by decide +kernel
theorem dX7_lineNow_55 : decode cX7_lineNow 55 = .ok (.ifCond .eq 5, 3) := by decide +kernel
theorem dX7_lineNow_58 : decode cX7_lineNow 58 = .ok (.iconst 1, 1) := by decide +kernel
theorem dX7_lineNow_59 : decode cX7_lineNow 59 = .ok (.ireturn, 1) := by decide +kernel
theorem dX7_lineNow_60 : decode cX7_lineNow 60 = .ok (.aload_n 0, 1) := by decide +kernel
theorem dX7_lineNow_61 : decode cX7_lineNow 61 = .ok (.iconst 3, 1) := by decide +kernel
theorem dX7_lineNow_62 : decode cX7_lineNow 62 = .ok (.bipush 115, 2) := by decide +kernel
theorem dX7_lineNow_64 : decode cX7_lineNow 64 = .ok (.bipush 104, 2) := by decide +kernel
theorem dX7_lineNow_66 : decode cX7_lineNow 66 = .ok (.bipush 121, 2) := by decide +kernel
theorem dX7_lineNow_68 : decode cX7_lineNow 68 = .ok (.invokevirtual 95, 3) := by decide +kernel
theorem dX7_lineNow_71 : decode cX7_lineNow 71 = .ok (.ifCond .eq 5, 3) := by decide +kernel
theorem dX7_lineNow_74 : decode cX7_lineNow 74 = .ok (.iconst 2, 1) := by decide +kernel
theorem dX7_lineNow_75 : decode cX7_lineNow 75 = .ok (.ireturn, 1) := by decide +kernel
theorem dX7_lineNow_76 : decode cX7_lineNow 76 = .ok (.aload_n 0, 1) := by decide +kernel
theorem dX7_lineNow_77 : decode cX7_lineNow 77 = .ok (.iconst 4, 1) := by decide +kernel
theorem dX7_lineNow_78 : decode cX7_lineNow 78 = .ok (.bipush 98, 2) := by decide +kernel
theorem dX7_lineNow_80 : decode cX7_lineNow 80 = .ok (.bipush 111, 2) := by decide +kernel
theorem dX7_lineNow_82 : decode cX7_lineNow 82 = .ok (.bipush 108, 2) := by decide +kernel
theorem dX7_lineNow_84 : decode cX7_lineNow 84 = .ok (.invokevirtual 95, 3) := by decide +kernel
theorem dX7_lineNow_87 : decode cX7_lineNow 87 = .ok (.ifCond .eq 16, 3) := by decide +kernel
theorem dX7_lineNow_90 : decode cX7_lineNow 90 = .ok (.aload_n 0, 1) := by decide +kernel
theorem dX7_lineNow_91 : decode cX7_lineNow 91 = .ok (.bipush 100, 2) := by decide +kernel
theorem dX7_lineNow_93 : decode cX7_lineNow 93 = .ok (.iconst 0, 1) := by decide +kernel
theorem dX7_lineNow_94 : decode cX7_lineNow 94 = .ok (.iconst 0, 1) := by decide +kernel
theorem dX7_lineNow_95 : decode cX7_lineNow 95 = .ok (.invokevirtual 99, 3) := by decide +kernel
theorem dX7_lineNow_98 : decode cX7_lineNow 98 = .ok (.ifCond .eq 5, 3) := by decide +kernel
theorem dX7_lineNow_101 : decode cX7_lineNow 101 = .ok (.iconst 3, 1) := by decide +kernel
theorem dX7_lineNow_102 : decode cX7_lineNow 102 = .ok (.ireturn, 1) := by decide +kernel
theorem dX7_lineNow_103 : decode cX7_lineNow 103 = .ok (.aload_n 0, 1) := by decide +kernel
theorem dX7_lineNow_104 : decode cX7_lineNow 104 = .ok (.iconst 4, 1) := by decide +kernel
theorem dX7_lineNow_105 : decode cX7_lineNow 105 = .ok (.bipush 102, 2) := by decide +kernel
theorem dX7_lineNow_107 : decode cX7_lineNow 107 = .ok (.bipush 97, 2) := by decide +kernel
theorem dX7_lineNow_109 : decode cX7_lineNow 109 = .ok (.bipush 109, 2) := by decide +kernel
theorem dX7_lineNow_111 : decode cX7_lineNow 111 = .ok (.invokevirtual 95, 3) := by decide +kernel
theorem dX7_lineNow_114 : decode cX7_lineNow 114 = .ok (.ifCond .eq 16, 3) := by decide +kernel
theorem dX7_lineNow_117 : decode cX7_lineNow 117 = .ok (.aload_n 0, 1) := by decide +kernel
theorem dX7_lineNow_118 : decode cX7_lineNow 118 = .ok (.bipush 101, 2) := by decide +kernel
theorem dX7_lineNow_120 : decode cX7_lineNow 120 = .ok (.iconst 0, 1) := by decide +kernel
theorem dX7_lineNow_121 : decode cX7_lineNow 121 = .ok (.iconst 0, 1) := by decide +kernel
theorem dX7_lineNow_122 : decode cX7_lineNow 122 = .ok (.invokevirtual 99, 3) := by decide +kernel
theorem dX7_lineNow_125 : decode cX7_lineNow 125 = .ok (.ifCond .eq 5, 3) := by decide +kernel
theorem dX7_lineNow_128 : decode cX7_lineNow 128 = .ok (.iconst 4, 1) := by decide +kernel
theorem dX7_lineNow_129 : decode cX7_lineNow 129 = .ok (.ireturn, 1) := by decide +kernel
theorem dX7_lineNow_130 : decode cX7_lineNow 130 = .ok (.aload_n 0, 1) := by decide +kernel
theorem dX7_lineNow_131 : decode cX7_lineNow 131 = .ok (.iconst 5, 1) := by decide +kernel
theorem dX7_lineNow_132 : decode cX7_lineNow 132 = .ok (.bipush 114, 2) := by decide +kernel
theorem dX7_lineNow_134 : decode cX7_lineNow 134 = .ok (.bipush 111, 2) := by decide +kernel
theorem dX7_lineNow_136 : decode cX7_lineNow 136 = .ok (.bipush 117, 2) := by decide +kernel
theorem dX7_lineNow_138 : decode cX7_lineNow 138 = .ok (.invokevirtual 95, 3) := by decide +kernel
theorem dX7_lineNow_141 : decode cX7_lineNow 141 = .ok (.ifCond .eq 19, 3) := by decide +kernel
theorem dX7_lineNow_144 : decode cX7_lineNow 144 = .ok (.aload_n 0, 1) := by decide +kernel
theorem dX7_lineNow_145 : decode cX7_lineNow 145 = .ok (.bipush 116, 2) := by decide +kernel
theorem dX7_lineNow_147 : decode cX7_lineNow 147 = .ok (.bipush 101, 2) := by decide +kernel
theorem dX7_lineNow_149 : decode cX7_lineNow 149 = .ok (.iconst 0, 1) := by decide +kernel
theorem dX7_lineNow_150 : decode cX7_lineNow 150 = .ok (.invokevirtual 99, 3) := by decide +kernel
theorem dX7_lineNow_153 : decode cX7_lineNow 153 = .ok (.ifCond .eq 7, 3) := by decide +kernel
theorem dX7_lineNow_156 : decode cX7_lineNow 156 = .ok (.iconst 5, 1) := by decide +kernel
theorem dX7_lineNow_157 : decode cX7_lineNow 157 = .ok (.goto 24, 3) := by decide +kernel
theorem dX7_lineNow_160 : decode cX7_lineNow 160 = .ok (.aload_n 0, 1) := by decide +kernel
theorem dX7_lineNow_161 : decode cX7_lineNow 161 = .ok (.iconst 3, 1) := by decide +kernel
theorem dX7_lineNow_162 : decode cX7_lineNow 162 = .ok (.bipush 109, 2) := by decide +kernel
theorem dX7_lineNow_164 : decode cX7_lineNow 164 = .ok (.bipush 97, 2) := by decide +kernel
theorem dX7_lineNow_166 : decode cX7_lineNow 166 = .ok (.bipush 110, 2) := by decide +kernel
theorem dX7_lineNow_168 : decode cX7_lineNow 168 = .ok (.invokevirtual 95, 3) := by decide +kernel
theorem dX7_lineNow_171 : decode cX7_lineNow 171 = .ok (.ifCond .eq 8, 3) := by decide +kernel
theorem dX7_lineNow_174 : decode cX7_lineNow 174 = .ok (.bipush 6, 2) := by decide +kernel
theorem dX7_lineNow_176 : decode cX7_lineNow 176 = .ok (.goto 5, 3) := by decide +kernel
theorem dX7_lineNow_179 : decode cX7_lineNow 179 = .ok (.bipush (-4), 2) := by decide +kernel
theorem dX7_lineNow_181 : decode cX7_lineNow 181 = .ok (.ireturn, 1) := by decide +kernel
theorem dX7_reads_0 : decode cX7_reads 0 = .ok (.aload_n 0, 1) := by decide +kernel
theorem dX7_reads_1 : decode cX7_reads 1 = .ok (.getfield 79, 3) := by decide +kernel
theorem dX7_reads_4 : decode cX7_reads 4 = .ok (.ifCond .le 4, 3) := by decide +kernel
theorem dX7_reads_7 : decode cX7_reads 7 = .ok (.return_, 1) := by decide +kernel
theorem dX7_reads_8 : decode cX7_reads 8 = .ok (.aload_n 0, 1) := by decide +kernel
theorem dX7_reads_9 : decode cX7_reads 9 = .ok (.aload_n 0, 1) := by decide +kernel
theorem dX7_reads_10 : decode cX7_reads 10 = .ok (.getfield 88, 3) := by decide +kernel
theorem dX7_reads_13 : decode cX7_reads 13 = .ok (.invokevirtual 91, 3) := by decide +kernel
theorem dX7_reads_16 : decode cX7_reads 16 = .ok (.bipush 32, 2) := by decide +kernel
theorem dX7_reads_18 : decode cX7_reads 18 = .ok (.if_icmp .ne 16, 3) := by decide +kernel
theorem dX7_reads_21 : decode cX7_reads 21 = .ok (.aload_n 0, 1) := by decide +kernel
theorem dX7_reads_22 : decode cX7_reads 22 = .ok (.dup, 1) := by decide +kernel
theorem dX7_reads_23 : decode cX7_reads 23 = .ok (.getfield 88, 3) := by decide +kernel
theorem dX7_reads_26 : decode cX7_reads 26 = .ok (.iconst 1, 1) := by decide +kernel
theorem dX7_reads_27 : decode cX7_reads 27 = .ok (.iadd, 1) := by decide +kernel
theorem dX7_reads_28 : decode cX7_reads 28 = .ok (.putfield 88, 3) := by decide +kernel
theorem dX7_reads_31 : decode cX7_reads 31 = .ok (.goto (-23), 3) := by decide +kernel
theorem dX7_reads_34 : decode cX7_reads 34 = .ok (.aload_n 0, 1) := by decide +kernel
theorem dX7_reads_35 : decode cX7_reads 35 = .ok (.aload_n 0, 1) := by decide +kernel
theorem dX7_reads_36 : decode cX7_reads 36 = .ok (.getfield 88, 3) := by decide +kernel
theorem dX7_reads_39 : decode cX7_reads 39 = .ok (.putfield 82, 3) := by decide +kernel
theorem dX7_reads_42 : decode cX7_reads 42 = .ok (.aload_n 0, 1) := by decide +kernel
theorem dX7_reads_43 : decode cX7_reads 43 = .ok (.aload_n 0, 1) := by decide +kernel
theorem dX7_reads_44 : decode cX7_reads 44 = .ok (.getfield 88, 3) := by decide +kernel
theorem dX7_reads_47 : decode cX7_reads 47 = .ok (.invokevirtual 91, 3) := by decide +kernel
theorem dX7_reads_50 : decode cX7_reads 50 = .ok (.istore_n 1, 1) := by decide +kernel
theorem dX7_reads_51 : decode cX7_reads 51 = .ok (.iload_n 1, 1) := by decide +kernel
theorem dX7_reads_52 : decode cX7_reads 52 = .ok (.ifCond .ge 11, 3) := by decide +kernel
theorem dX7_reads_55 : decode cX7_reads 55 = .ok (.aload_n 0, 1) := by decide +kernel
theorem dX7_reads_56 : decode cX7_reads 56 = .ok (.iconst 0, 1) := by decide +kernel
theorem dX7_reads_57 : decode cX7_reads 57 = .ok (.putfield 103, 3) := by decide +kernel
theorem dX7_reads_60 : decode cX7_reads 60 = .ok (.goto 214, 3) := by decide +kernel
theorem dX7_reads_63 : decode cX7_reads 63 = .ok (.iload_n 1, 1) := by decide +kernel
theorem dX7_reads_64 : decode cX7_reads 64 = .ok (.i2l, 1) := by decide +kernel
theorem dX7_reads_65 : decode cX7_reads 65 = .ok (.ldc2_w 106, 3) := by decide +kernel
theorem dX7_reads_68 : decode cX7_reads 68 = .ok (.ldc2_w 108, 3) := by decide +kernel
theorem dX7_reads_71 : decode cX7_reads 71 = .ok (.invokestatic 72, 3) := by decide +kernel
theorem dX7_reads_74 : decode cX7_reads 74 = .ok (.ifCond .eq 42, 3) := by decide +kernel
theorem dX7_reads_77 : decode cX7_reads 77 = .ok (.aload_n 0, 1) := by decide +kernel
theorem dX7_reads_78 : decode cX7_reads 78 = .ok (.iconst 1, 1) := by decide +kernel
theorem dX7_reads_79 : decode cX7_reads 79 = .ok (.putfield 103, 3) := by decide +kernel
theorem dX7_reads_82 : decode cX7_reads 82 = .ok (.aload_n 0, 1) := by decide +kernel
theorem dX7_reads_83 : decode cX7_reads 83 = .ok (.aload_n 0, 1) := by decide +kernel
theorem dX7_reads_84 : decode cX7_reads 84 = .ok (.getfield 88, 3) := by decide +kernel
theorem dX7_reads_87 : decode cX7_reads 87 = .ok (.invokevirtual 91, 3) := by decide +kernel
theorem dX7_reads_90 : decode cX7_reads 90 = .ok (.i2l, 1) := by decide +kernel
theorem dX7_reads_91 : decode cX7_reads 91 = .ok (.ldc2_w 106, 3) := by decide +kernel
theorem dX7_reads_94 : decode cX7_reads 94 = .ok (.ldc2_w 108, 3) := by decide +kernel
theorem dX7_reads_97 : decode cX7_reads 97 = .ok (.invokestatic 72, 3) := by decide +kernel
theorem dX7_reads_100 : decode cX7_reads 100 = .ok (.ifCond .eq 174, 3) := by decide +kernel
theorem dX7_reads_103 : decode cX7_reads 103 = .ok (.aload_n 0, 1) := by decide +kernel
theorem dX7_reads_104 : decode cX7_reads 104 = .ok (.dup, 1) := by decide +kernel
theorem dX7_reads_105 : decode cX7_reads 105 = .ok (.getfield 88, 3) := by decide +kernel
theorem dX7_reads_108 : decode cX7_reads 108 = .ok (.iconst 1, 1) := by decide +kernel
theorem dX7_reads_109 : decode cX7_reads 109 = .ok (.iadd, 1) := by decide +kernel
theorem dX7_reads_110 : decode cX7_reads 110 = .ok (.putfield 88, 3) := by decide +kernel
theorem dX7_reads_113 : decode cX7_reads 113 = .ok (.goto (-31), 3) := by decide +kernel
theorem dX7_reads_116 : decode cX7_reads 116 = .ok (.iload_n 1, 1) := by decide +kernel
theorem dX7_reads_117 : decode cX7_reads 117 = .ok (.i2l, 1) := by decide +kernel
theorem dX7_reads_118 : decode cX7_reads 118 = .ok (.ldc2_w 110, 3) := by decide +kernel
theorem dX7_reads_121 : decode cX7_reads 121 = .ok (.ldc2_w 112, 3) := by decide +kernel
theorem dX7_reads_124 : decode cX7_reads 124 = .ok (.invokestatic 72, 3) := by decide +kernel
theorem dX7_reads_127 : decode cX7_reads 127 = .ok (.ifCond .eq 116, 3) := by decide +kernel
theorem dX7_reads_130 : decode cX7_reads 130 = .ok (.aload_n 0, 1) := by decide +kernel
theorem dX7_reads_131 : decode cX7_reads 131 = .ok (.iconst 2, 1) := by decide +kernel
theorem dX7_reads_132 : decode cX7_reads 132 = .ok (.putfield 103, 3) := by decide +kernel
theorem dX7_reads_135 : decode cX7_reads 135 = .ok (.aload_n 0, 1) := by decide +kernel
theorem dX7_reads_136 : decode cX7_reads 136 = .ok (.iconst 0, 1) := by decide +kernel
theorem dX7_reads_137 : decode cX7_reads 137 = .ok (.putfield 114, 3) := by decide +kernel
theorem dX7_reads_140 : decode cX7_reads 140 = .ok (.aload_n 0, 1) := by decide +kernel
theorem dX7_reads_141 : decode cX7_reads 141 = .ok (.aload_n 0, 1) := by decide +kernel
theorem dX7_reads_142 : decode cX7_reads 142 = .ok (.getfield 88, 3) := by decide +kernel
theorem dX7_reads_145 : decode cX7_reads 145 = .ok (.invokevirtual 91, 3) := by decide +kernel
theorem dX7_reads_148 : decode cX7_reads 148 = .ok (.i2l, 1) := by decide +kernel
theorem dX7_reads_149 : decode cX7_reads 149 = .ok (.ldc2_w 110, 3) := by decide +kernel
theorem dX7_reads_152 : decode cX7_reads 152 = .ok (.ldc2_w 112, 3) := by decide +kernel
theorem dX7_reads_155 : decode cX7_reads 155 = .ok (.invokestatic 72, 3) := by decide +kernel
theorem dX7_reads_158 : decode cX7_reads 158 = .ok (.ifCond .eq 59, 3) := by decide +kernel
theorem dX7_reads_161 : decode cX7_reads 161 = .ok (.aload_n 0, 1) := by decide +kernel
theorem dX7_reads_162 : decode cX7_reads 162 = .ok (.aload_n 0, 1) := by decide +kernel
theorem dX7_reads_163 : decode cX7_reads 163 = .ok (.getfield 88, 3) := by decide +kernel
theorem dX7_reads_166 : decode cX7_reads 166 = .ok (.aload_n 0, 1) := by decide +kernel
theorem dX7_reads_167 : decode cX7_reads 167 = .ok (.getfield 82, 3) := by decide +kernel
theorem dX7_reads_170 : decode cX7_reads 170 = .ok (.isub, 1) := by decide +kernel
theorem dX7_reads_171 : decode cX7_reads 171 = .ok (.iconst 2, 1) := by decide +kernel
theorem dX7_reads_172 : decode cX7_reads 172 = .ok (.if_icmp .ge 25, 3) := by decide +kernel
theorem dX7_reads_175 : decode cX7_reads 175 = .ok (.bipush 10, 2) := by decide +kernel
theorem dX7_reads_177 : decode cX7_reads 177 = .ok (.aload_n 0, 1) := by decide +kernel
theorem dX7_reads_178 : decode cX7_reads 178 = .ok (.getfield 114, 3) := by decide +kernel
theorem dX7_reads_181 : decode cX7_reads 181 = .ok (.imul, 1) := by decide +kernel
theorem dX7_reads_182 : decode cX7_reads 182 = .ok (.aload_n 0, 1) := by decide +kernel
theorem dX7_reads_183 : decode cX7_reads 183 = .ok (.aload_n 0, 1) := by decide +kernel
theorem dX7_reads_184 : decode cX7_reads 184 = .ok (.getfield 88, 3) := by decide +kernel
theorem dX7_reads_187 : decode cX7_reads 187 = .ok (.invokevirtual 91, 3) := by decide +kernel
theorem dX7_reads_190 : decode cX7_reads 190 = .ok (.iadd, 1) := by decide +kernel
theorem dX7_reads_191 : decode cX7_reads 191 = .ok (.bipush 48, 2) := by decide +kernel
theorem dX7_reads_193 : decode cX7_reads 193 = .ok (.isub, 1) := by decide +kernel
theorem dX7_reads_194 : decode cX7_reads 194 = .ok (.goto 7, 3) := by decide +kernel
theorem dX7_reads_197 : decode cX7_reads 197 = .ok (.aload_n 0, 1) := by decide +kernel
theorem dX7_reads_198 : decode cX7_reads 198 = .ok (.getfield 114, 3) := by decide +kernel
theorem dX7_reads_201 : decode cX7_reads 201 = .ok (.putfield 114, 3) := by decide +kernel
theorem dX7_reads_204 : decode cX7_reads 204 = .ok (.aload_n 0, 1) := by decide +kernel
theorem dX7_reads_205 : decode cX7_reads 205 = .ok (.dup, 1) := by decide +kernel
theorem dX7_reads_206 : decode cX7_reads 206 = .ok (.getfield 88, 3) := by decide +kernel
theorem dX7_reads_209 : decode cX7_reads 209 = .ok (.iconst 1, 1) := by decide +kernel
theorem dX7_reads_210 : decode cX7_reads 210 = .ok (.iadd, 1) := by decide +kernel
theorem dX7_reads_211 : decode cX7_reads 211 = .ok (.putfield 88, 3) := by decide +kernel
theorem dX7_reads_214 : decode cX7_reads 214 = .ok (.goto (-74), 3) := by decide +kernel
theorem dX7_reads_217 : decode cX7_reads 217 = .ok (.aload_n 0, 1) := by decide +kernel
theorem dX7_reads_218 : decode cX7_reads 218 = .ok (.aload_n 0, 1) := by decide +kernel
theorem dX7_reads_219 : decode cX7_reads 219 = .ok (.getfield 88, 3) := by decide +kernel
theorem dX7_reads_222 : decode cX7_reads 222 = .ok (.aload_n 0, 1) := by decide +kernel
theorem dX7_reads_223 : decode cX7_reads 223 = .ok (.getfield 82, 3) := by decide +kernel
theorem dX7_reads_226 : decode cX7_reads 226 = .ok (.isub, 1) := by decide +kernel
theorem dX7_reads_227 : decode cX7_reads 227 = .ok (.iconst 2, 1) := by decide +kernel
theorem dX7_reads_228 : decode cX7_reads 228 = .ok (.if_icmp .gt 7, 3) := by decide +kernel
theorem dX7_reads_231 : decode cX7_reads 231 = .ok (.iconst 1, 1) := by decide +kernel
theorem dX7_reads_232 : decode cX7_reads 232 = .ok (.goto 4, 3) := by decide +kernel
theorem dX7_reads_235 : decode cX7_reads 235 = .ok (.iconst 0, 1) := by decide +kernel
theorem dX7_reads_236 : decode cX7_reads 236 = .ok (.iconst 1, 1) := by decide +kernel
theorem dX7_reads_237 : decode cX7_reads 237 = .ok (.invokevirtual 117, 3) := by decide +kernel
theorem dX7_reads_240 : decode cX7_reads 240 = .ok (.goto 34, 3) := by decide +kernel
theorem dX7_reads_243 : decode cX7_reads 243 = .ok (.aload_n 0, 1) := by decide +kernel
theorem dX7_reads_244 : decode cX7_reads 244 = .ok (.iconst 3, 1) := by decide +kernel
theorem dX7_reads_245 : decode cX7_reads 245 = .ok (.putfield 103, 3) := by decide +kernel
theorem dX7_reads_248 : decode cX7_reads 248 = .ok (.aload_n 0, 1) := by decide +kernel
theorem dX7_reads_249 : decode cX7_reads 249 = .ok (.iload_n 1, 1) := by decide +kernel
theorem dX7_reads_250 : decode cX7_reads 250 = .ok (.bipush 59, 2) := by decide +kernel
theorem dX7_reads_252 : decode cX7_reads 252 = .ok (.if_icmp .ne 7, 3) := by decide +kernel
theorem dX7_reads_255 : decode cX7_reads 255 = .ok (.iconst 1, 1) := by decide +kernel
theorem dX7_reads_256 : decode cX7_reads 256 = .ok (.goto 4, 3) := by decide +kernel
theorem dX7_reads_259 : decode cX7_reads 259 = .ok (.iconst 0, 1) := by decide +kernel
theorem dX7_reads_260 : decode cX7_reads 260 = .ok (.iconst 1, 1) := by decide +kernel
theorem dX7_reads_261 : decode cX7_reads 261 = .ok (.invokevirtual 117, 3) := by decide +kernel
theorem dX7_reads_264 : decode cX7_reads 264 = .ok (.aload_n 0, 1) := by decide +kernel
theorem dX7_reads_265 : decode cX7_reads 265 = .ok (.dup, 1) := by decide +kernel
theorem dX7_reads_266 : decode cX7_reads 266 = .ok (.getfield 88, 3) := by decide +kernel
theorem dX7_reads_269 : decode cX7_reads 269 = .ok (.iconst 1, 1) := by decide +kernel
theorem dX7_reads_270 : decode cX7_reads 270 = .ok (.iadd, 1) := by decide +kernel
theorem dX7_reads_271 : decode cX7_reads 271 = .ok (.putfield 88, 3) := by decide +kernel
theorem dX7_reads_274 : decode cX7_reads 274 = .ok (.return_, 1) := by decide +kernel
theorem dX7_looked_0 : decode cX7_looked 0 = .ok (.aload_n 0, 1) := by decide +kernel
theorem dX7_looked_1 : decode cX7_looked 1 = .ok (.getfield 79, 3) := by decide +kernel
theorem dX7_looked_4 : decode cX7_looked 4 = .ok (.ifCond .ne 21, 3) := by decide +kernel
theorem dX7_looked_7 : decode cX7_looked 7 = .ok (.aload_n 0, 1) := by decide +kernel
theorem dX7_looked_8 : decode cX7_looked 8 = .ok (.aload_n 0, 1) := by decide +kernel
theorem dX7_looked_9 : decode cX7_looked 9 = .ok (.getfield 103, 3) := by decide +kernel
theorem dX7_looked_12 : decode cX7_looked 12 = .ok (.iconst 2, 1) := by decide +kernel
theorem dX7_looked_13 : decode cX7_looked 13 = .ok (.if_icmp .ne 7, 3) := by decide +kernel
theorem dX7_looked_16 : decode cX7_looked 16 = .ok (.iconst 1, 1) := by decide +kernel
theorem dX7_looked_17 : decode cX7_looked 17 = .ok (.goto 4, 3) := by decide +kernel
theorem dX7_looked_20 : decode cX7_looked 20 = .ok (.iconst 0, 1) := by decide +kernel
theorem dX7_looked_21 : decode cX7_looked 21 = .ok (.iconst 2, 1) := by decide +kernel
theorem dX7_looked_22 : decode cX7_looked 22 = .ok (.invokevirtual 117, 3) := by decide +kernel
theorem dX7_looked_25 : decode cX7_looked 25 = .ok (.aload_n 0, 1) := by decide +kernel
theorem dX7_looked_26 : decode cX7_looked 26 = .ok (.getfield 79, 3) := by decide +kernel
theorem dX7_looked_29 : decode cX7_looked 29 = .ok (.ifCond .ne 20, 3) := by decide +kernel
theorem dX7_looked_32 : decode cX7_looked 32 = .ok (.aload_n 0, 1) := by decide +kernel
theorem dX7_looked_33 : decode cX7_looked 33 = .ok (.aload_n 0, 1) := by decide +kernel
theorem dX7_looked_34 : decode cX7_looked 34 = .ok (.getfield 114, 3) := by decide +kernel
theorem dX7_looked_37 : decode cX7_looked 37 = .ok (.i2l, 1) := by decide +kernel
theorem dX7_looked_38 : decode cX7_looked 38 = .ok (.iload_n 1, 1) := by decide +kernel
theorem dX7_looked_39 : decode cX7_looked 39 = .ok (.i2l, 1) := by decide +kernel
theorem dX7_looked_40 : decode cX7_looked 40 = .ok (.iload_n 2, 1) := by decide +kernel
theorem dX7_looked_41 : decode cX7_looked 41 = .ok (.i2l, 1) := by decide +kernel
theorem dX7_looked_42 : decode cX7_looked 42 = .ok (.invokestatic 72, 3) := by decide +kernel
theorem dX7_looked_45 : decode cX7_looked 45 = .ok (.iconst 3, 1) := by decide +kernel
theorem dX7_looked_46 : decode cX7_looked 46 = .ok (.invokevirtual 117, 3) := by decide +kernel
theorem dX7_looked_49 : decode cX7_looked 49 = .ok (.aload_n 0, 1) := by decide +kernel
theorem dX7_looked_50 : decode cX7_looked 50 = .ok (.getfield 79, 3) := by decide +kernel
theorem dX7_looked_53 : decode cX7_looked 53 = .ok (.ifCond .ne 10, 3) := by decide +kernel
theorem dX7_looked_56 : decode cX7_looked 56 = .ok (.aload_n 0, 1) := by decide +kernel
theorem dX7_looked_57 : decode cX7_looked 57 = .ok (.getfield 114, 3) := by decide +kernel
theorem dX7_looked_60 : decode cX7_looked 60 = .ok (.goto 4, 3) := by decide +kernel
theorem dX7_looked_63 : decode cX7_looked 63 = .ok (.iconst 0, 1) := by decide +kernel
theorem dX7_looked_64 : decode cX7_looked 64 = .ok (.ireturn, 1) := by decide +kernel
theorem dX7_readNumber_0 : decode cX7_readNumber 0 = .ok (.aload_n 0, 1) := by decide +kernel
theorem dX7_readNumber_1 : decode cX7_readNumber 1 = .ok (.iload_n 1, 1) := by decide +kernel
theorem dX7_readNumber_2 : decode cX7_readNumber 2 = .ok (.iload_n 2, 1) := by decide +kernel
theorem dX7_readNumber_3 : decode cX7_readNumber 3 = .ok (.invokevirtual 121, 3) := by decide +kernel
theorem dX7_readNumber_6 : decode cX7_readNumber 6 = .ok (.istore_n 3, 1) := by decide +kernel
theorem dX7_readNumber_7 : decode cX7_readNumber 7 = .ok (.aload_n 0, 1) := by decide +kernel
theorem dX7_readNumber_8 : decode cX7_readNumber 8 = .ok (.invokevirtual 125, 3) := by decide +kernel
theorem dX7_readNumber_11 : decode cX7_readNumber 11 = .ok (.iload_n 3, 1) := by decide +kernel
theorem dX7_readNumber_12 : decode cX7_readNumber 12 = .ok (.ireturn, 1) := by decide +kernel
theorem dX7_readFames_0 : decode cX7_readFames 0 = .ok (.aload_n 0, 1) := by decide +kernel
theorem dX7_readFames_1 : decode cX7_readFames 1 = .ok (.getfield 79, 3) := by decide +kernel
theorem dX7_readFames_4 : decode cX7_readFames 4 = .ok (.ifCond .ne 66, 3) := by decide +kernel
theorem dX7_readFames_7 : decode cX7_readFames 7 = .ok (.aload_n 0, 1) := by decide +kernel
theorem dX7_readFames_8 : decode cX7_readFames 8 = .ok (.getfield 103, 3) := by decide +kernel
theorem dX7_readFames_11 : decode cX7_readFames 11 = .ok (.iconst 2, 1) := by decide +kernel
theorem dX7_readFames_12 : decode cX7_readFames 12 = .ok (.if_icmp .ne 58, 3) := by decide +kernel
theorem dX7_readFames_15 : decode cX7_readFames 15 = .ok (.aload_n 0, 1) := by decide +kernel
theorem dX7_readFames_16 : decode cX7_readFames 16 = .ok (.aload_n 0, 1) := by decide +kernel
theorem dX7_readFames_17 : decode cX7_readFames 17 = .ok (.getfield 54, 3) := by decide +kernel
theorem dX7_readFames_20 : decode cX7_readFames 20 = .ok (.bipush 12, 2) := by decide +kernel
theorem dX7_readFames_22 : decode cX7_readFames 22 = .ok (.if_icmp .ge 7, 3) := by decide +kernel
theorem dX7_readFames_25 : decode cX7_readFames 25 = .ok (.iconst 1, 1) := by decide +kernel
theorem dX7_readFames_26 : decode cX7_readFames 26 = .ok (.goto 4, 3) := by decide +kernel
theorem dX7_readFames_29 : decode cX7_readFames 29 = .ok (.iconst 0, 1) := by decide +kernel
theorem dX7_readFames_30 : decode cX7_readFames 30 = .ok (.iconst 5, 1) := by decide +kernel
theorem dX7_readFames_31 : decode cX7_readFames 31 = .ok (.invokevirtual 117, 3) := by decide +kernel
theorem dX7_readFames_34 : decode cX7_readFames 34 = .ok (.aload_n 0, 1) := by decide +kernel
theorem dX7_readFames_35 : decode cX7_readFames 35 = .ok (.getfield 79, 3) := by decide +kernel
theorem dX7_readFames_38 : decode cX7_readFames 38 = .ok (.ifCond .ne (-38), 3) := by decide +kernel
theorem dX7_readFames_41 : decode cX7_readFames 41 = .ok (.aload_n 0, 1) := by decide +kernel
theorem dX7_readFames_42 : decode cX7_readFames 42 = .ok (.getfield 20, 3) := by decide +kernel
theorem dX7_readFames_45 : decode cX7_readFames 45 = .ok (.aload_n 0, 1) := by decide +kernel
theorem dX7_readFames_46 : decode cX7_readFames 46 = .ok (.getfield 54, 3) := by decide +kernel
theorem dX7_readFames_49 : decode cX7_readFames 49 = .ok (.aload_n 0, 1) := by decide +kernel
theorem dX7_readFames_50 : decode cX7_readFames 50 = .ok (.iconst 0, 1) := by decide +kernel
theorem dX7_readFames_51 : decode cX7_readFames 51 = .ok (.bipush 9, 2) := by decide +kernel
theorem dX7_readFames_53 : decode cX7_readFames 53 = .ok (.invokevirtual 128, 3) := by decide +kernel
theorem dX7_readFames_56 : decode cX7_readFames 56 = .ok (.iastore, 1) := by decide +kernel
theorem dX7_readFames_57 : decode cX7_readFames 57 = .ok (.aload_n 0, 1) := by decide +kernel
theorem dX7_readFames_58 : decode cX7_readFames 58 = .ok (.dup, 1) := by decide +kernel
theorem dX7_readFames_59 : decode cX7_readFames 59 = .ok (.getfield 54, 3) := by decide +kernel
theorem dX7_readFames_62 : decode cX7_readFames 62 = .ok (.iconst 1, 1) := by decide +kernel
theorem dX7_readFames_63 : decode cX7_readFames 63 = .ok (.iadd, 1) := by decide +kernel
theorem dX7_readFames_64 : decode cX7_readFames 64 = .ok (.putfield 54, 3) := by decide +kernel
theorem dX7_readFames_67 : decode cX7_readFames 67 = .ok (.goto (-67), 3) := by decide +kernel
theorem dX7_readFames_70 : decode cX7_readFames 70 = .ok (.return_, 1) := by decide +kernel
theorem dX7_readRoute_0 : decode cX7_readRoute 0 = .ok (.aload_n 0, 1) := by decide +kernel
theorem dX7_readRoute_1 : decode cX7_readRoute 1 = .ok (.getfield 79, 3) := by decide +kernel
theorem dX7_readRoute_4 : decode cX7_readRoute 4 = .ok (.ifCond .ne 76, 3) := by decide +kernel
theorem dX7_readRoute_7 : decode cX7_readRoute 7 = .ok (.aload_n 0, 1) := by decide +kernel
theorem dX7_readRoute_8 : decode cX7_readRoute 8 = .ok (.getfield 103, 3) := by decide +kernel
theorem dX7_readRoute_11 : decode cX7_readRoute 11 = .ok (.iconst 2, 1) := by decide +kernel
theorem dX7_readRoute_12 : decode cX7_readRoute 12 = .ok (.if_icmp .ne 68, 3) := by decide +kernel
theorem dX7_readRoute_15 : decode cX7_readRoute 15 = .ok (.aload_n 0, 1) := by decide +kernel
theorem dX7_readRoute_16 : decode cX7_readRoute 16 = .ok (.aload_n 0, 1) := by decide +kernel
theorem dX7_readRoute_17 : decode cX7_readRoute 17 = .ok (.getfield 20, 3) := by decide +kernel
theorem dX7_readRoute_20 : decode cX7_readRoute 20 = .ok (.bipush 29, 2) := by decide +kernel
theorem dX7_readRoute_22 : decode cX7_readRoute 22 = .ok (.iaload, 1) := by decide +kernel
theorem dX7_readRoute_23 : decode cX7_readRoute 23 = .ok (.bipush 6, 2) := by decide +kernel
theorem dX7_readRoute_25 : decode cX7_readRoute 25 = .ok (.if_icmp .ge 7, 3) := by decide +kernel
theorem dX7_readRoute_28 : decode cX7_readRoute 28 = .ok (.iconst 1, 1) := by decide +kernel
theorem dX7_readRoute_29 : decode cX7_readRoute 29 = .ok (.goto 4, 3) := by decide +kernel
theorem dX7_readRoute_32 : decode cX7_readRoute 32 = .ok (.iconst 0, 1) := by decide +kernel
theorem dX7_readRoute_33 : decode cX7_readRoute 33 = .ok (.iconst 5, 1) := by decide +kernel
theorem dX7_readRoute_34 : decode cX7_readRoute 34 = .ok (.invokevirtual 117, 3) := by decide +kernel
theorem dX7_readRoute_37 : decode cX7_readRoute 37 = .ok (.aload_n 0, 1) := by decide +kernel
theorem dX7_readRoute_38 : decode cX7_readRoute 38 = .ok (.getfield 79, 3) := by decide +kernel
theorem dX7_readRoute_41 : decode cX7_readRoute 41 = .ok (.ifCond .ne (-41), 3) := by decide +kernel
theorem dX7_readRoute_44 : decode cX7_readRoute 44 = .ok (.aload_n 0, 1) := by decide +kernel
theorem dX7_readRoute_45 : decode cX7_readRoute 45 = .ok (.getfield 20, 3) := by decide +kernel
theorem dX7_readRoute_48 : decode cX7_readRoute 48 = .ok (.bipush 30, 2) := by decide +kernel
theorem dX7_readRoute_50 : decode cX7_readRoute 50 = .ok (.aload_n 0, 1) := by decide +kernel
theorem dX7_readRoute_51 : decode cX7_readRoute 51 = .ok (.getfield 20, 3) := by decide +kernel
theorem dX7_readRoute_54 : decode cX7_readRoute 54 = .ok (.bipush 29, 2) := by decide +kernel
theorem dX7_readRoute_56 : decode cX7_readRoute 56 = .ok (.iaload, 1) := by decide +kernel
theorem dX7_readRoute_57 : decode cX7_readRoute 57 = .ok (.iadd, 1) := by decide +kernel
theorem dX7_readRoute_58 : decode cX7_readRoute 58 = .ok (.aload_n 0, 1) := by decide +kernel
theorem dX7_readRoute_59 : decode cX7_readRoute 59 = .ok (.iconst 0, 1) := by decide +kernel
theorem dX7_readRoute_60 : decode cX7_readRoute 60 = .ok (.bipush 11, 2) := by decide +kernel
theorem dX7_readRoute_62 : decode cX7_readRoute 62 = .ok (.invokevirtual 128, 3) := by decide +kernel
theorem dX7_readRoute_65 : decode cX7_readRoute 65 = .ok (.iastore, 1) := by decide +kernel
theorem dX7_readRoute_66 : decode cX7_readRoute 66 = .ok (.aload_n 0, 1) := by decide +kernel
theorem dX7_readRoute_67 : decode cX7_readRoute 67 = .ok (.getfield 20, 3) := by decide +kernel
theorem dX7_readRoute_70 : decode cX7_readRoute 70 = .ok (.bipush 29, 2) := by decide +kernel
theorem dX7_readRoute_72 : decode cX7_readRoute 72 = .ok (.dup2, 1) := by decide +kernel
theorem dX7_readRoute_73 : decode cX7_readRoute 73 = .ok (.iaload, 1) := by decide +kernel
theorem dX7_readRoute_74 : decode cX7_readRoute 74 = .ok (.iconst 1, 1) := by decide +kernel
theorem dX7_readRoute_75 : decode cX7_readRoute 75 = .ok (.iadd, 1) := by decide +kernel
theorem dX7_readRoute_76 : decode cX7_readRoute 76 = .ok (.iastore, 1) := by decide +kernel
theorem dX7_readRoute_77 : decode cX7_readRoute 77 = .ok (.goto (-77), 3) := by decide +kernel
theorem dX7_readRoute_80 : decode cX7_readRoute 80 = .ok (.return_, 1) := by decide +kernel
theorem dX7_readLineOf_0 : decode cX7_readLineOf 0 = .ok (.iload_n 1, 1) := by decide +kernel
theorem dX7_readLineOf_1 : decode cX7_readLineOf 1 = .ok (.tableswitch 58 4 6 #[27, 34, 41], 27) := by decide +kernel
theorem dX7_readLineOf_28 : decode cX7_readLineOf 28 = .ok (.aload_n 0, 1) := by decide +kernel
theorem dX7_readLineOf_29 : decode cX7_readLineOf 29 = .ok (.invokevirtual 131, 3) := by decide +kernel
theorem dX7_readLineOf_32 : decode cX7_readLineOf 32 = .ok (.goto 100, 3) := by decide +kernel
theorem dX7_readLineOf_35 : decode cX7_readLineOf 35 = .ok (.aload_n 0, 1) := by decide +kernel
theorem dX7_readLineOf_36 : decode cX7_readLineOf 36 = .ok (.invokevirtual 134, 3) := by decide +kernel
theorem dX7_readLineOf_39 : decode cX7_readLineOf 39 = .ok (.goto 93, 3) := by decide +kernel
theorem dX7_readLineOf_42 : decode cX7_readLineOf 42 = .ok (.aload_n 0, 1) := by decide +kernel
theorem dX7_readLineOf_43 : decode cX7_readLineOf 43 = .ok (.getfield 20, 3) := by decide +kernel
theorem dX7_readLineOf_46 : decode cX7_readLineOf 46 = .ok (.bipush 28, 2) := by decide +kernel
theorem dX7_readLineOf_48 : decode cX7_readLineOf 48 = .ok (.aload_n 0, 1) := by decide +kernel
theorem dX7_readLineOf_49 : decode cX7_readLineOf 49 = .ok (.iconst 0, 1) := by decide +kernel
theorem dX7_readLineOf_50 : decode cX7_readLineOf 50 = .ok (.bipush 11, 2) := by decide +kernel
theorem dX7_readLineOf_52 : decode cX7_readLineOf 52 = .ok (.invokevirtual 128, 3) := by decide +kernel
theorem dX7_readLineOf_55 : decode cX7_readLineOf 55 = .ok (.iastore, 1) := by decide +kernel
theorem dX7_readLineOf_56 : decode cX7_readLineOf 56 = .ok (.goto 76, 3) := by decide +kernel
theorem dX7_readLineOf_59 : decode cX7_readLineOf 59 = .ok (.aload_n 0, 1) := by decide +kernel
theorem dX7_readLineOf_60 : decode cX7_readLineOf 60 = .ok (.getfield 20, 3) := by decide +kernel
theorem dX7_readLineOf_63 : decode cX7_readLineOf 63 = .ok (.bipush 12, 2) := by decide +kernel
theorem dX7_readLineOf_65 : decode cX7_readLineOf 65 = .ok (.iconst 4, 1) := by decide +kernel
theorem dX7_readLineOf_66 : decode cX7_readLineOf 66 = .ok (.aload_n 0, 1) := by decide +kernel
theorem dX7_readLineOf_67 : decode cX7_readLineOf 67 = .ok (.getfield 50, 3) := by decide +kernel
theorem dX7_readLineOf_70 : decode cX7_readLineOf 70 = .ok (.imul, 1) := by decide +kernel
theorem dX7_readLineOf_71 : decode cX7_readLineOf 71 = .ok (.iadd, 1) := by decide +kernel
theorem dX7_readLineOf_72 : decode cX7_readLineOf 72 = .ok (.iconst 0, 1) := by decide +kernel
theorem dX7_readLineOf_73 : decode cX7_readLineOf 73 = .ok (.iadd, 1) := by decide +kernel
theorem dX7_readLineOf_74 : decode cX7_readLineOf 74 = .ok (.iload_n 1, 1) := by decide +kernel
theorem dX7_readLineOf_75 : decode cX7_readLineOf 75 = .ok (.iastore, 1) := by decide +kernel
theorem dX7_readLineOf_76 : decode cX7_readLineOf 76 = .ok (.aload_n 0, 1) := by decide +kernel
theorem dX7_readLineOf_77 : decode cX7_readLineOf 77 = .ok (.getfield 20, 3) := by decide +kernel
theorem dX7_readLineOf_80 : decode cX7_readLineOf 80 = .ok (.bipush 12, 2) := by decide +kernel
theorem dX7_readLineOf_82 : decode cX7_readLineOf 82 = .ok (.iconst 4, 1) := by decide +kernel
theorem dX7_readLineOf_83 : decode cX7_readLineOf 83 = .ok (.aload_n 0, 1) := by decide +kernel
theorem dX7_readLineOf_84 : decode cX7_readLineOf 84 = .ok (.getfield 50, 3) := by decide +kernel
theorem dX7_readLineOf_87 : decode cX7_readLineOf 87 = .ok (.imul, 1) := by decide +kernel
theorem dX7_readLineOf_88 : decode cX7_readLineOf 88 = .ok (.iadd, 1) := by decide +kernel
theorem dX7_readLineOf_89 : decode cX7_readLineOf 89 = .ok (.iconst 1, 1) := by decide +kernel
theorem dX7_readLineOf_90 : decode cX7_readLineOf 90 = .ok (.iadd, 1) := by decide +kernel
theorem dX7_readLineOf_91 : decode cX7_readLineOf 91 = .ok (.aload_n 0, 1) := by decide +kernel
theorem dX7_readLineOf_92 : decode cX7_readLineOf 92 = .ok (.iconst 0, 1) := by decide +kernel
theorem dX7_readLineOf_93 : decode cX7_readLineOf 93 = .ok (.bipush 11, 2) := by decide +kernel
theorem dX7_readLineOf_95 : decode cX7_readLineOf 95 = .ok (.invokevirtual 128, 3) := by decide +kernel
theorem dX7_readLineOf_98 : decode cX7_readLineOf 98 = .ok (.iastore, 1) := by decide +kernel
theorem dX7_readLineOf_99 : decode cX7_readLineOf 99 = .ok (.aload_n 0, 1) := by decide +kernel
theorem dX7_readLineOf_100 : decode cX7_readLineOf 100 = .ok (.getfield 20, 3) := by decide +kernel
theorem dX7_readLineOf_103 : decode cX7_readLineOf 103 = .ok (.bipush 12, 2) := by decide +kernel
theorem dX7_readLineOf_105 : decode cX7_readLineOf 105 = .ok (.iconst 4, 1) := by decide +kernel
theorem dX7_readLineOf_106 : decode cX7_readLineOf 106 = .ok (.aload_n 0, 1) := by decide +kernel
theorem dX7_readLineOf_107 : decode cX7_readLineOf 107 = .ok (.getfield 50, 3) := by decide +kernel
theorem dX7_readLineOf_110 : decode cX7_readLineOf 110 = .ok (.imul, 1) := by decide +kernel
theorem dX7_readLineOf_111 : decode cX7_readLineOf 111 = .ok (.iadd, 1) := by decide +kernel
theorem dX7_readLineOf_112 : decode cX7_readLineOf 112 = .ok (.iconst 2, 1) := by decide +kernel
theorem dX7_readLineOf_113 : decode cX7_readLineOf 113 = .ok (.iadd, 1) := by decide +kernel
theorem dX7_readLineOf_114 : decode cX7_readLineOf 114 = .ok (.aload_n 0, 1) := by decide +kernel
theorem dX7_readLineOf_115 : decode cX7_readLineOf 115 = .ok (.iconst 0, 1) := by decide +kernel
theorem dX7_readLineOf_116 : decode cX7_readLineOf 116 = .ok (.bipush 20, 2) := by decide +kernel
theorem dX7_readLineOf_118 : decode cX7_readLineOf 118 = .ok (.invokevirtual 128, 3) := by decide +kernel
theorem dX7_readLineOf_121 : decode cX7_readLineOf 121 = .ok (.iastore, 1) := by decide +kernel
theorem dX7_readLineOf_122 : decode cX7_readLineOf 122 = .ok (.aload_n 0, 1) := by decide +kernel
theorem dX7_readLineOf_123 : decode cX7_readLineOf 123 = .ok (.dup, 1) := by decide +kernel
theorem dX7_readLineOf_124 : decode cX7_readLineOf 124 = .ok (.getfield 50, 3) := by decide +kernel
theorem dX7_readLineOf_127 : decode cX7_readLineOf 127 = .ok (.iconst 1, 1) := by decide +kernel
theorem dX7_readLineOf_128 : decode cX7_readLineOf 128 = .ok (.iadd, 1) := by decide +kernel
theorem dX7_readLineOf_129 : decode cX7_readLineOf 129 = .ok (.putfield 50, 3) := by decide +kernel
theorem dX7_readLineOf_132 : decode cX7_readLineOf 132 = .ok (.return_, 1) := by decide +kernel
theorem dX7_wasTold_0 : decode cX7_wasTold 0 = .ok (.iload_n 1, 1) := by decide +kernel
theorem dX7_wasTold_1 : decode cX7_wasTold 1 = .ok (.iconst 4, 1) := by decide +kernel
theorem dX7_wasTold_2 : decode cX7_wasTold 2 = .ok (.if_icmp .ne 10, 3) := by decide +kernel
theorem dX7_wasTold_5 : decode cX7_wasTold 5 = .ok (.aload_n 0, 1) := by decide +kernel
theorem dX7_wasTold_6 : decode cX7_wasTold 6 = .ok (.getfield 57, 3) := by decide +kernel
theorem dX7_wasTold_9 : decode cX7_wasTold 9 = .ok (.goto 33, 3) := by decide +kernel
theorem dX7_wasTold_12 : decode cX7_wasTold 12 = .ok (.iload_n 1, 1) := by decide +kernel
theorem dX7_wasTold_13 : decode cX7_wasTold 13 = .ok (.iconst 5, 1) := by decide +kernel
theorem dX7_wasTold_14 : decode cX7_wasTold 14 = .ok (.if_icmp .ne 10, 3) := by decide +kernel
theorem dX7_wasTold_17 : decode cX7_wasTold 17 = .ok (.aload_n 0, 1) := by decide +kernel
theorem dX7_wasTold_18 : decode cX7_wasTold 18 = .ok (.getfield 61, 3) := by decide +kernel
theorem dX7_wasTold_21 : decode cX7_wasTold 21 = .ok (.goto 21, 3) := by decide +kernel
theorem dX7_wasTold_24 : decode cX7_wasTold 24 = .ok (.iload_n 1, 1) := by decide +kernel
theorem dX7_wasTold_25 : decode cX7_wasTold 25 = .ok (.bipush 6, 2) := by decide +kernel
theorem dX7_wasTold_27 : decode cX7_wasTold 27 = .ok (.if_icmp .ne 14, 3) := by decide +kernel
theorem dX7_wasTold_30 : decode cX7_wasTold 30 = .ok (.aload_n 0, 1) := by decide +kernel
theorem dX7_wasTold_31 : decode cX7_wasTold 31 = .ok (.getfield 64, 3) := by decide +kernel
theorem dX7_wasTold_34 : decode cX7_wasTold 34 = .ok (.ifCond .eq 7, 3) := by decide +kernel
theorem dX7_wasTold_37 : decode cX7_wasTold 37 = .ok (.iconst 1, 1) := by decide +kernel
theorem dX7_wasTold_38 : decode cX7_wasTold 38 = .ok (.goto 4, 3) := by decide +kernel
theorem dX7_wasTold_41 : decode cX7_wasTold 41 = .ok (.iconst 0, 1) := by decide +kernel
theorem dX7_wasTold_42 : decode cX7_wasTold 42 = .ok (.ireturn, 1) := by decide +kernel
theorem dX7_readLine_0 : decode cX7_readLine 0 = .ok (.aload_n 0, 1) := by decide +kernel
theorem dX7_readLine_1 : decode cX7_readLine 1 = .ok (.getfield 103, 3) := by decide +kernel
theorem dX7_readLine_4 : decode cX7_readLine 4 = .ok (.iconst 1, 1) := by decide +kernel
theorem dX7_readLine_5 : decode cX7_readLine 5 = .ok (.if_icmp .ne 10, 3) := by decide +kernel
theorem dX7_readLine_8 : decode cX7_readLine 8 = .ok (.aload_n 0, 1) := by decide +kernel
theorem dX7_readLine_9 : decode cX7_readLine 9 = .ok (.invokevirtual 137, 3) := by decide +kernel
theorem dX7_readLine_12 : decode cX7_readLine 12 = .ok (.goto 5, 3) := by decide +kernel
theorem dX7_readLine_15 : decode cX7_readLine 15 = .ok (.bipush (-4), 2) := by decide +kernel
theorem dX7_readLine_17 : decode cX7_readLine 17 = .ok (.istore_n 1, 1) := by decide +kernel
theorem dX7_readLine_18 : decode cX7_readLine 18 = .ok (.aload_n 0, 1) := by decide +kernel
theorem dX7_readLine_19 : decode cX7_readLine 19 = .ok (.iload_n 1, 1) := by decide +kernel
theorem dX7_readLine_20 : decode cX7_readLine 20 = .ok (.bipush (-4), 2) := by decide +kernel
theorem dX7_readLine_22 : decode cX7_readLine 22 = .ok (.if_icmp .eq 7, 3) := by decide +kernel
theorem dX7_readLine_25 : decode cX7_readLine 25 = .ok (.iconst 1, 1) := by decide +kernel
theorem dX7_readLine_26 : decode cX7_readLine 26 = .ok (.goto 4, 3) := by decide +kernel
theorem dX7_readLine_29 : decode cX7_readLine 29 = .ok (.iconst 0, 1) := by decide +kernel
theorem dX7_readLine_30 : decode cX7_readLine 30 = .ok (.iconst 2, 1) := by decide +kernel
theorem dX7_readLine_31 : decode cX7_readLine 31 = .ok (.invokevirtual 117, 3) := by decide +kernel
theorem dX7_readLine_34 : decode cX7_readLine 34 = .ok (.aload_n 0, 1) := by decide +kernel
theorem dX7_readLine_35 : decode cX7_readLine 35 = .ok (.iload_n 1, 1) := by decide +kernel
theorem dX7_readLine_36 : decode cX7_readLine 36 = .ok (.iconst 4, 1) := by decide +kernel
theorem dX7_readLine_37 : decode cX7_readLine 37 = .ok (.if_icmp .ge 11, 3) := by decide +kernel
theorem dX7_readLine_40 : decode cX7_readLine 40 = .ok (.aload_n 0, 1) := by decide +kernel
theorem dX7_readLine_41 : decode cX7_readLine 41 = .ok (.getfield 50, 3) := by decide +kernel
theorem dX7_readLine_44 : decode cX7_readLine 44 = .ok (.iconst 4, 1) := by decide +kernel
theorem dX7_readLine_45 : decode cX7_readLine 45 = .ok (.if_icmp .ge 7, 3) := by decide +kernel
theorem dX7_readLine_48 : decode cX7_readLine 48 = .ok (.iconst 1, 1) := by decide +kernel
theorem dX7_readLine_49 : decode cX7_readLine 49 = .ok (.goto 4, 3) := by decide +kernel
theorem dX7_readLine_52 : decode cX7_readLine 52 = .ok (.iconst 0, 1) := by decide +kernel
theorem dX7_readLine_53 : decode cX7_readLine 53 = .ok (.iconst 5, 1) := by decide +kernel
theorem dX7_readLine_54 : decode cX7_readLine 54 = .ok (.invokevirtual 117, 3) := by decide +kernel
theorem dX7_readLine_57 : decode cX7_readLine 57 = .ok (.aload_n 0, 1) := by decide +kernel
theorem dX7_readLine_58 : decode cX7_readLine 58 = .ok (.aload_n 0, 1) := by decide +kernel
theorem dX7_readLine_59 : decode cX7_readLine 59 = .ok (.iload_n 1, 1) := by decide +kernel
theorem dX7_readLine_60 : decode cX7_readLine 60 = .ok (.invokevirtual 141, 3) := by decide +kernel
theorem dX7_readLine_63 : decode cX7_readLine 63 = .ok (.ifCond .ne 7, 3) := by decide +kernel
theorem dX7_readLine_66 : decode cX7_readLine 66 = .ok (.iconst 1, 1) := by decide +kernel
theorem dX7_readLine_67 : decode cX7_readLine 67 = .ok (.goto 4, 3) := by decide +kernel
theorem dX7_readLine_70 : decode cX7_readLine 70 = .ok (.iconst 0, 1) := by decide +kernel
theorem dX7_readLine_71 : decode cX7_readLine 71 = .ok (.iconst 4, 1) := by decide +kernel
theorem dX7_readLine_72 : decode cX7_readLine 72 = .ok (.invokevirtual 117, 3) := by decide +kernel
theorem dX7_readLine_75 : decode cX7_readLine 75 = .ok (.aload_n 0, 1) := by decide +kernel
theorem dX7_readLine_76 : decode cX7_readLine 76 = .ok (.aload_n 0, 1) := by decide +kernel
theorem dX7_readLine_77 : decode cX7_readLine 77 = .ok (.getfield 57, 3) := by decide +kernel
theorem dX7_readLine_80 : decode cX7_readLine 80 = .ok (.ifCond .ne 8, 3) := by decide +kernel
theorem dX7_readLine_83 : decode cX7_readLine 83 = .ok (.iload_n 1, 1) := by decide +kernel
theorem dX7_readLine_84 : decode cX7_readLine 84 = .ok (.iconst 4, 1) := by decide +kernel
theorem dX7_readLine_85 : decode cX7_readLine 85 = .ok (.if_icmp .ne 7, 3) := by decide +kernel
theorem dX7_readLine_88 : decode cX7_readLine 88 = .ok (.iconst 1, 1) := by decide +kernel
theorem dX7_readLine_89 : decode cX7_readLine 89 = .ok (.goto 4, 3) := by decide +kernel
theorem dX7_readLine_92 : decode cX7_readLine 92 = .ok (.iconst 0, 1) := by decide +kernel
theorem dX7_readLine_93 : decode cX7_readLine 93 = .ok (.putfield 57, 3) := by decide +kernel
theorem dX7_readLine_96 : decode cX7_readLine 96 = .ok (.aload_n 0, 1) := by decide +kernel
theorem dX7_readLine_97 : decode cX7_readLine 97 = .ok (.aload_n 0, 1) := by decide +kernel
theorem dX7_readLine_98 : decode cX7_readLine 98 = .ok (.getfield 61, 3) := by decide +kernel
theorem dX7_readLine_101 : decode cX7_readLine 101 = .ok (.ifCond .ne 8, 3) := by decide +kernel
theorem dX7_readLine_104 : decode cX7_readLine 104 = .ok (.iload_n 1, 1) := by decide +kernel
theorem dX7_readLine_105 : decode cX7_readLine 105 = .ok (.iconst 5, 1) := by decide +kernel
theorem dX7_readLine_106 : decode cX7_readLine 106 = .ok (.if_icmp .ne 7, 3) := by decide +kernel
theorem dX7_readLine_109 : decode cX7_readLine 109 = .ok (.iconst 1, 1) := by decide +kernel
theorem dX7_readLine_110 : decode cX7_readLine 110 = .ok (.goto 4, 3) := by decide +kernel
theorem dX7_readLine_113 : decode cX7_readLine 113 = .ok (.iconst 0, 1) := by decide +kernel
theorem dX7_readLine_114 : decode cX7_readLine 114 = .ok (.putfield 61, 3) := by decide +kernel
theorem dX7_readLine_117 : decode cX7_readLine 117 = .ok (.aload_n 0, 1) := by decide +kernel
theorem dX7_readLine_118 : decode cX7_readLine 118 = .ok (.aload_n 0, 1) := by decide +kernel
theorem dX7_readLine_119 : decode cX7_readLine 119 = .ok (.getfield 64, 3) := by decide +kernel
theorem dX7_readLine_122 : decode cX7_readLine 122 = .ok (.ifCond .ne 9, 3) := by decide +kernel
theorem dX7_readLine_125 : decode cX7_readLine 125 = .ok (.iload_n 1, 1) := by decide +kernel
theorem dX7_readLine_126 : decode cX7_readLine 126 = .ok (.bipush 6, 2) := by decide +kernel
theorem dX7_readLine_128 : decode cX7_readLine 128 = .ok (.if_icmp .ne 7, 3) := by decide +kernel
theorem dX7_readLine_131 : decode cX7_readLine 131 = .ok (.iconst 1, 1) := by decide +kernel
theorem dX7_readLine_132 : decode cX7_readLine 132 = .ok (.goto 4, 3) := by decide +kernel
theorem dX7_readLine_135 : decode cX7_readLine 135 = .ok (.iconst 0, 1) := by decide +kernel
theorem dX7_readLine_136 : decode cX7_readLine 136 = .ok (.putfield 64, 3) := by decide +kernel
theorem dX7_readLine_139 : decode cX7_readLine 139 = .ok (.aload_n 0, 1) := by decide +kernel
theorem dX7_readLine_140 : decode cX7_readLine 140 = .ok (.invokevirtual 125, 3) := by decide +kernel
theorem dX7_readLine_143 : decode cX7_readLine 143 = .ok (.aload_n 0, 1) := by decide +kernel
theorem dX7_readLine_144 : decode cX7_readLine 144 = .ok (.getfield 79, 3) := by decide +kernel
theorem dX7_readLine_147 : decode cX7_readLine 147 = .ok (.ifCond .le 4, 3) := by decide +kernel
theorem dX7_readLine_150 : decode cX7_readLine 150 = .ok (.return_, 1) := by decide +kernel
theorem dX7_readLine_151 : decode cX7_readLine 151 = .ok (.aload_n 0, 1) := by decide +kernel
theorem dX7_readLine_152 : decode cX7_readLine 152 = .ok (.iload_n 1, 1) := by decide +kernel
theorem dX7_readLine_153 : decode cX7_readLine 153 = .ok (.invokevirtual 145, 3) := by decide +kernel
theorem dX7_readLine_156 : decode cX7_readLine 156 = .ok (.aload_n 0, 1) := by decide +kernel
theorem dX7_readLine_157 : decode cX7_readLine 157 = .ok (.getfield 79, 3) := by decide +kernel
theorem dX7_readLine_160 : decode cX7_readLine 160 = .ok (.ifCond .ne 21, 3) := by decide +kernel
theorem dX7_readLine_163 : decode cX7_readLine 163 = .ok (.aload_n 0, 1) := by decide +kernel
theorem dX7_readLine_164 : decode cX7_readLine 164 = .ok (.aload_n 0, 1) := by decide +kernel
theorem dX7_readLine_165 : decode cX7_readLine 165 = .ok (.getfield 103, 3) := by decide +kernel
theorem dX7_readLine_168 : decode cX7_readLine 168 = .ok (.iconst 3, 1) := by decide +kernel
theorem dX7_readLine_169 : decode cX7_readLine 169 = .ok (.if_icmp .ne 7, 3) := by decide +kernel
theorem dX7_readLine_172 : decode cX7_readLine 172 = .ok (.iconst 1, 1) := by decide +kernel
theorem dX7_readLine_173 : decode cX7_readLine 173 = .ok (.goto 4, 3) := by decide +kernel
theorem dX7_readLine_176 : decode cX7_readLine 176 = .ok (.iconst 0, 1) := by decide +kernel
theorem dX7_readLine_177 : decode cX7_readLine 177 = .ok (.iconst 2, 1) := by decide +kernel
theorem dX7_readLine_178 : decode cX7_readLine 178 = .ok (.invokevirtual 117, 3) := by decide +kernel
theorem dX7_readLine_181 : decode cX7_readLine 181 = .ok (.aload_n 0, 1) := by decide +kernel
theorem dX7_readLine_182 : decode cX7_readLine 182 = .ok (.invokevirtual 125, 3) := by decide +kernel
theorem dX7_readLine_185 : decode cX7_readLine 185 = .ok (.return_, 1) := by decide +kernel
theorem dX7_text_0 : decode cX7_text 0 = .ok (.iconst 0, 1) := by decide +kernel
theorem dX7_text_1 : decode cX7_text 1 = .ok (.istore_n 1, 1) := by decide +kernel
theorem dX7_text_2 : decode cX7_text 2 = .ok (.aload_n 0, 1) := by decide +kernel
theorem dX7_text_3 : decode cX7_text 3 = .ok (.iconst 0, 1) := by decide +kernel
theorem dX7_text_4 : decode cX7_text 4 = .ok (.putfield 79, 3) := by decide +kernel
theorem dX7_text_7 : decode cX7_text 7 = .ok (.aload_n 0, 1) := by decide +kernel
theorem dX7_text_8 : decode cX7_text 8 = .ok (.iconst 0, 1) := by decide +kernel
theorem dX7_text_9 : decode cX7_text 9 = .ok (.putfield 88, 3) := by decide +kernel
theorem dX7_text_12 : decode cX7_text 12 = .ok (.aload_n 0, 1) := by decide +kernel
theorem dX7_text_13 : decode cX7_text 13 = .ok (.invokevirtual 44, 3) := by decide +kernel
theorem dX7_text_16 : decode cX7_text 16 = .ok (.aload_n 0, 1) := by decide +kernel
theorem dX7_text_17 : decode cX7_text 17 = .ok (.invokevirtual 125, 3) := by decide +kernel
theorem dX7_text_20 : decode cX7_text 20 = .ok (.aload_n 0, 1) := by decide +kernel
theorem dX7_text_21 : decode cX7_text 21 = .ok (.getfield 79, 3) := by decide +kernel
theorem dX7_text_24 : decode cX7_text 24 = .ok (.ifCond .ne 20, 3) := by decide +kernel
theorem dX7_text_27 : decode cX7_text 27 = .ok (.aload_n 0, 1) := by decide +kernel
theorem dX7_text_28 : decode cX7_text 28 = .ok (.getfield 103, 3) := by decide +kernel
theorem dX7_text_31 : decode cX7_text 31 = .ok (.ifCond .eq 13, 3) := by decide +kernel
theorem dX7_text_34 : decode cX7_text 34 = .ok (.aload_n 0, 1) := by decide +kernel
theorem dX7_text_35 : decode cX7_text 35 = .ok (.invokevirtual 149, 3) := by decide +kernel
theorem dX7_text_38 : decode cX7_text 38 = .ok (.iinc 1 1, 3) := by decide +kernel
theorem dX7_text_41 : decode cX7_text 41 = .ok (.goto (-21), 3) := by decide +kernel
theorem dX7_text_44 : decode cX7_text 44 = .ok (.aload_n 0, 1) := by decide +kernel
theorem dX7_text_45 : decode cX7_text 45 = .ok (.iconst 0, 1) := by decide +kernel
theorem dX7_text_46 : decode cX7_text 46 = .ok (.putfield 76, 3) := by decide +kernel
theorem dX7_text_49 : decode cX7_text 49 = .ok (.aload_n 0, 1) := by decide +kernel
theorem dX7_text_50 : decode cX7_text 50 = .ok (.getfield 79, 3) := by decide +kernel
theorem dX7_text_53 : decode cX7_text 53 = .ok (.ifCond .le 11, 3) := by decide +kernel
theorem dX7_text_56 : decode cX7_text 56 = .ok (.bipush (-10), 2) := by decide +kernel
theorem dX7_text_58 : decode cX7_text 58 = .ok (.aload_n 0, 1) := by decide +kernel
theorem dX7_text_59 : decode cX7_text 59 = .ok (.getfield 85, 3) := by decide +kernel
theorem dX7_text_62 : decode cX7_text 62 = .ok (.isub, 1) := by decide +kernel
theorem dX7_text_63 : decode cX7_text 63 = .ok (.ireturn, 1) := by decide +kernel
theorem dX7_text_64 : decode cX7_text 64 = .ok (.aload_n 0, 1) := by decide +kernel
theorem dX7_text_65 : decode cX7_text 65 = .ok (.invokevirtual 47, 3) := by decide +kernel
theorem dX7_text_68 : decode cX7_text 68 = .ok (.iload_n 1, 1) := by decide +kernel
theorem dX7_text_69 : decode cX7_text 69 = .ok (.ireturn, 1) := by decide +kernel
theorem dX7_fault_0 : decode cX7_fault 0 = .ok (.aload_n 0, 1) := by decide +kernel
theorem dX7_fault_1 : decode cX7_fault 1 = .ok (.getfield 79, 3) := by decide +kernel
theorem dX7_fault_4 : decode cX7_fault 4 = .ok (.ireturn, 1) := by decide +kernel
theorem dX7_isGlove_0 : decode cX7_isGlove 0 = .ok (.iload_n 1, 1) := by decide +kernel
theorem dX7_isGlove_1 : decode cX7_isGlove 1 = .ok (.i2l, 1) := by decide +kernel
theorem dX7_isGlove_2 : decode cX7_isGlove 2 = .ok (.lconst 0, 1) := by decide +kernel
theorem dX7_isGlove_3 : decode cX7_isGlove 3 = .ok (.aload_n 0, 1) := by decide +kernel
theorem dX7_isGlove_4 : decode cX7_isGlove 4 = .ok (.getfield 67, 3) := by decide +kernel
theorem dX7_isGlove_7 : decode cX7_isGlove 7 = .ok (.iconst 1, 1) := by decide +kernel
theorem dX7_isGlove_8 : decode cX7_isGlove 8 = .ok (.isub, 1) := by decide +kernel
theorem dX7_isGlove_9 : decode cX7_isGlove 9 = .ok (.i2l, 1) := by decide +kernel
theorem dX7_isGlove_10 : decode cX7_isGlove 10 = .ok (.invokestatic 72, 3) := by decide +kernel
theorem dX7_isGlove_13 : decode cX7_isGlove 13 = .ok (.ireturn, 1) := by decide +kernel
theorem dX7_isDoor_0 : decode cX7_isDoor 0 = .ok (.iload_n 0, 1) := by decide +kernel
theorem dX7_isDoor_1 : decode cX7_isDoor 1 = .ok (.i2l, 1) := by decide +kernel
theorem dX7_isDoor_2 : decode cX7_isDoor 2 = .ok (.lconst 0, 1) := by decide +kernel
theorem dX7_isDoor_3 : decode cX7_isDoor 3 = .ok (.ldc2_w 152, 3) := by decide +kernel
theorem dX7_isDoor_6 : decode cX7_isDoor 6 = .ok (.invokestatic 72, 3) := by decide +kernel
theorem dX7_isDoor_9 : decode cX7_isDoor 9 = .ok (.ireturn, 1) := by decide +kernel
theorem dX7_isCall_0 : decode cX7_isCall 0 = .ok (.iload_n 1, 1) := by decide +kernel
theorem dX7_isCall_1 : decode cX7_isCall 1 = .ok (.i2l, 1) := by decide +kernel
theorem dX7_isCall_2 : decode cX7_isCall 2 = .ok (.lconst 0, 1) := by decide +kernel
theorem dX7_isCall_3 : decode cX7_isCall 3 = .ok (.aload_n 0, 1) := by decide +kernel
theorem dX7_isCall_4 : decode cX7_isCall 4 = .ok (.getfield 7, 3) := by decide +kernel
theorem dX7_isCall_7 : decode cX7_isCall 7 = .ok (.bipush 29, 2) := by decide +kernel
theorem dX7_isCall_9 : decode cX7_isCall 9 = .ok (.iaload, 1) := by decide +kernel
theorem dX7_isCall_10 : decode cX7_isCall 10 = .ok (.iconst 1, 1) := by decide +kernel
theorem dX7_isCall_11 : decode cX7_isCall 11 = .ok (.isub, 1) := by decide +kernel
theorem dX7_isCall_12 : decode cX7_isCall 12 = .ok (.i2l, 1) := by decide +kernel
theorem dX7_isCall_13 : decode cX7_isCall 13 = .ok (.invokestatic 72, 3) := by decide +kernel
theorem dX7_isCall_16 : decode cX7_isCall 16 = .ok (.ireturn, 1) := by decide +kernel
theorem dX7_isPart_0 : decode cX7_isPart 0 = .ok (.iload_n 0, 1) := by decide +kernel
theorem dX7_isPart_1 : decode cX7_isPart 1 = .ok (.i2l, 1) := by decide +kernel
theorem dX7_isPart_2 : decode cX7_isPart 2 = .ok (.lconst 0, 1) := by decide +kernel
theorem dX7_isPart_3 : decode cX7_isPart 3 = .ok (.lconst 1, 1) := by decide +kernel
theorem dX7_isPart_4 : decode cX7_isPart 4 = .ok (.invokestatic 72, 3) := by decide +kernel
theorem dX7_isPart_7 : decode cX7_isPart 7 = .ok (.ireturn, 1) := by decide +kernel
theorem dX7_starts_0 : decode cX7_starts 0 = .ok (.iconst 0, 1) := by decide +kernel
theorem dX7_starts_1 : decode cX7_starts 1 = .ok (.istore_n 1, 1) := by decide +kernel
theorem dX7_starts_2 : decode cX7_starts 2 = .ok (.iload_n 1, 1) := by decide +kernel
theorem dX7_starts_3 : decode cX7_starts 3 = .ok (.bipush 57, 2) := by decide +kernel
theorem dX7_starts_5 : decode cX7_starts 5 = .ok (.if_icmp .ge 21, 3) := by decide +kernel
theorem dX7_starts_8 : decode cX7_starts 8 = .ok (.aload_n 0, 1) := by decide +kernel
theorem dX7_starts_9 : decode cX7_starts 9 = .ok (.getfield 13, 3) := by decide +kernel
theorem dX7_starts_12 : decode cX7_starts 12 = .ok (.iload_n 1, 1) := by decide +kernel
theorem dX7_starts_13 : decode cX7_starts 13 = .ok (.aload_n 0, 1) := by decide +kernel
theorem dX7_starts_14 : decode cX7_starts 14 = .ok (.getfield 7, 3) := by decide +kernel
theorem dX7_starts_17 : decode cX7_starts 17 = .ok (.iload_n 1, 1) := by decide +kernel
theorem dX7_starts_18 : decode cX7_starts 18 = .ok (.iaload, 1) := by decide +kernel
theorem dX7_starts_19 : decode cX7_starts 19 = .ok (.iastore, 1) := by decide +kernel
theorem dX7_starts_20 : decode cX7_starts 20 = .ok (.iinc 1 1, 3) := by decide +kernel
theorem dX7_starts_23 : decode cX7_starts 23 = .ok (.goto (-21), 3) := by decide +kernel
theorem dX7_starts_26 : decode cX7_starts 26 = .ok (.return_, 1) := by decide +kernel
theorem dX7_settles_0 : decode cX7_settles 0 = .ok (.iconst 0, 1) := by decide +kernel
theorem dX7_settles_1 : decode cX7_settles 1 = .ok (.istore_n 1, 1) := by decide +kernel
theorem dX7_settles_2 : decode cX7_settles 2 = .ok (.iload_n 1, 1) := by decide +kernel
theorem dX7_settles_3 : decode cX7_settles 3 = .ok (.bipush 57, 2) := by decide +kernel
theorem dX7_settles_5 : decode cX7_settles 5 = .ok (.if_icmp .ge 21, 3) := by decide +kernel
theorem dX7_settles_8 : decode cX7_settles 8 = .ok (.aload_n 0, 1) := by decide +kernel
theorem dX7_settles_9 : decode cX7_settles 9 = .ok (.getfield 7, 3) := by decide +kernel
theorem dX7_settles_12 : decode cX7_settles 12 = .ok (.iload_n 1, 1) := by decide +kernel
theorem dX7_settles_13 : decode cX7_settles 13 = .ok (.aload_n 0, 1) := by decide +kernel
theorem dX7_settles_14 : decode cX7_settles 14 = .ok (.getfield 13, 3) := by decide +kernel
theorem dX7_settles_17 : decode cX7_settles 17 = .ok (.iload_n 1, 1) := by decide +kernel
theorem dX7_settles_18 : decode cX7_settles 18 = .ok (.iaload, 1) := by decide +kernel
theorem dX7_settles_19 : decode cX7_settles 19 = .ok (.iastore, 1) := by decide +kernel
theorem dX7_settles_20 : decode cX7_settles 20 = .ok (.iinc 1 1, 3) := by decide +kernel
theorem dX7_settles_23 : decode cX7_settles 23 = .ok (.goto (-21), 3) := by decide +kernel
theorem dX7_settles_26 : decode cX7_settles 26 = .ok (.return_, 1) := by decide +kernel
theorem dX7_of_0 : decode cX7_of 0 = .ok (.aload_n 0, 1) := by decide +kernel
theorem dX7_of_1 : decode cX7_of 1 = .ok (.getfield 13, 3) := by decide +kernel
theorem dX7_of_4 : decode cX7_of 4 = .ok (.bipush 12, 2) := by decide +kernel
theorem dX7_of_6 : decode cX7_of 6 = .ok (.iconst 4, 1) := by decide +kernel
theorem dX7_of_7 : decode cX7_of 7 = .ok (.iload_n 1, 1) := by decide +kernel
theorem dX7_of_8 : decode cX7_of 8 = .ok (.imul, 1) := by decide +kernel
theorem dX7_of_9 : decode cX7_of 9 = .ok (.iadd, 1) := by decide +kernel
theorem dX7_of_10 : decode cX7_of 10 = .ok (.iload_n 2, 1) := by decide +kernel
theorem dX7_of_11 : decode cX7_of 11 = .ok (.iadd, 1) := by decide +kernel
theorem dX7_of_12 : decode cX7_of 12 = .ok (.iaload, 1) := by decide +kernel
theorem dX7_of_13 : decode cX7_of 13 = .ok (.ireturn, 1) := by decide +kernel
theorem dX7_becomesOf_0 : decode cX7_becomesOf 0 = .ok (.aload_n 0, 1) := by decide +kernel
theorem dX7_becomesOf_1 : decode cX7_becomesOf 1 = .ok (.getfield 13, 3) := by decide +kernel
theorem dX7_becomesOf_4 : decode cX7_becomesOf 4 = .ok (.bipush 12, 2) := by decide +kernel
theorem dX7_becomesOf_6 : decode cX7_becomesOf 6 = .ok (.iconst 4, 1) := by decide +kernel
theorem dX7_becomesOf_7 : decode cX7_becomesOf 7 = .ok (.iload_n 1, 1) := by decide +kernel
theorem dX7_becomesOf_8 : decode cX7_becomesOf 8 = .ok (.imul, 1) := by decide +kernel
theorem dX7_becomesOf_9 : decode cX7_becomesOf 9 = .ok (.iadd, 1) := by decide +kernel
theorem dX7_becomesOf_10 : decode cX7_becomesOf 10 = .ok (.iload_n 2, 1) := by decide +kernel
theorem dX7_becomesOf_11 : decode cX7_becomesOf 11 = .ok (.iadd, 1) := by decide +kernel
theorem dX7_becomesOf_12 : decode cX7_becomesOf 12 = .ok (.iload_n 3, 1) := by decide +kernel
theorem dX7_becomesOf_13 : decode cX7_becomesOf 13 = .ok (.iastore, 1) := by decide +kernel
theorem dX7_becomesOf_14 : decode cX7_becomesOf 14 = .ok (.return_, 1) := by decide +kernel
theorem dX7_isPaired_0 : decode cX7_isPaired 0 = .ok (.aload_n 0, 1) := by decide +kernel
theorem dX7_isPaired_1 : decode cX7_isPaired 1 = .ok (.iload_n 1, 1) := by decide +kernel
theorem dX7_isPaired_2 : decode cX7_isPaired 2 = .ok (.iconst 3, 1) := by decide +kernel
theorem dX7_isPaired_3 : decode cX7_isPaired 3 = .ok (.invokevirtual 154, 3) := by decide +kernel
theorem dX7_isPaired_6 : decode cX7_isPaired 6 = .ok (.iconst 1, 1) := by decide +kernel
theorem dX7_isPaired_7 : decode cX7_isPaired 7 = .ok (.if_icmp .ne 7, 3) := by decide +kernel
theorem dX7_isPaired_10 : decode cX7_isPaired 10 = .ok (.iconst 1, 1) := by decide +kernel
theorem dX7_isPaired_11 : decode cX7_isPaired 11 = .ok (.goto 4, 3) := by decide +kernel
theorem dX7_isPaired_14 : decode cX7_isPaired 14 = .ok (.iconst 0, 1) := by decide +kernel
theorem dX7_isPaired_15 : decode cX7_isPaired 15 = .ok (.ireturn, 1) := by decide +kernel
theorem dX7_isCold_0 : decode cX7_isCold 0 = .ok (.aload_n 0, 1) := by decide +kernel
theorem dX7_isCold_1 : decode cX7_isCold 1 = .ok (.iload_n 1, 1) := by decide +kernel
theorem dX7_isCold_2 : decode cX7_isCold 2 = .ok (.invokevirtual 157, 3) := by decide +kernel
theorem dX7_isCold_5 : decode cX7_isCold 5 = .ok (.ifCond .ne 16, 3) := by decide +kernel
theorem dX7_isCold_8 : decode cX7_isCold 8 = .ok (.aload_n 0, 1) := by decide +kernel
theorem dX7_isCold_9 : decode cX7_isCold 9 = .ok (.iload_n 1, 1) := by decide +kernel
theorem dX7_isCold_10 : decode cX7_isCold 10 = .ok (.iconst 2, 1) := by decide +kernel
theorem dX7_isCold_11 : decode cX7_isCold 11 = .ok (.invokevirtual 154, 3) := by decide +kernel
theorem dX7_isCold_14 : decode cX7_isCold 14 = .ok (.ifCond .ne 7, 3) := by decide +kernel
theorem dX7_isCold_17 : decode cX7_isCold 17 = .ok (.iconst 1, 1) := by decide +kernel
theorem dX7_isCold_18 : decode cX7_isCold 18 = .ok (.goto 4, 3) := by decide +kernel
theorem dX7_isCold_21 : decode cX7_isCold 21 = .ok (.iconst 0, 1) := by decide +kernel
theorem dX7_isCold_22 : decode cX7_isCold 22 = .ok (.ireturn, 1) := by decide +kernel
theorem dX7_doorOf_0 : decode cX7_doorOf 0 = .ok (.aload_n 0, 1) := by decide +kernel
theorem dX7_doorOf_1 : decode cX7_doorOf 1 = .ok (.iload_n 1, 1) := by decide +kernel
theorem dX7_doorOf_2 : decode cX7_doorOf 2 = .ok (.invokevirtual 157, 3) := by decide +kernel
theorem dX7_doorOf_5 : decode cX7_doorOf 5 = .ok (.ifCond .eq 13, 3) := by decide +kernel
theorem dX7_doorOf_8 : decode cX7_doorOf 8 = .ok (.aload_n 0, 1) := by decide +kernel
theorem dX7_doorOf_9 : decode cX7_doorOf 9 = .ok (.getfield 13, 3) := by decide +kernel
theorem dX7_doorOf_12 : decode cX7_doorOf 12 = .ok (.bipush 28, 2) := by decide +kernel
theorem dX7_doorOf_14 : decode cX7_doorOf 14 = .ok (.iaload, 1) := by decide +kernel
theorem dX7_doorOf_15 : decode cX7_doorOf 15 = .ok (.goto 9, 3) := by decide +kernel
theorem dX7_doorOf_18 : decode cX7_doorOf 18 = .ok (.aload_n 0, 1) := by decide +kernel
theorem dX7_doorOf_19 : decode cX7_doorOf 19 = .ok (.iload_n 1, 1) := by decide +kernel
theorem dX7_doorOf_20 : decode cX7_doorOf 20 = .ok (.iconst 1, 1) := by decide +kernel
theorem dX7_doorOf_21 : decode cX7_doorOf 21 = .ok (.invokevirtual 154, 3) := by decide +kernel
theorem dX7_doorOf_24 : decode cX7_doorOf 24 = .ok (.ireturn, 1) := by decide +kernel
theorem dX7_apart_0 : decode cX7_apart 0 = .ok (.iload_n 0, 1) := by decide +kernel
theorem dX7_apart_1 : decode cX7_apart 1 = .ok (.iload_n 1, 1) := by decide +kernel
theorem dX7_apart_2 : decode cX7_apart 2 = .ok (.if_icmp .le 9, 3) := by decide +kernel
theorem dX7_apart_5 : decode cX7_apart 5 = .ok (.iload_n 0, 1) := by decide +kernel
theorem dX7_apart_6 : decode cX7_apart 6 = .ok (.iload_n 1, 1) := by decide +kernel
theorem dX7_apart_7 : decode cX7_apart 7 = .ok (.isub, 1) := by decide +kernel
theorem dX7_apart_8 : decode cX7_apart 8 = .ok (.goto 6, 3) := by decide +kernel
theorem dX7_apart_11 : decode cX7_apart 11 = .ok (.iload_n 1, 1) := by decide +kernel
theorem dX7_apart_12 : decode cX7_apart 12 = .ok (.iload_n 0, 1) := by decide +kernel
theorem dX7_apart_13 : decode cX7_apart 13 = .ok (.isub, 1) := by decide +kernel
theorem dX7_apart_14 : decode cX7_apart 14 = .ok (.istore_n 2, 1) := by decide +kernel
theorem dX7_apart_15 : decode cX7_apart 15 = .ok (.iload_n 2, 1) := by decide +kernel
theorem dX7_apart_16 : decode cX7_apart 16 = .ok (.bipush 12, 2) := by decide +kernel
theorem dX7_apart_18 : decode cX7_apart 18 = .ok (.iload_n 2, 1) := by decide +kernel
theorem dX7_apart_19 : decode cX7_apart 19 = .ok (.isub, 1) := by decide +kernel
theorem dX7_apart_20 : decode cX7_apart 20 = .ok (.if_icmp .le 10, 3) := by decide +kernel
theorem dX7_apart_23 : decode cX7_apart 23 = .ok (.bipush 12, 2) := by decide +kernel
theorem dX7_apart_25 : decode cX7_apart 25 = .ok (.iload_n 2, 1) := by decide +kernel
theorem dX7_apart_26 : decode cX7_apart 26 = .ok (.isub, 1) := by decide +kernel
theorem dX7_apart_27 : decode cX7_apart 27 = .ok (.goto 4, 3) := by decide +kernel
theorem dX7_apart_30 : decode cX7_apart 30 = .ok (.iload_n 2, 1) := by decide +kernel
theorem dX7_apart_31 : decode cX7_apart 31 = .ok (.ireturn, 1) := by decide +kernel
theorem dX7_stepOf_0 : decode cX7_stepOf 0 = .ok (.aload_n 0, 1) := by decide +kernel
theorem dX7_stepOf_1 : decode cX7_stepOf 1 = .ok (.iload_n 1, 1) := by decide +kernel
theorem dX7_stepOf_2 : decode cX7_stepOf 2 = .ok (.invokevirtual 160, 3) := by decide +kernel
theorem dX7_stepOf_5 : decode cX7_stepOf 5 = .ok (.istore_n 2, 1) := by decide +kernel
theorem dX7_stepOf_6 : decode cX7_stepOf 6 = .ok (.iload_n 2, 1) := by decide +kernel
theorem dX7_stepOf_7 : decode cX7_stepOf 7 = .ok (.iconst 1, 1) := by decide +kernel
theorem dX7_stepOf_8 : decode cX7_stepOf 8 = .ok (.iadd, 1) := by decide +kernel
theorem dX7_stepOf_9 : decode cX7_stepOf 9 = .ok (.bipush 12, 2) := by decide +kernel
theorem dX7_stepOf_11 : decode cX7_stepOf 11 = .ok (.irem, 1) := by decide +kernel
theorem dX7_stepOf_12 : decode cX7_stepOf 12 = .ok (.istore_n 3, 1) := by decide +kernel
theorem dX7_stepOf_13 : decode cX7_stepOf 13 = .ok (.iload_n 2, 1) := by decide +kernel
theorem dX7_stepOf_14 : decode cX7_stepOf 14 = .ok (.bipush 12, 2) := by decide +kernel
theorem dX7_stepOf_16 : decode cX7_stepOf 16 = .ok (.iadd, 1) := by decide +kernel
theorem dX7_stepOf_17 : decode cX7_stepOf 17 = .ok (.iconst 1, 1) := by decide +kernel
theorem dX7_stepOf_18 : decode cX7_stepOf 18 = .ok (.isub, 1) := by decide +kernel
theorem dX7_stepOf_19 : decode cX7_stepOf 19 = .ok (.bipush 12, 2) := by decide +kernel
theorem dX7_stepOf_21 : decode cX7_stepOf 21 = .ok (.irem, 1) := by decide +kernel
theorem dX7_stepOf_22 : decode cX7_stepOf 22 = .ok (.istore 4, 2) := by decide +kernel
theorem dX7_stepOf_24 : decode cX7_stepOf 24 = .ok (.iload 4, 2) := by decide +kernel
theorem dX7_stepOf_26 : decode cX7_stepOf 26 = .ok (.aload_n 0, 1) := by decide +kernel
theorem dX7_stepOf_27 : decode cX7_stepOf 27 = .ok (.getfield 13, 3) := by decide +kernel
theorem dX7_stepOf_30 : decode cX7_stepOf 30 = .ok (.bipush 28, 2) := by decide +kernel
theorem dX7_stepOf_32 : decode cX7_stepOf 32 = .ok (.iaload, 1) := by decide +kernel
theorem dX7_stepOf_33 : decode cX7_stepOf 33 = .ok (.invokestatic 163, 3) := by decide +kernel
theorem dX7_stepOf_36 : decode cX7_stepOf 36 = .ok (.iload_n 3, 1) := by decide +kernel
theorem dX7_stepOf_37 : decode cX7_stepOf 37 = .ok (.aload_n 0, 1) := by decide +kernel
theorem dX7_stepOf_38 : decode cX7_stepOf 38 = .ok (.getfield 13, 3) := by decide +kernel
theorem dX7_stepOf_41 : decode cX7_stepOf 41 = .ok (.bipush 28, 2) := by decide +kernel
theorem dX7_stepOf_43 : decode cX7_stepOf 43 = .ok (.iaload, 1) := by decide +kernel
theorem dX7_stepOf_44 : decode cX7_stepOf 44 = .ok (.invokestatic 163, 3) := by decide +kernel
theorem dX7_stepOf_47 : decode cX7_stepOf 47 = .ok (.isub, 1) := by decide +kernel
theorem dX7_stepOf_48 : decode cX7_stepOf 48 = .ok (.istore 5, 2) := by decide +kernel
theorem dX7_stepOf_50 : decode cX7_stepOf 50 = .ok (.aload_n 0, 1) := by decide +kernel
theorem dX7_stepOf_51 : decode cX7_stepOf 51 = .ok (.iload_n 1, 1) := by decide +kernel
theorem dX7_stepOf_52 : decode cX7_stepOf 52 = .ok (.iconst 0, 1) := by decide +kernel
theorem dX7_stepOf_53 : decode cX7_stepOf 53 = .ok (.invokevirtual 154, 3) := by decide +kernel
theorem dX7_stepOf_56 : decode cX7_stepOf 56 = .ok (.tableswitch 59 1 3 #[28, 35, 47], 28) := by decide +kernel
theorem dX7_stepOf_84 : decode cX7_stepOf 84 = .ok (.iload_n 2, 1) := by decide +kernel
theorem dX7_stepOf_85 : decode cX7_stepOf 85 = .ok (.iconst 2, 1) := by decide +kernel
theorem dX7_stepOf_86 : decode cX7_stepOf 86 = .ok (.iadd, 1) := by decide +kernel
theorem dX7_stepOf_87 : decode cX7_stepOf 87 = .ok (.bipush 12, 2) := by decide +kernel
theorem dX7_stepOf_89 : decode cX7_stepOf 89 = .ok (.irem, 1) := by decide +kernel
theorem dX7_stepOf_90 : decode cX7_stepOf 90 = .ok (.ireturn, 1) := by decide +kernel
theorem dX7_stepOf_91 : decode cX7_stepOf 91 = .ok (.iload 5, 2) := by decide +kernel
theorem dX7_stepOf_93 : decode cX7_stepOf 93 = .ok (.ifCond .le 8, 3) := by decide +kernel
theorem dX7_stepOf_96 : decode cX7_stepOf 96 = .ok (.iload 4, 2) := by decide +kernel
theorem dX7_stepOf_98 : decode cX7_stepOf 98 = .ok (.goto 4, 3) := by decide +kernel
theorem dX7_stepOf_101 : decode cX7_stepOf 101 = .ok (.iload_n 3, 1) := by decide +kernel
theorem dX7_stepOf_102 : decode cX7_stepOf 102 = .ok (.ireturn, 1) := by decide +kernel
theorem dX7_stepOf_103 : decode cX7_stepOf 103 = .ok (.iload 5, 2) := by decide +kernel
theorem dX7_stepOf_105 : decode cX7_stepOf 105 = .ok (.ifCond .ge 8, 3) := by decide +kernel
theorem dX7_stepOf_108 : decode cX7_stepOf 108 = .ok (.iload 4, 2) := by decide +kernel
theorem dX7_stepOf_110 : decode cX7_stepOf 110 = .ok (.goto 4, 3) := by decide +kernel
theorem dX7_stepOf_113 : decode cX7_stepOf 113 = .ok (.iload_n 3, 1) := by decide +kernel
theorem dX7_stepOf_114 : decode cX7_stepOf 114 = .ok (.ireturn, 1) := by decide +kernel
theorem dX7_stepOf_115 : decode cX7_stepOf 115 = .ok (.iload_n 3, 1) := by decide +kernel
theorem dX7_stepOf_116 : decode cX7_stepOf 116 = .ok (.ireturn, 1) := by decide +kernel
theorem dX7_gloveGoes_0 : decode cX7_gloveGoes 0 = .ok (.aload_n 0, 1) := by decide +kernel
theorem dX7_gloveGoes_1 : decode cX7_gloveGoes 1 = .ok (.iload_n 1, 1) := by decide +kernel
theorem dX7_gloveGoes_2 : decode cX7_gloveGoes 2 = .ok (.invokevirtual 157, 3) := by decide +kernel
theorem dX7_gloveGoes_5 : decode cX7_gloveGoes 5 = .ok (.ifCond .eq 23, 3) := by decide +kernel
theorem dX7_gloveGoes_8 : decode cX7_gloveGoes 8 = .ok (.aload_n 0, 1) := by decide +kernel
theorem dX7_gloveGoes_9 : decode cX7_gloveGoes 9 = .ok (.iload_n 1, 1) := by decide +kernel
theorem dX7_gloveGoes_10 : decode cX7_gloveGoes 10 = .ok (.iconst 2, 1) := by decide +kernel
theorem dX7_gloveGoes_11 : decode cX7_gloveGoes 11 = .ok (.bipush 20, 2) := by decide +kernel
theorem dX7_gloveGoes_13 : decode cX7_gloveGoes 13 = .ok (.aload_n 0, 1) := by decide +kernel
theorem dX7_gloveGoes_14 : decode cX7_gloveGoes 14 = .ok (.iload_n 1, 1) := by decide +kernel
theorem dX7_gloveGoes_15 : decode cX7_gloveGoes 15 = .ok (.iconst 2, 1) := by decide +kernel
theorem dX7_gloveGoes_16 : decode cX7_gloveGoes 16 = .ok (.invokevirtual 154, 3) := by decide +kernel
theorem dX7_gloveGoes_19 : decode cX7_gloveGoes 19 = .ok (.iconst 1, 1) := by decide +kernel
theorem dX7_gloveGoes_20 : decode cX7_gloveGoes 20 = .ok (.iadd, 1) := by decide +kernel
theorem dX7_gloveGoes_21 : decode cX7_gloveGoes 21 = .ok (.invokestatic 166, 3) := by decide +kernel
theorem dX7_gloveGoes_24 : decode cX7_gloveGoes 24 = .ok (.invokevirtual 169, 3) := by decide +kernel
theorem dX7_gloveGoes_27 : decode cX7_gloveGoes 27 = .ok (.return_, 1) := by decide +kernel
theorem dX7_gloveGoes_28 : decode cX7_gloveGoes 28 = .ok (.aload_n 0, 1) := by decide +kernel
theorem dX7_gloveGoes_29 : decode cX7_gloveGoes 29 = .ok (.iload_n 1, 1) := by decide +kernel
theorem dX7_gloveGoes_30 : decode cX7_gloveGoes 30 = .ok (.invokevirtual 173, 3) := by decide +kernel
theorem dX7_gloveGoes_33 : decode cX7_gloveGoes 33 = .ok (.ifCond .eq 4, 3) := by decide +kernel
theorem dX7_gloveGoes_36 : decode cX7_gloveGoes 36 = .ok (.return_, 1) := by decide +kernel
theorem dX7_gloveGoes_37 : decode cX7_gloveGoes 37 = .ok (.aload_n 0, 1) := by decide +kernel
theorem dX7_gloveGoes_38 : decode cX7_gloveGoes 38 = .ok (.iload_n 1, 1) := by decide +kernel
theorem dX7_gloveGoes_39 : decode cX7_gloveGoes 39 = .ok (.invokevirtual 176, 3) := by decide +kernel
theorem dX7_gloveGoes_42 : decode cX7_gloveGoes 42 = .ok (.istore_n 2, 1) := by decide +kernel
theorem dX7_gloveGoes_43 : decode cX7_gloveGoes 43 = .ok (.aload_n 0, 1) := by decide +kernel
theorem dX7_gloveGoes_44 : decode cX7_gloveGoes 44 = .ok (.iload_n 1, 1) := by decide +kernel
theorem dX7_gloveGoes_45 : decode cX7_gloveGoes 45 = .ok (.iconst 1, 1) := by decide +kernel
theorem dX7_gloveGoes_46 : decode cX7_gloveGoes 46 = .ok (.iload_n 2, 1) := by decide +kernel
theorem dX7_gloveGoes_47 : decode cX7_gloveGoes 47 = .ok (.invokevirtual 169, 3) := by decide +kernel
theorem dX7_gloveGoes_50 : decode cX7_gloveGoes 50 = .ok (.iload_n 2, 1) := by decide +kernel
theorem dX7_gloveGoes_51 : decode cX7_gloveGoes 51 = .ok (.aload_n 0, 1) := by decide +kernel
theorem dX7_gloveGoes_52 : decode cX7_gloveGoes 52 = .ok (.getfield 13, 3) := by decide +kernel
theorem dX7_gloveGoes_55 : decode cX7_gloveGoes 55 = .ok (.bipush 28, 2) := by decide +kernel
theorem dX7_gloveGoes_57 : decode cX7_gloveGoes 57 = .ok (.iaload, 1) := by decide +kernel
theorem dX7_gloveGoes_58 : decode cX7_gloveGoes 58 = .ok (.if_icmp .ne 13, 3) := by decide +kernel
theorem dX7_gloveGoes_61 : decode cX7_gloveGoes 61 = .ok (.aload_n 0, 1) := by decide +kernel
theorem dX7_gloveGoes_62 : decode cX7_gloveGoes 62 = .ok (.iload_n 1, 1) := by decide +kernel
theorem dX7_gloveGoes_63 : decode cX7_gloveGoes 63 = .ok (.iconst 3, 1) := by decide +kernel
theorem dX7_gloveGoes_64 : decode cX7_gloveGoes 64 = .ok (.iconst 1, 1) := by decide +kernel
theorem dX7_gloveGoes_65 : decode cX7_gloveGoes 65 = .ok (.invokevirtual 169, 3) := by decide +kernel
theorem dX7_gloveGoes_68 : decode cX7_gloveGoes 68 = .ok (.goto 44, 3) := by decide +kernel
theorem dX7_gloveGoes_71 : decode cX7_gloveGoes 71 = .ok (.aload_n 0, 1) := by decide +kernel
theorem dX7_gloveGoes_72 : decode cX7_gloveGoes 72 = .ok (.getfield 13, 3) := by decide +kernel
theorem dX7_gloveGoes_75 : decode cX7_gloveGoes 75 = .ok (.bipush 36, 2) := by decide +kernel
theorem dX7_gloveGoes_77 : decode cX7_gloveGoes 77 = .ok (.sipush 9999, 3) := by decide +kernel
theorem dX7_gloveGoes_80 : decode cX7_gloveGoes 80 = .ok (.aload_n 0, 1) := by decide +kernel
theorem dX7_gloveGoes_81 : decode cX7_gloveGoes 81 = .ok (.getfield 13, 3) := by decide +kernel
theorem dX7_gloveGoes_84 : decode cX7_gloveGoes 84 = .ok (.bipush 36, 2) := by decide +kernel
theorem dX7_gloveGoes_86 : decode cX7_gloveGoes 86 = .ok (.iaload, 1) := by decide +kernel
theorem dX7_gloveGoes_87 : decode cX7_gloveGoes 87 = .ok (.aload_n 0, 1) := by decide +kernel
theorem dX7_gloveGoes_88 : decode cX7_gloveGoes 88 = .ok (.getfield 13, 3) := by decide +kernel
theorem dX7_gloveGoes_91 : decode cX7_gloveGoes 91 = .ok (.iload_n 2, 1) := by decide +kernel
theorem dX7_gloveGoes_92 : decode cX7_gloveGoes 92 = .ok (.iaload, 1) := by decide +kernel
theorem dX7_gloveGoes_93 : decode cX7_gloveGoes 93 = .ok (.iadd, 1) := by decide +kernel
theorem dX7_gloveGoes_94 : decode cX7_gloveGoes 94 = .ok (.invokestatic 166, 3) := by decide +kernel
theorem dX7_gloveGoes_97 : decode cX7_gloveGoes 97 = .ok (.iastore, 1) := by decide +kernel
theorem dX7_gloveGoes_98 : decode cX7_gloveGoes 98 = .ok (.aload_n 0, 1) := by decide +kernel
theorem dX7_gloveGoes_99 : decode cX7_gloveGoes 99 = .ok (.iload_n 1, 1) := by decide +kernel
theorem dX7_gloveGoes_100 : decode cX7_gloveGoes 100 = .ok (.iconst 2, 1) := by decide +kernel
theorem dX7_gloveGoes_101 : decode cX7_gloveGoes 101 = .ok (.aload_n 0, 1) := by decide +kernel
theorem dX7_gloveGoes_102 : decode cX7_gloveGoes 102 = .ok (.iload_n 1, 1) := by decide +kernel
theorem dX7_gloveGoes_103 : decode cX7_gloveGoes 103 = .ok (.iconst 2, 1) := by decide +kernel
theorem dX7_gloveGoes_104 : decode cX7_gloveGoes 104 = .ok (.invokevirtual 154, 3) := by decide +kernel
theorem dX7_gloveGoes_107 : decode cX7_gloveGoes 107 = .ok (.iconst 1, 1) := by decide +kernel
theorem dX7_gloveGoes_108 : decode cX7_gloveGoes 108 = .ok (.isub, 1) := by decide +kernel
theorem dX7_gloveGoes_109 : decode cX7_gloveGoes 109 = .ok (.invokevirtual 169, 3) := by decide +kernel
theorem dX7_gloveGoes_112 : decode cX7_gloveGoes 112 = .ok (.return_, 1) := by decide +kernel
theorem dX7_dayGoesAt_0 : decode cX7_dayGoesAt 0 = .ok (.aload_n 0, 1) := by decide +kernel
theorem dX7_dayGoesAt_1 : decode cX7_dayGoesAt 1 = .ok (.getfield 13, 3) := by decide +kernel
theorem dX7_dayGoesAt_4 : decode cX7_dayGoesAt 4 = .ok (.bipush 28, 2) := by decide +kernel
theorem dX7_dayGoesAt_6 : decode cX7_dayGoesAt 6 = .ok (.iload_n 1, 1) := by decide +kernel
theorem dX7_dayGoesAt_7 : decode cX7_dayGoesAt 7 = .ok (.iastore, 1) := by decide +kernel
theorem dX7_dayGoesAt_8 : decode cX7_dayGoesAt 8 = .ok (.iconst 0, 1) := by decide +kernel
theorem dX7_dayGoesAt_9 : decode cX7_dayGoesAt 9 = .ok (.istore_n 2, 1) := by decide +kernel
theorem dX7_dayGoesAt_10 : decode cX7_dayGoesAt 10 = .ok (.iload_n 2, 1) := by decide +kernel
theorem dX7_dayGoesAt_11 : decode cX7_dayGoesAt 11 = .ok (.aload_n 0, 1) := by decide +kernel
theorem dX7_dayGoesAt_12 : decode cX7_dayGoesAt 12 = .ok (.getfield 67, 3) := by decide +kernel
theorem dX7_dayGoesAt_15 : decode cX7_dayGoesAt 15 = .ok (.if_icmp .ge 14, 3) := by decide +kernel
theorem dX7_dayGoesAt_18 : decode cX7_dayGoesAt 18 = .ok (.aload_n 0, 1) := by decide +kernel
theorem dX7_dayGoesAt_19 : decode cX7_dayGoesAt 19 = .ok (.iload_n 2, 1) := by decide +kernel
theorem dX7_dayGoesAt_20 : decode cX7_dayGoesAt 20 = .ok (.invokevirtual 179, 3) := by decide +kernel
theorem dX7_dayGoesAt_23 : decode cX7_dayGoesAt 23 = .ok (.iinc 2 1, 3) := by decide +kernel
theorem dX7_dayGoesAt_26 : decode cX7_dayGoesAt 26 = .ok (.goto (-16), 3) := by decide +kernel
theorem dX7_dayGoesAt_29 : decode cX7_dayGoesAt 29 = .ok (.aload_n 0, 1) := by decide +kernel
theorem dX7_dayGoesAt_30 : decode cX7_dayGoesAt 30 = .ok (.getfield 13, 3) := by decide +kernel
theorem dX7_dayGoesAt_33 : decode cX7_dayGoesAt 33 = .ok (.bipush 37, 2) := by decide +kernel
theorem dX7_dayGoesAt_35 : decode cX7_dayGoesAt 35 = .ok (.dup2, 1) := by decide +kernel
theorem dX7_dayGoesAt_36 : decode cX7_dayGoesAt 36 = .ok (.iaload, 1) := by decide +kernel
theorem dX7_dayGoesAt_37 : decode cX7_dayGoesAt 37 = .ok (.iconst 1, 1) := by decide +kernel
theorem dX7_dayGoesAt_38 : decode cX7_dayGoesAt 38 = .ok (.iadd, 1) := by decide +kernel
theorem dX7_dayGoesAt_39 : decode cX7_dayGoesAt 39 = .ok (.iastore, 1) := by decide +kernel
theorem dX7_dayGoesAt_40 : decode cX7_dayGoesAt 40 = .ok (.return_, 1) := by decide +kernel
theorem dX7_nextDoor_0 : decode cX7_nextDoor 0 = .ok (.aload_n 0, 1) := by decide +kernel
theorem dX7_nextDoor_1 : decode cX7_nextDoor 1 = .ok (.getfield 13, 3) := by decide +kernel
theorem dX7_nextDoor_4 : decode cX7_nextDoor 4 = .ok (.bipush 29, 2) := by decide +kernel
theorem dX7_nextDoor_6 : decode cX7_nextDoor 6 = .ok (.iaload, 1) := by decide +kernel
theorem dX7_nextDoor_7 : decode cX7_nextDoor 7 = .ok (.ifCond .ne 13, 3) := by decide +kernel
theorem dX7_nextDoor_10 : decode cX7_nextDoor 10 = .ok (.aload_n 0, 1) := by decide +kernel
theorem dX7_nextDoor_11 : decode cX7_nextDoor 11 = .ok (.getfield 13, 3) := by decide +kernel
theorem dX7_nextDoor_14 : decode cX7_nextDoor 14 = .ok (.bipush 28, 2) := by decide +kernel
theorem dX7_nextDoor_16 : decode cX7_nextDoor 16 = .ok (.iaload, 1) := by decide +kernel
theorem dX7_nextDoor_17 : decode cX7_nextDoor 17 = .ok (.goto 26, 3) := by decide +kernel
theorem dX7_nextDoor_20 : decode cX7_nextDoor 20 = .ok (.aload_n 0, 1) := by decide +kernel
theorem dX7_nextDoor_21 : decode cX7_nextDoor 21 = .ok (.getfield 13, 3) := by decide +kernel
theorem dX7_nextDoor_24 : decode cX7_nextDoor 24 = .ok (.bipush 30, 2) := by decide +kernel
theorem dX7_nextDoor_26 : decode cX7_nextDoor 26 = .ok (.aload_n 0, 1) := by decide +kernel
theorem dX7_nextDoor_27 : decode cX7_nextDoor 27 = .ok (.getfield 13, 3) := by decide +kernel
theorem dX7_nextDoor_30 : decode cX7_nextDoor 30 = .ok (.bipush 37, 2) := by decide +kernel
theorem dX7_nextDoor_32 : decode cX7_nextDoor 32 = .ok (.iaload, 1) := by decide +kernel
theorem dX7_nextDoor_33 : decode cX7_nextDoor 33 = .ok (.aload_n 0, 1) := by decide +kernel
theorem dX7_nextDoor_34 : decode cX7_nextDoor 34 = .ok (.getfield 13, 3) := by decide +kernel
theorem dX7_nextDoor_37 : decode cX7_nextDoor 37 = .ok (.bipush 29, 2) := by decide +kernel
theorem dX7_nextDoor_39 : decode cX7_nextDoor 39 = .ok (.iaload, 1) := by decide +kernel
theorem dX7_nextDoor_40 : decode cX7_nextDoor 40 = .ok (.irem, 1) := by decide +kernel
theorem dX7_nextDoor_41 : decode cX7_nextDoor 41 = .ok (.iadd, 1) := by decide +kernel
theorem dX7_nextDoor_42 : decode cX7_nextDoor 42 = .ok (.iaload, 1) := by decide +kernel
theorem dX7_nextDoor_43 : decode cX7_nextDoor 43 = .ok (.ireturn, 1) := by decide +kernel
theorem dX7_daysGo_0 : decode cX7_daysGo 0 = .ok (.iconst 0, 1) := by decide +kernel
theorem dX7_daysGo_1 : decode cX7_daysGo 1 = .ok (.istore_n 2, 1) := by decide +kernel
theorem dX7_daysGo_2 : decode cX7_daysGo 2 = .ok (.iload_n 2, 1) := by decide +kernel
theorem dX7_daysGo_3 : decode cX7_daysGo 3 = .ok (.iload_n 1, 1) := by decide +kernel
theorem dX7_daysGo_4 : decode cX7_daysGo 4 = .ok (.if_icmp .ge 17, 3) := by decide +kernel
theorem dX7_daysGo_7 : decode cX7_daysGo 7 = .ok (.aload_n 0, 1) := by decide +kernel
theorem dX7_daysGo_8 : decode cX7_daysGo 8 = .ok (.aload_n 0, 1) := by decide +kernel
theorem dX7_daysGo_9 : decode cX7_daysGo 9 = .ok (.invokevirtual 182, 3) := by decide +kernel
theorem dX7_daysGo_12 : decode cX7_daysGo 12 = .ok (.invokevirtual 185, 3) := by decide +kernel
theorem dX7_daysGo_15 : decode cX7_daysGo 15 = .ok (.iinc 2 1, 3) := by decide +kernel
theorem dX7_daysGo_18 : decode cX7_daysGo 18 = .ok (.goto (-16), 3) := by decide +kernel
theorem dX7_daysGo_21 : decode cX7_daysGo 21 = .ok (.return_, 1) := by decide +kernel
theorem dX7_nameMore_0 : decode cX7_nameMore 0 = .ok (.aload_n 0, 1) := by decide +kernel
theorem dX7_nameMore_1 : decode cX7_nameMore 1 = .ok (.getfield 13, 3) := by decide +kernel
theorem dX7_nameMore_4 : decode cX7_nameMore 4 = .ok (.bipush 36, 2) := by decide +kernel
theorem dX7_nameMore_6 : decode cX7_nameMore 6 = .ok (.iaload, 1) := by decide +kernel
theorem dX7_nameMore_7 : decode cX7_nameMore 7 = .ok (.aload_n 0, 1) := by decide +kernel
theorem dX7_nameMore_8 : decode cX7_nameMore 8 = .ok (.getfield 7, 3) := by decide +kernel
theorem dX7_nameMore_11 : decode cX7_nameMore 11 = .ok (.bipush 36, 2) := by decide +kernel
theorem dX7_nameMore_13 : decode cX7_nameMore 13 = .ok (.iaload, 1) := by decide +kernel
theorem dX7_nameMore_14 : decode cX7_nameMore 14 = .ok (.isub, 1) := by decide +kernel
theorem dX7_nameMore_15 : decode cX7_nameMore 15 = .ok (.ireturn, 1) := by decide +kernel
theorem dX7_nameBehind_0 : decode cX7_nameBehind 0 = .ok (.aload_n 0, 1) := by decide +kernel
theorem dX7_nameBehind_1 : decode cX7_nameBehind 1 = .ok (.iload_n 1, 1) := by decide +kernel
theorem dX7_nameBehind_2 : decode cX7_nameBehind 2 = .ok (.invokevirtual 188, 3) := by decide +kernel
theorem dX7_nameBehind_5 : decode cX7_nameBehind 5 = .ok (.aload_n 0, 1) := by decide +kernel
theorem dX7_nameBehind_6 : decode cX7_nameBehind 6 = .ok (.invokevirtual 191, 3) := by decide +kernel
theorem dX7_nameBehind_9 : decode cX7_nameBehind 9 = .ok (.ireturn, 1) := by decide +kernel
theorem dX7_pairedNow_0 : decode cX7_pairedNow 0 = .ok (.iconst 0, 1) := by decide +kernel
theorem dX7_pairedNow_1 : decode cX7_pairedNow 1 = .ok (.istore_n 1, 1) := by decide +kernel
theorem dX7_pairedNow_2 : decode cX7_pairedNow 2 = .ok (.iconst 0, 1) := by decide +kernel
theorem dX7_pairedNow_3 : decode cX7_pairedNow 3 = .ok (.istore_n 2, 1) := by decide +kernel
theorem dX7_pairedNow_4 : decode cX7_pairedNow 4 = .ok (.iload_n 2, 1) := by decide +kernel
theorem dX7_pairedNow_5 : decode cX7_pairedNow 5 = .ok (.aload_n 0, 1) := by decide +kernel
theorem dX7_pairedNow_6 : decode cX7_pairedNow 6 = .ok (.getfield 67, 3) := by decide +kernel
theorem dX7_pairedNow_9 : decode cX7_pairedNow 9 = .ok (.if_icmp .ge 22, 3) := by decide +kernel
theorem dX7_pairedNow_12 : decode cX7_pairedNow 12 = .ok (.iload_n 1, 1) := by decide +kernel
theorem dX7_pairedNow_13 : decode cX7_pairedNow 13 = .ok (.aload_n 0, 1) := by decide +kernel
theorem dX7_pairedNow_14 : decode cX7_pairedNow 14 = .ok (.iload_n 2, 1) := by decide +kernel
theorem dX7_pairedNow_15 : decode cX7_pairedNow 15 = .ok (.invokevirtual 157, 3) := by decide +kernel
theorem dX7_pairedNow_18 : decode cX7_pairedNow 18 = .ok (.invokestatic 194, 3) := by decide +kernel
theorem dX7_pairedNow_21 : decode cX7_pairedNow 21 = .ok (.iload_n 2, 1) := by decide +kernel
theorem dX7_pairedNow_22 : decode cX7_pairedNow 22 = .ok (.ishl, 1) := by decide +kernel
theorem dX7_pairedNow_23 : decode cX7_pairedNow 23 = .ok (.ior, 1) := by decide +kernel
theorem dX7_pairedNow_24 : decode cX7_pairedNow 24 = .ok (.istore_n 1, 1) := by decide +kernel
theorem dX7_pairedNow_25 : decode cX7_pairedNow 25 = .ok (.iinc 2 1, 3) := by decide +kernel
theorem dX7_pairedNow_28 : decode cX7_pairedNow 28 = .ok (.goto (-24), 3) := by decide +kernel
theorem dX7_pairedNow_31 : decode cX7_pairedNow 31 = .ok (.iload_n 1, 1) := by decide +kernel
theorem dX7_pairedNow_32 : decode cX7_pairedNow 32 = .ok (.ireturn, 1) := by decide +kernel
theorem dX7_coldNow_0 : decode cX7_coldNow 0 = .ok (.iconst 0, 1) := by decide +kernel
theorem dX7_coldNow_1 : decode cX7_coldNow 1 = .ok (.istore_n 1, 1) := by decide +kernel
theorem dX7_coldNow_2 : decode cX7_coldNow 2 = .ok (.iconst 0, 1) := by decide +kernel
theorem dX7_coldNow_3 : decode cX7_coldNow 3 = .ok (.istore_n 2, 1) := by decide +kernel
theorem dX7_coldNow_4 : decode cX7_coldNow 4 = .ok (.iload_n 2, 1) := by decide +kernel
theorem dX7_coldNow_5 : decode cX7_coldNow 5 = .ok (.aload_n 0, 1) := by decide +kernel
theorem dX7_coldNow_6 : decode cX7_coldNow 6 = .ok (.getfield 67, 3) := by decide +kernel
theorem dX7_coldNow_9 : decode cX7_coldNow 9 = .ok (.if_icmp .ge 22, 3) := by decide +kernel
theorem dX7_coldNow_12 : decode cX7_coldNow 12 = .ok (.iload_n 1, 1) := by decide +kernel
theorem dX7_coldNow_13 : decode cX7_coldNow 13 = .ok (.aload_n 0, 1) := by decide +kernel
theorem dX7_coldNow_14 : decode cX7_coldNow 14 = .ok (.iload_n 2, 1) := by decide +kernel
theorem dX7_coldNow_15 : decode cX7_coldNow 15 = .ok (.invokevirtual 173, 3) := by decide +kernel
theorem dX7_coldNow_18 : decode cX7_coldNow 18 = .ok (.invokestatic 194, 3) := by decide +kernel
theorem dX7_coldNow_21 : decode cX7_coldNow 21 = .ok (.iload_n 2, 1) := by decide +kernel
theorem dX7_coldNow_22 : decode cX7_coldNow 22 = .ok (.ishl, 1) := by decide +kernel
theorem dX7_coldNow_23 : decode cX7_coldNow 23 = .ok (.ior, 1) := by decide +kernel
theorem dX7_coldNow_24 : decode cX7_coldNow 24 = .ok (.istore_n 1, 1) := by decide +kernel
theorem dX7_coldNow_25 : decode cX7_coldNow 25 = .ok (.iinc 2 1, 3) := by decide +kernel
theorem dX7_coldNow_28 : decode cX7_coldNow 28 = .ok (.goto (-24), 3) := by decide +kernel
theorem dX7_coldNow_31 : decode cX7_coldNow 31 = .ok (.iload_n 1, 1) := by decide +kernel
theorem dX7_coldNow_32 : decode cX7_coldNow 32 = .ok (.ireturn, 1) := by decide +kernel
theorem dX7_metMany_0 : decode cX7_metMany 0 = .ok (.iconst 0, 1) := by decide +kernel
theorem dX7_metMany_1 : decode cX7_metMany 1 = .ok (.istore_n 1, 1) := by decide +kernel
theorem dX7_metMany_2 : decode cX7_metMany 2 = .ok (.iconst 0, 1) := by decide +kernel
theorem dX7_metMany_3 : decode cX7_metMany 3 = .ok (.istore_n 2, 1) := by decide +kernel
theorem dX7_metMany_4 : decode cX7_metMany 4 = .ok (.iload_n 2, 1) := by decide +kernel
theorem dX7_metMany_5 : decode cX7_metMany 5 = .ok (.aload_n 0, 1) := by decide +kernel
theorem dX7_metMany_6 : decode cX7_metMany 6 = .ok (.getfield 67, 3) := by decide +kernel
theorem dX7_metMany_9 : decode cX7_metMany 9 = .ok (.if_icmp .ge 20, 3) := by decide +kernel
theorem dX7_metMany_12 : decode cX7_metMany 12 = .ok (.iload_n 1, 1) := by decide +kernel
theorem dX7_metMany_13 : decode cX7_metMany 13 = .ok (.aload_n 0, 1) := by decide +kernel
theorem dX7_metMany_14 : decode cX7_metMany 14 = .ok (.iload_n 2, 1) := by decide +kernel
theorem dX7_metMany_15 : decode cX7_metMany 15 = .ok (.invokevirtual 157, 3) := by decide +kernel
theorem dX7_metMany_18 : decode cX7_metMany 18 = .ok (.invokestatic 194, 3) := by decide +kernel
theorem dX7_metMany_21 : decode cX7_metMany 21 = .ok (.iadd, 1) := by decide +kernel
theorem dX7_metMany_22 : decode cX7_metMany 22 = .ok (.istore_n 1, 1) := by decide +kernel
theorem dX7_metMany_23 : decode cX7_metMany 23 = .ok (.iinc 2 1, 3) := by decide +kernel
theorem dX7_metMany_26 : decode cX7_metMany 26 = .ok (.goto (-22), 3) := by decide +kernel
theorem dX7_metMany_29 : decode cX7_metMany 29 = .ok (.iload_n 1, 1) := by decide +kernel
theorem dX7_metMany_30 : decode cX7_metMany 30 = .ok (.ireturn, 1) := by decide +kernel
theorem dX7_metBehind_0 : decode cX7_metBehind 0 = .ok (.aload_n 0, 1) := by decide +kernel
theorem dX7_metBehind_1 : decode cX7_metBehind 1 = .ok (.iload_n 1, 1) := by decide +kernel
theorem dX7_metBehind_2 : decode cX7_metBehind 2 = .ok (.invokevirtual 188, 3) := by decide +kernel
theorem dX7_metBehind_5 : decode cX7_metBehind 5 = .ok (.aload_n 0, 1) := by decide +kernel
theorem dX7_metBehind_6 : decode cX7_metBehind 6 = .ok (.invokevirtual 198, 3) := by decide +kernel
theorem dX7_metBehind_9 : decode cX7_metBehind 9 = .ok (.ireturn, 1) := by decide +kernel
theorem dX7_rule_0 : decode cX7_rule 0 = .ok (.aload_n 0, 1) := by decide +kernel
theorem dX7_rule_1 : decode cX7_rule 1 = .ok (.invokevirtual 201, 3) := by decide +kernel
theorem dX7_rule_4 : decode cX7_rule 4 = .ok (.iload_n 1, 1) := by decide +kernel
theorem dX7_rule_5 : decode cX7_rule 5 = .ok (.tableswitch 90 0 6 #[43, 48, 56, 64, 72, 77, 82], 43) := by decide +kernel
theorem dX7_rule_48 : decode cX7_rule 48 = .ok (.aload_n 0, 1) := by decide +kernel
theorem dX7_rule_49 : decode cX7_rule 49 = .ok (.getfield 67, 3) := by decide +kernel
theorem dX7_rule_52 : decode cX7_rule 52 = .ok (.ireturn, 1) := by decide +kernel
theorem dX7_rule_53 : decode cX7_rule 53 = .ok (.aload_n 0, 1) := by decide +kernel
theorem dX7_rule_54 : decode cX7_rule 54 = .ok (.getfield 7, 3) := by decide +kernel
theorem dX7_rule_57 : decode cX7_rule 57 = .ok (.bipush 37, 2) := by decide +kernel
theorem dX7_rule_59 : decode cX7_rule 59 = .ok (.iaload, 1) := by decide +kernel
theorem dX7_rule_60 : decode cX7_rule 60 = .ok (.ireturn, 1) := by decide +kernel
theorem dX7_rule_61 : decode cX7_rule 61 = .ok (.aload_n 0, 1) := by decide +kernel
theorem dX7_rule_62 : decode cX7_rule 62 = .ok (.getfield 7, 3) := by decide +kernel
theorem dX7_rule_65 : decode cX7_rule 65 = .ok (.bipush 28, 2) := by decide +kernel
theorem dX7_rule_67 : decode cX7_rule 67 = .ok (.iaload, 1) := by decide +kernel
theorem dX7_rule_68 : decode cX7_rule 68 = .ok (.ireturn, 1) := by decide +kernel
theorem dX7_rule_69 : decode cX7_rule 69 = .ok (.aload_n 0, 1) := by decide +kernel
theorem dX7_rule_70 : decode cX7_rule 70 = .ok (.getfield 7, 3) := by decide +kernel
theorem dX7_rule_73 : decode cX7_rule 73 = .ok (.bipush 36, 2) := by decide +kernel
theorem dX7_rule_75 : decode cX7_rule 75 = .ok (.iaload, 1) := by decide +kernel
theorem dX7_rule_76 : decode cX7_rule 76 = .ok (.ireturn, 1) := by decide +kernel
theorem dX7_rule_77 : decode cX7_rule 77 = .ok (.aload_n 0, 1) := by decide +kernel
theorem dX7_rule_78 : decode cX7_rule 78 = .ok (.invokevirtual 204, 3) := by decide +kernel
theorem dX7_rule_81 : decode cX7_rule 81 = .ok (.ireturn, 1) := by decide +kernel
theorem dX7_rule_82 : decode cX7_rule 82 = .ok (.aload_n 0, 1) := by decide +kernel
theorem dX7_rule_83 : decode cX7_rule 83 = .ok (.invokevirtual 207, 3) := by decide +kernel
theorem dX7_rule_86 : decode cX7_rule 86 = .ok (.ireturn, 1) := by decide +kernel
theorem dX7_rule_87 : decode cX7_rule 87 = .ok (.aload_n 0, 1) := by decide +kernel
theorem dX7_rule_88 : decode cX7_rule 88 = .ok (.getfield 7, 3) := by decide +kernel
theorem dX7_rule_91 : decode cX7_rule 91 = .ok (.bipush 29, 2) := by decide +kernel
theorem dX7_rule_93 : decode cX7_rule 93 = .ok (.iaload, 1) := by decide +kernel
theorem dX7_rule_94 : decode cX7_rule 94 = .ok (.ireturn, 1) := by decide +kernel
theorem dX7_rule_95 : decode cX7_rule 95 = .ok (.iconst (-1), 1) := by decide +kernel
theorem dX7_rule_96 : decode cX7_rule 96 = .ok (.ireturn, 1) := by decide +kernel
theorem dX7_glove_0 : decode cX7_glove 0 = .ok (.aload_n 0, 1) := by decide +kernel
theorem dX7_glove_1 : decode cX7_glove 1 = .ok (.iload_n 1, 1) := by decide +kernel
theorem dX7_glove_2 : decode cX7_glove 2 = .ok (.invokevirtual 210, 3) := by decide +kernel
theorem dX7_glove_5 : decode cX7_glove 5 = .ok (.ifCond .ne 5, 3) := by decide +kernel
theorem dX7_glove_8 : decode cX7_glove 8 = .ok (.iconst (-1), 1) := by decide +kernel
theorem dX7_glove_9 : decode cX7_glove 9 = .ok (.ireturn, 1) := by decide +kernel
theorem dX7_glove_10 : decode cX7_glove 10 = .ok (.aload_n 0, 1) := by decide +kernel
theorem dX7_glove_11 : decode cX7_glove 11 = .ok (.invokevirtual 201, 3) := by decide +kernel
theorem dX7_glove_14 : decode cX7_glove 14 = .ok (.iload_n 2, 1) := by decide +kernel
theorem dX7_glove_15 : decode cX7_glove 15 = .ok (.tableswitch 72 0 5 #[37, 44, 37, 37, 50, 66], 37) := by decide +kernel
theorem dX7_glove_52 : decode cX7_glove 52 = .ok (.aload_n 0, 1) := by decide +kernel
theorem dX7_glove_53 : decode cX7_glove 53 = .ok (.iload_n 1, 1) := by decide +kernel
theorem dX7_glove_54 : decode cX7_glove 54 = .ok (.iload_n 2, 1) := by decide +kernel
theorem dX7_glove_55 : decode cX7_glove 55 = .ok (.invokevirtual 154, 3) := by decide +kernel
theorem dX7_glove_58 : decode cX7_glove 58 = .ok (.ireturn, 1) := by decide +kernel
theorem dX7_glove_59 : decode cX7_glove 59 = .ok (.aload_n 0, 1) := by decide +kernel
theorem dX7_glove_60 : decode cX7_glove 60 = .ok (.iload_n 1, 1) := by decide +kernel
theorem dX7_glove_61 : decode cX7_glove 61 = .ok (.invokevirtual 160, 3) := by decide +kernel
theorem dX7_glove_64 : decode cX7_glove 64 = .ok (.ireturn, 1) := by decide +kernel
theorem dX7_glove_65 : decode cX7_glove 65 = .ok (.aload_n 0, 1) := by decide +kernel
theorem dX7_glove_66 : decode cX7_glove 66 = .ok (.iload_n 1, 1) := by decide +kernel
theorem dX7_glove_67 : decode cX7_glove 67 = .ok (.invokevirtual 160, 3) := by decide +kernel
theorem dX7_glove_70 : decode cX7_glove 70 = .ok (.aload_n 0, 1) := by decide +kernel
theorem dX7_glove_71 : decode cX7_glove 71 = .ok (.getfield 13, 3) := by decide +kernel
theorem dX7_glove_74 : decode cX7_glove 74 = .ok (.bipush 28, 2) := by decide +kernel
theorem dX7_glove_76 : decode cX7_glove 76 = .ok (.iaload, 1) := by decide +kernel
theorem dX7_glove_77 : decode cX7_glove 77 = .ok (.invokestatic 163, 3) := by decide +kernel
theorem dX7_glove_80 : decode cX7_glove 80 = .ok (.ireturn, 1) := by decide +kernel
theorem dX7_glove_81 : decode cX7_glove 81 = .ok (.aload_n 0, 1) := by decide +kernel
theorem dX7_glove_82 : decode cX7_glove 82 = .ok (.iload_n 1, 1) := by decide +kernel
theorem dX7_glove_83 : decode cX7_glove 83 = .ok (.invokevirtual 176, 3) := by decide +kernel
theorem dX7_glove_86 : decode cX7_glove 86 = .ok (.ireturn, 1) := by decide +kernel
theorem dX7_glove_87 : decode cX7_glove 87 = .ok (.iconst (-1), 1) := by decide +kernel
theorem dX7_glove_88 : decode cX7_glove 88 = .ok (.ireturn, 1) := by decide +kernel
theorem dX7_door_0 : decode cX7_door 0 = .ok (.iload_n 1, 1) := by decide +kernel
theorem dX7_door_1 : decode cX7_door 1 = .ok (.invokestatic 213, 3) := by decide +kernel
theorem dX7_door_4 : decode cX7_door 4 = .ok (.ifCond .eq 10, 3) := by decide +kernel
theorem dX7_door_7 : decode cX7_door 7 = .ok (.iload_n 2, 1) := by decide +kernel
theorem dX7_door_8 : decode cX7_door 8 = .ok (.invokestatic 216, 3) := by decide +kernel
theorem dX7_door_11 : decode cX7_door 11 = .ok (.ifCond .ne 5, 3) := by decide +kernel
theorem dX7_door_14 : decode cX7_door 14 = .ok (.iconst (-1), 1) := by decide +kernel
theorem dX7_door_15 : decode cX7_door 15 = .ok (.ireturn, 1) := by decide +kernel
theorem dX7_door_16 : decode cX7_door 16 = .ok (.iconst 0, 1) := by decide +kernel
theorem dX7_door_17 : decode cX7_door 17 = .ok (.istore_n 3, 1) := by decide +kernel
theorem dX7_door_18 : decode cX7_door 18 = .ok (.aload_n 0, 1) := by decide +kernel
theorem dX7_door_19 : decode cX7_door 19 = .ok (.invokevirtual 201, 3) := by decide +kernel
theorem dX7_door_22 : decode cX7_door 22 = .ok (.iconst 0, 1) := by decide +kernel
theorem dX7_door_23 : decode cX7_door 23 = .ok (.istore 4, 2) := by decide +kernel
theorem dX7_door_25 : decode cX7_door 25 = .ok (.iload 4, 2) := by decide +kernel
theorem dX7_door_27 : decode cX7_door 27 = .ok (.aload_n 0, 1) := by decide +kernel
theorem dX7_door_28 : decode cX7_door 28 = .ok (.getfield 67, 3) := by decide +kernel
theorem dX7_door_31 : decode cX7_door 31 = .ok (.if_icmp .ge 33, 3) := by decide +kernel
theorem dX7_door_34 : decode cX7_door 34 = .ok (.iload_n 3, 1) := by decide +kernel
theorem dX7_door_35 : decode cX7_door 35 = .ok (.aload_n 0, 1) := by decide +kernel
theorem dX7_door_36 : decode cX7_door 36 = .ok (.iload 4, 2) := by decide +kernel
theorem dX7_door_38 : decode cX7_door 38 = .ok (.invokevirtual 160, 3) := by decide +kernel
theorem dX7_door_41 : decode cX7_door 41 = .ok (.iload_n 1, 1) := by decide +kernel
theorem dX7_door_42 : decode cX7_door 42 = .ok (.if_icmp .ne 7, 3) := by decide +kernel
theorem dX7_door_45 : decode cX7_door 45 = .ok (.iconst 1, 1) := by decide +kernel
theorem dX7_door_46 : decode cX7_door 46 = .ok (.goto 4, 3) := by decide +kernel
theorem dX7_door_49 : decode cX7_door 49 = .ok (.iconst 0, 1) := by decide +kernel
theorem dX7_door_50 : decode cX7_door 50 = .ok (.invokestatic 194, 3) := by decide +kernel
theorem dX7_door_53 : decode cX7_door 53 = .ok (.iload 4, 2) := by decide +kernel
theorem dX7_door_55 : decode cX7_door 55 = .ok (.ishl, 1) := by decide +kernel
theorem dX7_door_56 : decode cX7_door 56 = .ok (.ior, 1) := by decide +kernel
theorem dX7_door_57 : decode cX7_door 57 = .ok (.istore_n 3, 1) := by decide +kernel
theorem dX7_door_58 : decode cX7_door 58 = .ok (.iinc 4 1, 3) := by decide +kernel
theorem dX7_door_61 : decode cX7_door 61 = .ok (.goto (-36), 3) := by decide +kernel
theorem dX7_door_64 : decode cX7_door 64 = .ok (.iload_n 2, 1) := by decide +kernel
theorem dX7_door_65 : decode cX7_door 65 = .ok (.ifCond .ne 12, 3) := by decide +kernel
theorem dX7_door_68 : decode cX7_door 68 = .ok (.aload_n 0, 1) := by decide +kernel
theorem dX7_door_69 : decode cX7_door 69 = .ok (.getfield 7, 3) := by decide +kernel
theorem dX7_door_72 : decode cX7_door 72 = .ok (.iload_n 1, 1) := by decide +kernel
theorem dX7_door_73 : decode cX7_door 73 = .ok (.iaload, 1) := by decide +kernel
theorem dX7_door_74 : decode cX7_door 74 = .ok (.goto 4, 3) := by decide +kernel
theorem dX7_door_77 : decode cX7_door 77 = .ok (.iload_n 3, 1) := by decide +kernel
theorem dX7_door_78 : decode cX7_door 78 = .ok (.ireturn, 1) := by decide +kernel
theorem dX7_stop_0 : decode cX7_stop 0 = .ok (.aload_n 0, 1) := by decide +kernel
theorem dX7_stop_1 : decode cX7_stop 1 = .ok (.iload_n 1, 1) := by decide +kernel
theorem dX7_stop_2 : decode cX7_stop 2 = .ok (.invokevirtual 219, 3) := by decide +kernel
theorem dX7_stop_5 : decode cX7_stop 5 = .ok (.ifCond .eq 15, 3) := by decide +kernel
theorem dX7_stop_8 : decode cX7_stop 8 = .ok (.aload_n 0, 1) := by decide +kernel
theorem dX7_stop_9 : decode cX7_stop 9 = .ok (.getfield 7, 3) := by decide +kernel
theorem dX7_stop_12 : decode cX7_stop 12 = .ok (.bipush 30, 2) := by decide +kernel
theorem dX7_stop_14 : decode cX7_stop 14 = .ok (.iload_n 1, 1) := by decide +kernel
theorem dX7_stop_15 : decode cX7_stop 15 = .ok (.iadd, 1) := by decide +kernel
theorem dX7_stop_16 : decode cX7_stop 16 = .ok (.iaload, 1) := by decide +kernel
theorem dX7_stop_17 : decode cX7_stop 17 = .ok (.goto 4, 3) := by decide +kernel
theorem dX7_stop_20 : decode cX7_stop 20 = .ok (.iconst (-1), 1) := by decide +kernel
theorem dX7_stop_21 : decode cX7_stop 21 = .ok (.ireturn, 1) := by decide +kernel
theorem dX7_becomes_0 : decode cX7_becomes 0 = .ok (.aload_n 0, 1) := by decide +kernel
theorem dX7_becomes_1 : decode cX7_becomes 1 = .ok (.getfield 7, 3) := by decide +kernel
theorem dX7_becomes_4 : decode cX7_becomes 4 = .ok (.iload_n 1, 1) := by decide +kernel
theorem dX7_becomes_5 : decode cX7_becomes 5 = .ok (.iaload, 1) := by decide +kernel
theorem dX7_becomes_6 : decode cX7_becomes 6 = .ok (.istore_n 3, 1) := by decide +kernel
theorem dX7_becomes_7 : decode cX7_becomes 7 = .ok (.aload_n 0, 1) := by decide +kernel
theorem dX7_becomes_8 : decode cX7_becomes 8 = .ok (.getfield 7, 3) := by decide +kernel
theorem dX7_becomes_11 : decode cX7_becomes 11 = .ok (.iload_n 1, 1) := by decide +kernel
theorem dX7_becomes_12 : decode cX7_becomes 12 = .ok (.iload_n 2, 1) := by decide +kernel
theorem dX7_becomes_13 : decode cX7_becomes 13 = .ok (.iastore, 1) := by decide +kernel
theorem dX7_becomes_14 : decode cX7_becomes 14 = .ok (.iload_n 3, 1) := by decide +kernel
theorem dX7_becomes_15 : decode cX7_becomes 15 = .ok (.ireturn, 1) := by decide +kernel
theorem dX7_wasPaired_0 : decode cX7_wasPaired 0 = .ok (.aload_n 0, 1) := by decide +kernel
theorem dX7_wasPaired_1 : decode cX7_wasPaired 1 = .ok (.getfield 7, 3) := by decide +kernel
theorem dX7_wasPaired_4 : decode cX7_wasPaired 4 = .ok (.bipush 12, 2) := by decide +kernel
theorem dX7_wasPaired_6 : decode cX7_wasPaired 6 = .ok (.iconst 4, 1) := by decide +kernel
theorem dX7_wasPaired_7 : decode cX7_wasPaired 7 = .ok (.iload_n 1, 1) := by decide +kernel
theorem dX7_wasPaired_8 : decode cX7_wasPaired 8 = .ok (.imul, 1) := by decide +kernel
theorem dX7_wasPaired_9 : decode cX7_wasPaired 9 = .ok (.iadd, 1) := by decide +kernel
theorem dX7_wasPaired_10 : decode cX7_wasPaired 10 = .ok (.iconst 3, 1) := by decide +kernel
theorem dX7_wasPaired_11 : decode cX7_wasPaired 11 = .ok (.iadd, 1) := by decide +kernel
theorem dX7_wasPaired_12 : decode cX7_wasPaired 12 = .ok (.iaload, 1) := by decide +kernel
theorem dX7_wasPaired_13 : decode cX7_wasPaired 13 = .ok (.iconst 1, 1) := by decide +kernel
theorem dX7_wasPaired_14 : decode cX7_wasPaired 14 = .ok (.if_icmp .ne 7, 3) := by decide +kernel
theorem dX7_wasPaired_17 : decode cX7_wasPaired 17 = .ok (.iconst 1, 1) := by decide +kernel
theorem dX7_wasPaired_18 : decode cX7_wasPaired 18 = .ok (.goto 4, 3) := by decide +kernel
theorem dX7_wasPaired_21 : decode cX7_wasPaired 21 = .ok (.iconst 0, 1) := by decide +kernel
theorem dX7_wasPaired_22 : decode cX7_wasPaired 22 = .ok (.ireturn, 1) := by decide +kernel
theorem dX7_alter_0 : decode cX7_alter 0 = .ok (.iload_n 2, 1) := by decide +kernel
theorem dX7_alter_1 : decode cX7_alter 1 = .ok (.ifCond .ne 15, 3) := by decide +kernel
theorem dX7_alter_4 : decode cX7_alter 4 = .ok (.iload_n 3, 1) := by decide +kernel
theorem dX7_alter_5 : decode cX7_alter 5 = .ok (.i2l, 1) := by decide +kernel
theorem dX7_alter_6 : decode cX7_alter 6 = .ok (.lconst 0, 1) := by decide +kernel
theorem dX7_alter_7 : decode cX7_alter 7 = .ok (.ldc2_w 222, 3) := by decide +kernel
theorem dX7_alter_10 : decode cX7_alter 10 = .ok (.invokestatic 72, 3) := by decide +kernel
theorem dX7_alter_13 : decode cX7_alter 13 = .ok (.goto 37, 3) := by decide +kernel
theorem dX7_alter_16 : decode cX7_alter 16 = .ok (.iload_n 2, 1) := by decide +kernel
theorem dX7_alter_17 : decode cX7_alter 17 = .ok (.iconst 1, 1) := by decide +kernel
theorem dX7_alter_18 : decode cX7_alter 18 = .ok (.if_icmp .ne 10, 3) := by decide +kernel
theorem dX7_alter_21 : decode cX7_alter 21 = .ok (.iload_n 3, 1) := by decide +kernel
theorem dX7_alter_22 : decode cX7_alter 22 = .ok (.invokestatic 213, 3) := by decide +kernel
theorem dX7_alter_25 : decode cX7_alter 25 = .ok (.goto 25, 3) := by decide +kernel
theorem dX7_alter_28 : decode cX7_alter 28 = .ok (.iload_n 2, 1) := by decide +kernel
theorem dX7_alter_29 : decode cX7_alter 29 = .ok (.iconst 2, 1) := by decide +kernel
theorem dX7_alter_30 : decode cX7_alter 30 = .ok (.if_icmp .ne 19, 3) := by decide +kernel
theorem dX7_alter_33 : decode cX7_alter 33 = .ok (.iload_n 3, 1) := by decide +kernel
theorem dX7_alter_34 : decode cX7_alter 34 = .ok (.i2l, 1) := by decide +kernel
theorem dX7_alter_35 : decode cX7_alter 35 = .ok (.lconst 0, 1) := by decide +kernel
theorem dX7_alter_36 : decode cX7_alter 36 = .ok (.ldc2_w 224, 3) := by decide +kernel
theorem dX7_alter_39 : decode cX7_alter 39 = .ok (.invokestatic 72, 3) := by decide +kernel
theorem dX7_alter_42 : decode cX7_alter 42 = .ok (.ifCond .eq 7, 3) := by decide +kernel
theorem dX7_alter_45 : decode cX7_alter 45 = .ok (.iconst 1, 1) := by decide +kernel
theorem dX7_alter_46 : decode cX7_alter 46 = .ok (.goto 4, 3) := by decide +kernel
theorem dX7_alter_49 : decode cX7_alter 49 = .ok (.iconst 0, 1) := by decide +kernel
theorem dX7_alter_50 : decode cX7_alter 50 = .ok (.istore 4, 2) := by decide +kernel
theorem dX7_alter_52 : decode cX7_alter 52 = .ok (.aload_n 0, 1) := by decide +kernel
theorem dX7_alter_53 : decode cX7_alter 53 = .ok (.iload_n 1, 1) := by decide +kernel
theorem dX7_alter_54 : decode cX7_alter 54 = .ok (.invokevirtual 210, 3) := by decide +kernel
theorem dX7_alter_57 : decode cX7_alter 57 = .ok (.ifCond .eq 8, 3) := by decide +kernel
theorem dX7_alter_60 : decode cX7_alter 60 = .ok (.iload 4, 2) := by decide +kernel
theorem dX7_alter_62 : decode cX7_alter 62 = .ok (.ifCond .ne 5, 3) := by decide +kernel
theorem dX7_alter_65 : decode cX7_alter 65 = .ok (.iconst (-1), 1) := by decide +kernel
theorem dX7_alter_66 : decode cX7_alter 66 = .ok (.ireturn, 1) := by decide +kernel
theorem dX7_alter_67 : decode cX7_alter 67 = .ok (.iload_n 2, 1) := by decide +kernel
theorem dX7_alter_68 : decode cX7_alter 68 = .ok (.iconst 1, 1) := by decide +kernel
theorem dX7_alter_69 : decode cX7_alter 69 = .ok (.if_icmp .ne 16, 3) := by decide +kernel
theorem dX7_alter_72 : decode cX7_alter 72 = .ok (.aload_n 0, 1) := by decide +kernel
theorem dX7_alter_73 : decode cX7_alter 73 = .ok (.iload_n 1, 1) := by decide +kernel
theorem dX7_alter_74 : decode cX7_alter 74 = .ok (.invokevirtual 226, 3) := by decide +kernel
theorem dX7_alter_77 : decode cX7_alter 77 = .ok (.ifCond .eq 8, 3) := by decide +kernel
theorem dX7_alter_80 : decode cX7_alter 80 = .ok (.bipush (-2), 2) := by decide +kernel
theorem dX7_alter_82 : decode cX7_alter 82 = .ok (.goto 16, 3) := by decide +kernel
theorem dX7_alter_85 : decode cX7_alter 85 = .ok (.aload_n 0, 1) := by decide +kernel
theorem dX7_alter_86 : decode cX7_alter 86 = .ok (.bipush 12, 2) := by decide +kernel
theorem dX7_alter_88 : decode cX7_alter 88 = .ok (.iconst 4, 1) := by decide +kernel
theorem dX7_alter_89 : decode cX7_alter 89 = .ok (.iload_n 1, 1) := by decide +kernel
theorem dX7_alter_90 : decode cX7_alter 90 = .ok (.imul, 1) := by decide +kernel
theorem dX7_alter_91 : decode cX7_alter 91 = .ok (.iadd, 1) := by decide +kernel
theorem dX7_alter_92 : decode cX7_alter 92 = .ok (.iload_n 2, 1) := by decide +kernel
theorem dX7_alter_93 : decode cX7_alter 93 = .ok (.iadd, 1) := by decide +kernel
theorem dX7_alter_94 : decode cX7_alter 94 = .ok (.iload_n 3, 1) := by decide +kernel
theorem dX7_alter_95 : decode cX7_alter 95 = .ok (.invokevirtual 229, 3) := by decide +kernel
theorem dX7_alter_98 : decode cX7_alter 98 = .ok (.ireturn, 1) := by decide +kernel
theorem dX7_fame_0 : decode cX7_fame 0 = .ok (.iload_n 1, 1) := by decide +kernel
theorem dX7_fame_1 : decode cX7_fame 1 = .ok (.invokestatic 213, 3) := by decide +kernel
theorem dX7_fame_4 : decode cX7_fame 4 = .ok (.ifCond .eq 24, 3) := by decide +kernel
theorem dX7_fame_7 : decode cX7_fame 7 = .ok (.iload_n 2, 1) := by decide +kernel
theorem dX7_fame_8 : decode cX7_fame 8 = .ok (.i2l, 1) := by decide +kernel
theorem dX7_fame_9 : decode cX7_fame 9 = .ok (.lconst 0, 1) := by decide +kernel
theorem dX7_fame_10 : decode cX7_fame 10 = .ok (.ldc2_w 232, 3) := by decide +kernel
theorem dX7_fame_13 : decode cX7_fame 13 = .ok (.invokestatic 72, 3) := by decide +kernel
theorem dX7_fame_16 : decode cX7_fame 16 = .ok (.ifCond .eq 12, 3) := by decide +kernel
theorem dX7_fame_19 : decode cX7_fame 19 = .ok (.aload_n 0, 1) := by decide +kernel
theorem dX7_fame_20 : decode cX7_fame 20 = .ok (.iload_n 1, 1) := by decide +kernel
theorem dX7_fame_21 : decode cX7_fame 21 = .ok (.iload_n 2, 1) := by decide +kernel
theorem dX7_fame_22 : decode cX7_fame 22 = .ok (.invokevirtual 229, 3) := by decide +kernel
theorem dX7_fame_25 : decode cX7_fame 25 = .ok (.goto 4, 3) := by decide +kernel
theorem dX7_fame_28 : decode cX7_fame 28 = .ok (.iconst (-1), 1) := by decide +kernel
theorem dX7_fame_29 : decode cX7_fame 29 = .ok (.ireturn, 1) := by decide +kernel
theorem dX7_leave_0 : decode cX7_leave 0 = .ok (.aload_n 0, 1) := by decide +kernel
theorem dX7_leave_1 : decode cX7_leave 1 = .ok (.iload_n 1, 1) := by decide +kernel
theorem dX7_leave_2 : decode cX7_leave 2 = .ok (.invokevirtual 210, 3) := by decide +kernel
theorem dX7_leave_5 : decode cX7_leave 5 = .ok (.ifCond .ne 5, 3) := by decide +kernel
theorem dX7_leave_8 : decode cX7_leave 8 = .ok (.iconst (-1), 1) := by decide +kernel
theorem dX7_leave_9 : decode cX7_leave 9 = .ok (.ireturn, 1) := by decide +kernel
theorem dX7_leave_10 : decode cX7_leave 10 = .ok (.aload_n 0, 1) := by decide +kernel
theorem dX7_leave_11 : decode cX7_leave 11 = .ok (.iload_n 1, 1) := by decide +kernel
theorem dX7_leave_12 : decode cX7_leave 12 = .ok (.invokevirtual 226, 3) := by decide +kernel
theorem dX7_leave_15 : decode cX7_leave 15 = .ok (.ifCond .ne 6, 3) := by decide +kernel
theorem dX7_leave_18 : decode cX7_leave 18 = .ok (.bipush (-2), 2) := by decide +kernel
theorem dX7_leave_20 : decode cX7_leave 20 = .ok (.ireturn, 1) := by decide +kernel
theorem dX7_leave_21 : decode cX7_leave 21 = .ok (.aload_n 0, 1) := by decide +kernel
theorem dX7_leave_22 : decode cX7_leave 22 = .ok (.getfield 7, 3) := by decide +kernel
theorem dX7_leave_25 : decode cX7_leave 25 = .ok (.bipush 12, 2) := by decide +kernel
theorem dX7_leave_27 : decode cX7_leave 27 = .ok (.iconst 4, 1) := by decide +kernel
theorem dX7_leave_28 : decode cX7_leave 28 = .ok (.iload_n 1, 1) := by decide +kernel
theorem dX7_leave_29 : decode cX7_leave 29 = .ok (.imul, 1) := by decide +kernel
theorem dX7_leave_30 : decode cX7_leave 30 = .ok (.iadd, 1) := by decide +kernel
theorem dX7_leave_31 : decode cX7_leave 31 = .ok (.iconst 3, 1) := by decide +kernel
theorem dX7_leave_32 : decode cX7_leave 32 = .ok (.iadd, 1) := by decide +kernel
theorem dX7_leave_33 : decode cX7_leave 33 = .ok (.iconst 0, 1) := by decide +kernel
theorem dX7_leave_34 : decode cX7_leave 34 = .ok (.iastore, 1) := by decide +kernel
theorem dX7_leave_35 : decode cX7_leave 35 = .ok (.aload_n 0, 1) := by decide +kernel
theorem dX7_leave_36 : decode cX7_leave 36 = .ok (.getfield 7, 3) := by decide +kernel
theorem dX7_leave_39 : decode cX7_leave 39 = .ok (.bipush 12, 2) := by decide +kernel
theorem dX7_leave_41 : decode cX7_leave 41 = .ok (.iconst 4, 1) := by decide +kernel
theorem dX7_leave_42 : decode cX7_leave 42 = .ok (.iload_n 1, 1) := by decide +kernel
theorem dX7_leave_43 : decode cX7_leave 43 = .ok (.imul, 1) := by decide +kernel
theorem dX7_leave_44 : decode cX7_leave 44 = .ok (.iadd, 1) := by decide +kernel
theorem dX7_leave_45 : decode cX7_leave 45 = .ok (.iconst 1, 1) := by decide +kernel
theorem dX7_leave_46 : decode cX7_leave 46 = .ok (.iadd, 1) := by decide +kernel
theorem dX7_leave_47 : decode cX7_leave 47 = .ok (.aload_n 0, 1) := by decide +kernel
theorem dX7_leave_48 : decode cX7_leave 48 = .ok (.getfield 7, 3) := by decide +kernel
theorem dX7_leave_51 : decode cX7_leave 51 = .ok (.bipush 28, 2) := by decide +kernel
theorem dX7_leave_53 : decode cX7_leave 53 = .ok (.iaload, 1) := by decide +kernel
theorem dX7_leave_54 : decode cX7_leave 54 = .ok (.iastore, 1) := by decide +kernel
theorem dX7_leave_55 : decode cX7_leave 55 = .ok (.aload_n 0, 1) := by decide +kernel
theorem dX7_leave_56 : decode cX7_leave 56 = .ok (.getfield 7, 3) := by decide +kernel
theorem dX7_leave_59 : decode cX7_leave 59 = .ok (.bipush 28, 2) := by decide +kernel
theorem dX7_leave_61 : decode cX7_leave 61 = .ok (.iaload, 1) := by decide +kernel
theorem dX7_leave_62 : decode cX7_leave 62 = .ok (.ireturn, 1) := by decide +kernel
theorem dX7_go_0 : decode cX7_go 0 = .ok (.iload_n 1, 1) := by decide +kernel
theorem dX7_go_1 : decode cX7_go 1 = .ok (.invokestatic 213, 3) := by decide +kernel
theorem dX7_go_4 : decode cX7_go 4 = .ok (.ifCond .eq 13, 3) := by decide +kernel
theorem dX7_go_7 : decode cX7_go 7 = .ok (.aload_n 0, 1) := by decide +kernel
theorem dX7_go_8 : decode cX7_go 8 = .ok (.bipush 28, 2) := by decide +kernel
theorem dX7_go_10 : decode cX7_go 10 = .ok (.iload_n 1, 1) := by decide +kernel
theorem dX7_go_11 : decode cX7_go 11 = .ok (.invokevirtual 229, 3) := by decide +kernel
theorem dX7_go_14 : decode cX7_go 14 = .ok (.goto 4, 3) := by decide +kernel
theorem dX7_go_17 : decode cX7_go 17 = .ok (.iconst (-1), 1) := by decide +kernel
theorem dX7_go_18 : decode cX7_go 18 = .ok (.ireturn, 1) := by decide +kernel
theorem dX7_call_0 : decode cX7_call 0 = .ok (.iload_n 1, 1) := by decide +kernel
theorem dX7_call_1 : decode cX7_call 1 = .ok (.invokestatic 213, 3) := by decide +kernel
theorem dX7_call_4 : decode cX7_call 4 = .ok (.ifCond .ne 5, 3) := by decide +kernel
theorem dX7_call_7 : decode cX7_call 7 = .ok (.iconst (-1), 1) := by decide +kernel
theorem dX7_call_8 : decode cX7_call 8 = .ok (.ireturn, 1) := by decide +kernel
theorem dX7_call_9 : decode cX7_call 9 = .ok (.aload_n 0, 1) := by decide +kernel
theorem dX7_call_10 : decode cX7_call 10 = .ok (.getfield 7, 3) := by decide +kernel
theorem dX7_call_13 : decode cX7_call 13 = .ok (.bipush 29, 2) := by decide +kernel
theorem dX7_call_15 : decode cX7_call 15 = .ok (.iaload, 1) := by decide +kernel
theorem dX7_call_16 : decode cX7_call 16 = .ok (.bipush 6, 2) := by decide +kernel
theorem dX7_call_18 : decode cX7_call 18 = .ok (.if_icmp .ne 6, 3) := by decide +kernel
theorem dX7_call_21 : decode cX7_call 21 = .ok (.bipush (-3), 2) := by decide +kernel
theorem dX7_call_23 : decode cX7_call 23 = .ok (.ireturn, 1) := by decide +kernel
theorem dX7_call_24 : decode cX7_call 24 = .ok (.aload_n 0, 1) := by decide +kernel
theorem dX7_call_25 : decode cX7_call 25 = .ok (.getfield 7, 3) := by decide +kernel
theorem dX7_call_28 : decode cX7_call 28 = .ok (.bipush 30, 2) := by decide +kernel
theorem dX7_call_30 : decode cX7_call 30 = .ok (.aload_n 0, 1) := by decide +kernel
theorem dX7_call_31 : decode cX7_call 31 = .ok (.getfield 7, 3) := by decide +kernel
theorem dX7_call_34 : decode cX7_call 34 = .ok (.bipush 29, 2) := by decide +kernel
theorem dX7_call_36 : decode cX7_call 36 = .ok (.iaload, 1) := by decide +kernel
theorem dX7_call_37 : decode cX7_call 37 = .ok (.iadd, 1) := by decide +kernel
theorem dX7_call_38 : decode cX7_call 38 = .ok (.iload_n 1, 1) := by decide +kernel
theorem dX7_call_39 : decode cX7_call 39 = .ok (.iastore, 1) := by decide +kernel
theorem dX7_call_40 : decode cX7_call 40 = .ok (.aload_n 0, 1) := by decide +kernel
theorem dX7_call_41 : decode cX7_call 41 = .ok (.getfield 7, 3) := by decide +kernel
theorem dX7_call_44 : decode cX7_call 44 = .ok (.bipush 29, 2) := by decide +kernel
theorem dX7_call_46 : decode cX7_call 46 = .ok (.dup2, 1) := by decide +kernel
theorem dX7_call_47 : decode cX7_call 47 = .ok (.iaload, 1) := by decide +kernel
theorem dX7_call_48 : decode cX7_call 48 = .ok (.iconst 1, 1) := by decide +kernel
theorem dX7_call_49 : decode cX7_call 49 = .ok (.iadd, 1) := by decide +kernel
theorem dX7_call_50 : decode cX7_call 50 = .ok (.iastore, 1) := by decide +kernel
theorem dX7_call_51 : decode cX7_call 51 = .ok (.aload_n 0, 1) := by decide +kernel
theorem dX7_call_52 : decode cX7_call 52 = .ok (.getfield 7, 3) := by decide +kernel
theorem dX7_call_55 : decode cX7_call 55 = .ok (.bipush 29, 2) := by decide +kernel
theorem dX7_call_57 : decode cX7_call 57 = .ok (.iaload, 1) := by decide +kernel
theorem dX7_call_58 : decode cX7_call 58 = .ok (.ireturn, 1) := by decide +kernel
theorem dX7_cut_0 : decode cX7_cut 0 = .ok (.iload_n 1, 1) := by decide +kernel
theorem dX7_cut_1 : decode cX7_cut 1 = .ok (.i2l, 1) := by decide +kernel
theorem dX7_cut_2 : decode cX7_cut 2 = .ok (.lconst 0, 1) := by decide +kernel
theorem dX7_cut_3 : decode cX7_cut 3 = .ok (.aload_n 0, 1) := by decide +kernel
theorem dX7_cut_4 : decode cX7_cut 4 = .ok (.getfield 7, 3) := by decide +kernel
theorem dX7_cut_7 : decode cX7_cut 7 = .ok (.bipush 29, 2) := by decide +kernel
theorem dX7_cut_9 : decode cX7_cut 9 = .ok (.iaload, 1) := by decide +kernel
theorem dX7_cut_10 : decode cX7_cut 10 = .ok (.i2l, 1) := by decide +kernel
theorem dX7_cut_11 : decode cX7_cut 11 = .ok (.invokestatic 72, 3) := by decide +kernel
theorem dX7_cut_14 : decode cX7_cut 14 = .ok (.ifCond .eq 13, 3) := by decide +kernel
theorem dX7_cut_17 : decode cX7_cut 17 = .ok (.aload_n 0, 1) := by decide +kernel
theorem dX7_cut_18 : decode cX7_cut 18 = .ok (.bipush 29, 2) := by decide +kernel
theorem dX7_cut_20 : decode cX7_cut 20 = .ok (.iload_n 1, 1) := by decide +kernel
theorem dX7_cut_21 : decode cX7_cut 21 = .ok (.invokevirtual 229, 3) := by decide +kernel
theorem dX7_cut_24 : decode cX7_cut 24 = .ok (.goto 4, 3) := by decide +kernel
theorem dX7_cut_27 : decode cX7_cut 27 = .ok (.iconst (-1), 1) := by decide +kernel
theorem dX7_cut_28 : decode cX7_cut 28 = .ok (.ireturn, 1) := by decide +kernel
theorem dX7_days_0 : decode cX7_days 0 = .ok (.iload_n 1, 1) := by decide +kernel
theorem dX7_days_1 : decode cX7_days 1 = .ok (.i2l, 1) := by decide +kernel
theorem dX7_days_2 : decode cX7_days 2 = .ok (.lconst 0, 1) := by decide +kernel
theorem dX7_days_3 : decode cX7_days 3 = .ok (.ldc2_w 234, 3) := by decide +kernel
theorem dX7_days_6 : decode cX7_days 6 = .ok (.invokestatic 72, 3) := by decide +kernel
theorem dX7_days_9 : decode cX7_days 9 = .ok (.ifCond .ne 5, 3) := by decide +kernel
theorem dX7_days_12 : decode cX7_days 12 = .ok (.iconst (-1), 1) := by decide +kernel
theorem dX7_days_13 : decode cX7_days 13 = .ok (.ireturn, 1) := by decide +kernel
theorem dX7_days_14 : decode cX7_days 14 = .ok (.aload_n 0, 1) := by decide +kernel
theorem dX7_days_15 : decode cX7_days 15 = .ok (.getfield 7, 3) := by decide +kernel
theorem dX7_days_18 : decode cX7_days 18 = .ok (.bipush 37, 2) := by decide +kernel
theorem dX7_days_20 : decode cX7_days 20 = .ok (.iaload, 1) := by decide +kernel
theorem dX7_days_21 : decode cX7_days 21 = .ok (.iload_n 1, 1) := by decide +kernel
theorem dX7_days_22 : decode cX7_days 22 = .ok (.iadd, 1) := by decide +kernel
theorem dX7_days_23 : decode cX7_days 23 = .ok (.sipush 999, 3) := by decide +kernel
theorem dX7_days_26 : decode cX7_days 26 = .ok (.if_icmp .le 6, 3) := by decide +kernel
theorem dX7_days_29 : decode cX7_days 29 = .ok (.bipush (-3), 2) := by decide +kernel
theorem dX7_days_31 : decode cX7_days 31 = .ok (.ireturn, 1) := by decide +kernel
theorem dX7_days_32 : decode cX7_days 32 = .ok (.aload_n 0, 1) := by decide +kernel
theorem dX7_days_33 : decode cX7_days 33 = .ok (.invokevirtual 201, 3) := by decide +kernel
theorem dX7_days_36 : decode cX7_days 36 = .ok (.aload_n 0, 1) := by decide +kernel
theorem dX7_days_37 : decode cX7_days 37 = .ok (.iload_n 1, 1) := by decide +kernel
theorem dX7_days_38 : decode cX7_days 38 = .ok (.invokevirtual 236, 3) := by decide +kernel
theorem dX7_days_41 : decode cX7_days 41 = .ok (.istore_n 2, 1) := by decide +kernel
theorem dX7_days_42 : decode cX7_days 42 = .ok (.aload_n 0, 1) := by decide +kernel
theorem dX7_days_43 : decode cX7_days 43 = .ok (.invokevirtual 239, 3) := by decide +kernel
theorem dX7_days_46 : decode cX7_days 46 = .ok (.iload_n 2, 1) := by decide +kernel
theorem dX7_days_47 : decode cX7_days 47 = .ok (.ireturn, 1) := by decide +kernel
theorem dX7_isFar_0 : decode cX7_isFar 0 = .ok (.iload_n 0, 1) := by decide +kernel
theorem dX7_isFar_1 : decode cX7_isFar 1 = .ok (.i2l, 1) := by decide +kernel
theorem dX7_isFar_2 : decode cX7_isFar 2 = .ok (.lconst 0, 1) := by decide +kernel
theorem dX7_isFar_3 : decode cX7_isFar 3 = .ok (.ldc2_w 242, 3) := by decide +kernel
theorem dX7_isFar_6 : decode cX7_isFar 6 = .ok (.invokestatic 72, 3) := by decide +kernel
theorem dX7_isFar_9 : decode cX7_isFar 9 = .ok (.ireturn, 1) := by decide +kernel
theorem dX7_runs_0 : decode cX7_runs 0 = .ok (.iload_n 1, 1) := by decide +kernel
theorem dX7_runs_1 : decode cX7_runs 1 = .ok (.invokestatic 244, 3) := by decide +kernel
theorem dX7_runs_4 : decode cX7_runs 4 = .ok (.ifCond .eq 15, 3) := by decide +kernel
theorem dX7_runs_7 : decode cX7_runs 7 = .ok (.iload_n 2, 1) := by decide +kernel
theorem dX7_runs_8 : decode cX7_runs 8 = .ok (.i2l, 1) := by decide +kernel
theorem dX7_runs_9 : decode cX7_runs 9 = .ok (.lconst 0, 1) := by decide +kernel
theorem dX7_runs_10 : decode cX7_runs 10 = .ok (.ldc2_w 247, 3) := by decide +kernel
theorem dX7_runs_13 : decode cX7_runs 13 = .ok (.invokestatic 72, 3) := by decide +kernel
theorem dX7_runs_16 : decode cX7_runs 16 = .ok (.ifCond .ne 5, 3) := by decide +kernel
theorem dX7_runs_19 : decode cX7_runs 19 = .ok (.iconst (-1), 1) := by decide +kernel
theorem dX7_runs_20 : decode cX7_runs 20 = .ok (.ireturn, 1) := by decide +kernel
theorem dX7_runs_21 : decode cX7_runs 21 = .ok (.bipush (-4), 2) := by decide +kernel
theorem dX7_runs_23 : decode cX7_runs 23 = .ok (.istore_n 3, 1) := by decide +kernel
theorem dX7_runs_24 : decode cX7_runs 24 = .ok (.aload_n 0, 1) := by decide +kernel
theorem dX7_runs_25 : decode cX7_runs 25 = .ok (.invokevirtual 201, 3) := by decide +kernel
theorem dX7_runs_28 : decode cX7_runs 28 = .ok (.aload_n 0, 1) := by decide +kernel
theorem dX7_runs_29 : decode cX7_runs 29 = .ok (.invokevirtual 204, 3) := by decide +kernel
theorem dX7_runs_32 : decode cX7_runs 32 = .ok (.istore 4, 2) := by decide +kernel
theorem dX7_runs_34 : decode cX7_runs 34 = .ok (.iconst 1, 1) := by decide +kernel
theorem dX7_runs_35 : decode cX7_runs 35 = .ok (.istore 5, 2) := by decide +kernel
theorem dX7_runs_37 : decode cX7_runs 37 = .ok (.iload 5, 2) := by decide +kernel
theorem dX7_runs_39 : decode cX7_runs 39 = .ok (.iload_n 1, 1) := by decide +kernel
theorem dX7_runs_40 : decode cX7_runs 40 = .ok (.if_icmp .gt 36, 3) := by decide +kernel
theorem dX7_runs_43 : decode cX7_runs 43 = .ok (.aload_n 0, 1) := by decide +kernel
theorem dX7_runs_44 : decode cX7_runs 44 = .ok (.iconst 1, 1) := by decide +kernel
theorem dX7_runs_45 : decode cX7_runs 45 = .ok (.invokevirtual 188, 3) := by decide +kernel
theorem dX7_runs_48 : decode cX7_runs 48 = .ok (.iload_n 3, 1) := by decide +kernel
theorem dX7_runs_49 : decode cX7_runs 49 = .ok (.bipush (-4), 2) := by decide +kernel
theorem dX7_runs_51 : decode cX7_runs 51 = .ok (.if_icmp .ne 17, 3) := by decide +kernel
theorem dX7_runs_54 : decode cX7_runs 54 = .ok (.aload_n 0, 1) := by decide +kernel
theorem dX7_runs_55 : decode cX7_runs 55 = .ok (.invokevirtual 204, 3) := by decide +kernel
theorem dX7_runs_58 : decode cX7_runs 58 = .ok (.iload 4, 2) := by decide +kernel
theorem dX7_runs_60 : decode cX7_runs 60 = .ok (.if_icmp .eq 8, 3) := by decide +kernel
theorem dX7_runs_63 : decode cX7_runs 63 = .ok (.iload 5, 2) := by decide +kernel
theorem dX7_runs_65 : decode cX7_runs 65 = .ok (.goto 4, 3) := by decide +kernel
theorem dX7_runs_68 : decode cX7_runs 68 = .ok (.iload_n 3, 1) := by decide +kernel
theorem dX7_runs_69 : decode cX7_runs 69 = .ok (.istore_n 3, 1) := by decide +kernel
theorem dX7_runs_70 : decode cX7_runs 70 = .ok (.iinc 5 1, 3) := by decide +kernel
theorem dX7_runs_73 : decode cX7_runs 73 = .ok (.goto (-36), 3) := by decide +kernel
theorem dX7_runs_76 : decode cX7_runs 76 = .ok (.iload_n 2, 1) := by decide +kernel
theorem dX7_runs_77 : decode cX7_runs 77 = .ok (.tableswitch 54 0 3 #[31, 36, 41, 46], 31) := by decide +kernel
theorem dX7_runs_108 : decode cX7_runs 108 = .ok (.aload_n 0, 1) := by decide +kernel
theorem dX7_runs_109 : decode cX7_runs 109 = .ok (.invokevirtual 191, 3) := by decide +kernel
theorem dX7_runs_112 : decode cX7_runs 112 = .ok (.ireturn, 1) := by decide +kernel
theorem dX7_runs_113 : decode cX7_runs 113 = .ok (.aload_n 0, 1) := by decide +kernel
theorem dX7_runs_114 : decode cX7_runs 114 = .ok (.invokevirtual 204, 3) := by decide +kernel
theorem dX7_runs_117 : decode cX7_runs 117 = .ok (.ireturn, 1) := by decide +kernel
