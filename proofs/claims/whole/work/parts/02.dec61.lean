theorem dX6_trialGoesAsSeen_32 : decode cX6_trialGoesAsSeen 32 = .ok (.aload_n 0, 1) := by decide +kernel
theorem dX6_trialGoesAsSeen_33 : decode cX6_trialGoesAsSeen 33 = .ok (.getfield 23, 3) := by decide +kernel
theorem dX6_trialGoesAsSeen_36 : decode cX6_trialGoesAsSeen 36 = .ok (.iconst 1, 1) := by decide +kernel
theorem dX6_trialGoesAsSeen_37 : decode cX6_trialGoesAsSeen 37 = .ok (.invokevirtual 170, 3) := by decide +kernel
theorem dX6_trialGoesAsSeen_40 : decode cX6_trialGoesAsSeen 40 = .ok (.iinc 2 1, 3) := by decide +kernel
theorem dX6_trialGoesAsSeen_43 : decode cX6_trialGoesAsSeen 43 = .ok (.goto (-33), 3) := by decide +kernel
theorem dX6_trialGoesAsSeen_46 : decode cX6_trialGoesAsSeen 46 = .ok (.iconst 1, 1) := by decide +kernel
theorem dX6_trialGoesAsSeen_47 : decode cX6_trialGoesAsSeen 47 = .ok (.ireturn, 1) := by decide +kernel
theorem dX6_mostAtOneDoor_0 : decode cX6_mostAtOneDoor 0 = .ok (.iconst 0, 1) := by decide +kernel
theorem dX6_mostAtOneDoor_1 : decode cX6_mostAtOneDoor 1 = .ok (.istore_n 3, 1) := by decide +kernel
theorem dX6_mostAtOneDoor_2 : decode cX6_mostAtOneDoor 2 = .ok (.iconst 0, 1) := by decide +kernel
theorem dX6_mostAtOneDoor_3 : decode cX6_mostAtOneDoor 3 = .ok (.istore 4, 2) := by decide +kernel
theorem dX6_mostAtOneDoor_5 : decode cX6_mostAtOneDoor 5 = .ok (.iload 4, 2) := by decide +kernel
theorem dX6_mostAtOneDoor_7 : decode cX6_mostAtOneDoor 7 = .ok (.bipush 12, 2) := by decide +kernel
theorem dX6_mostAtOneDoor_9 : decode cX6_mostAtOneDoor 9 = .ok (.if_icmp .ge 64, 3) := by decide +kernel
theorem dX6_mostAtOneDoor_12 : decode cX6_mostAtOneDoor 12 = .ok (.iconst 0, 1) := by decide +kernel
theorem dX6_mostAtOneDoor_13 : decode cX6_mostAtOneDoor 13 = .ok (.istore 5, 2) := by decide +kernel
theorem dX6_mostAtOneDoor_15 : decode cX6_mostAtOneDoor 15 = .ok (.iconst 0, 1) := by decide +kernel
theorem dX6_mostAtOneDoor_16 : decode cX6_mostAtOneDoor 16 = .ok (.istore 6, 2) := by decide +kernel
theorem dX6_mostAtOneDoor_18 : decode cX6_mostAtOneDoor 18 = .ok (.iload 6, 2) := by decide +kernel
theorem dX6_mostAtOneDoor_20 : decode cX6_mostAtOneDoor 20 = .ok (.iconst 4, 1) := by decide +kernel
theorem dX6_mostAtOneDoor_21 : decode cX6_mostAtOneDoor 21 = .ok (.if_icmp .ge 39, 3) := by decide +kernel
theorem dX6_mostAtOneDoor_24 : decode cX6_mostAtOneDoor 24 = .ok (.iload_n 2, 1) := by decide +kernel
theorem dX6_mostAtOneDoor_25 : decode cX6_mostAtOneDoor 25 = .ok (.iload 6, 2) := by decide +kernel
theorem dX6_mostAtOneDoor_27 : decode cX6_mostAtOneDoor 27 = .ok (.ishr, 1) := by decide +kernel
theorem dX6_mostAtOneDoor_28 : decode cX6_mostAtOneDoor 28 = .ok (.iconst 1, 1) := by decide +kernel
theorem dX6_mostAtOneDoor_29 : decode cX6_mostAtOneDoor 29 = .ok (.iand, 1) := by decide +kernel
theorem dX6_mostAtOneDoor_30 : decode cX6_mostAtOneDoor 30 = .ok (.iconst 1, 1) := by decide +kernel
theorem dX6_mostAtOneDoor_31 : decode cX6_mostAtOneDoor 31 = .ok (.if_icmp .ne 23, 3) := by decide +kernel
theorem dX6_mostAtOneDoor_34 : decode cX6_mostAtOneDoor 34 = .ok (.aload_n 0, 1) := by decide +kernel
theorem dX6_mostAtOneDoor_35 : decode cX6_mostAtOneDoor 35 = .ok (.getfield 26, 3) := by decide +kernel
theorem dX6_mostAtOneDoor_38 : decode cX6_mostAtOneDoor 38 = .ok (.iload 6, 2) := by decide +kernel
theorem dX6_mostAtOneDoor_40 : decode cX6_mostAtOneDoor 40 = .ok (.aaload, 1) := by decide +kernel
theorem dX6_mostAtOneDoor_41 : decode cX6_mostAtOneDoor 41 = .ok (.getfield 132, 3) := by decide +kernel
theorem dX6_mostAtOneDoor_44 : decode cX6_mostAtOneDoor 44 = .ok (.iload_n 1, 1) := by decide +kernel
theorem dX6_mostAtOneDoor_45 : decode cX6_mostAtOneDoor 45 = .ok (.iaload, 1) := by decide +kernel
theorem dX6_mostAtOneDoor_46 : decode cX6_mostAtOneDoor 46 = .ok (.iload 4, 2) := by decide +kernel
theorem dX6_mostAtOneDoor_48 : decode cX6_mostAtOneDoor 48 = .ok (.if_icmp .ne 6, 3) := by decide +kernel
theorem dX6_mostAtOneDoor_51 : decode cX6_mostAtOneDoor 51 = .ok (.iinc 5 1, 3) := by decide +kernel
theorem dX6_mostAtOneDoor_54 : decode cX6_mostAtOneDoor 54 = .ok (.iinc 6 1, 3) := by decide +kernel
theorem dX6_mostAtOneDoor_57 : decode cX6_mostAtOneDoor 57 = .ok (.goto (-39), 3) := by decide +kernel
theorem dX6_mostAtOneDoor_60 : decode cX6_mostAtOneDoor 60 = .ok (.iload_n 3, 1) := by decide +kernel
theorem dX6_mostAtOneDoor_61 : decode cX6_mostAtOneDoor 61 = .ok (.iload 5, 2) := by decide +kernel
theorem dX6_mostAtOneDoor_63 : decode cX6_mostAtOneDoor 63 = .ok (.invokestatic 267, 3) := by decide +kernel
theorem dX6_mostAtOneDoor_66 : decode cX6_mostAtOneDoor 66 = .ok (.istore_n 3, 1) := by decide +kernel
theorem dX6_mostAtOneDoor_67 : decode cX6_mostAtOneDoor 67 = .ok (.iinc 4 1, 3) := by decide +kernel
theorem dX6_mostAtOneDoor_70 : decode cX6_mostAtOneDoor 70 = .ok (.goto (-65), 3) := by decide +kernel
theorem dX6_mostAtOneDoor_73 : decode cX6_mostAtOneDoor 73 = .ok (.iload_n 3, 1) := by decide +kernel
theorem dX6_mostAtOneDoor_74 : decode cX6_mostAtOneDoor 74 = .ok (.ireturn, 1) := by decide +kernel
theorem dX6_fractionByOdds_0 : decode cX6_fractionByOdds 0 = .ok (.aload_n 0, 1) := by decide +kernel
theorem dX6_fractionByOdds_1 : decode cX6_fractionByOdds 1 = .ok (.getfield 26, 3) := by decide +kernel
theorem dX6_fractionByOdds_4 : decode cX6_fractionByOdds 4 = .ok (.iconst 0, 1) := by decide +kernel
theorem dX6_fractionByOdds_5 : decode cX6_fractionByOdds 5 = .ok (.aaload, 1) := by decide +kernel
theorem dX6_fractionByOdds_6 : decode cX6_fractionByOdds 6 = .ok (.aload_n 0, 1) := by decide +kernel
theorem dX6_fractionByOdds_7 : decode cX6_fractionByOdds 7 = .ok (.getfield 10, 3) := by decide +kernel
theorem dX6_fractionByOdds_10 : decode cX6_fractionByOdds 10 = .ok (.invokevirtual 85, 3) := by decide +kernel
theorem dX6_fractionByOdds_13 : decode cX6_fractionByOdds 13 = .ok (.aload_n 0, 1) := by decide +kernel
theorem dX6_fractionByOdds_14 : decode cX6_fractionByOdds 14 = .ok (.getfield 26, 3) := by decide +kernel
theorem dX6_fractionByOdds_17 : decode cX6_fractionByOdds 17 = .ok (.iconst 0, 1) := by decide +kernel
theorem dX6_fractionByOdds_18 : decode cX6_fractionByOdds 18 = .ok (.iload_n 3, 1) := by decide +kernel
theorem dX6_fractionByOdds_19 : decode cX6_fractionByOdds 19 = .ok (.iload_n 1, 1) := by decide +kernel
theorem dX6_fractionByOdds_20 : decode cX6_fractionByOdds 20 = .ok (.iload_n 2, 1) := by decide +kernel
theorem dX6_fractionByOdds_21 : decode cX6_fractionByOdds 21 = .ok (.invokestatic 282, 3) := by decide +kernel
theorem dX6_fractionByOdds_24 : decode cX6_fractionByOdds 24 = .ok (.lstore 5, 2) := by decide +kernel
theorem dX6_fractionByOdds_26 : decode cX6_fractionByOdds 26 = .ok (.lconst 1, 1) := by decide +kernel
theorem dX6_fractionByOdds_27 : decode cX6_fractionByOdds 27 = .ok (.lstore 7, 2) := by decide +kernel
theorem dX6_fractionByOdds_29 : decode cX6_fractionByOdds 29 = .ok (.iconst 0, 1) := by decide +kernel
theorem dX6_fractionByOdds_30 : decode cX6_fractionByOdds 30 = .ok (.istore 9, 2) := by decide +kernel
theorem dX6_fractionByOdds_32 : decode cX6_fractionByOdds 32 = .ok (.iload 9, 2) := by decide +kernel
theorem dX6_fractionByOdds_34 : decode cX6_fractionByOdds 34 = .ok (.iload_n 3, 1) := by decide +kernel
theorem dX6_fractionByOdds_35 : decode cX6_fractionByOdds 35 = .ok (.if_icmp .ge 17, 3) := by decide +kernel
theorem dX6_fractionByOdds_38 : decode cX6_fractionByOdds 38 = .ok (.lload 7, 2) := by decide +kernel
theorem dX6_fractionByOdds_40 : decode cX6_fractionByOdds 40 = .ok (.ldc2_w 286, 3) := by decide +kernel
theorem dX6_fractionByOdds_43 : decode cX6_fractionByOdds 43 = .ok (.lmul, 1) := by decide +kernel
theorem dX6_fractionByOdds_44 : decode cX6_fractionByOdds 44 = .ok (.lstore 7, 2) := by decide +kernel
theorem dX6_fractionByOdds_46 : decode cX6_fractionByOdds 46 = .ok (.iinc 9 1, 3) := by decide +kernel
theorem dX6_fractionByOdds_49 : decode cX6_fractionByOdds 49 = .ok (.goto (-17), 3) := by decide +kernel
theorem dX6_fractionByOdds_52 : decode cX6_fractionByOdds 52 = .ok (.lload 7, 2) := by decide +kernel
theorem dX6_fractionByOdds_54 : decode cX6_fractionByOdds 54 = .ok (.lload 5, 2) := by decide +kernel
theorem dX6_fractionByOdds_56 : decode cX6_fractionByOdds 56 = .ok (.invokestatic 288, 3) := by decide +kernel
theorem dX6_fractionByOdds_59 : decode cX6_fractionByOdds 59 = .ok (.lstore 9, 2) := by decide +kernel
theorem dX6_fractionByOdds_61 : decode cX6_fractionByOdds 61 = .ok (.iload 4, 2) := by decide +kernel
theorem dX6_fractionByOdds_63 : decode cX6_fractionByOdds 63 = .ok (.ifCond .ne 8, 3) := by decide +kernel
theorem dX6_fractionByOdds_66 : decode cX6_fractionByOdds 66 = .ok (.lload 5, 2) := by decide +kernel
theorem dX6_fractionByOdds_68 : decode cX6_fractionByOdds 68 = .ok (.goto 5, 3) := by decide +kernel
theorem dX6_fractionByOdds_71 : decode cX6_fractionByOdds 71 = .ok (.lload 7, 2) := by decide +kernel
theorem dX6_fractionByOdds_73 : decode cX6_fractionByOdds 73 = .ok (.lload 9, 2) := by decide +kernel
theorem dX6_fractionByOdds_75 : decode cX6_fractionByOdds 75 = .ok (.ldiv, 1) := by decide +kernel
theorem dX6_fractionByOdds_76 : decode cX6_fractionByOdds 76 = .ok (.lreturn, 1) := by decide +kernel
theorem dX6_weighedBranches_0 : decode cX6_weighedBranches 0 = .ok (.aload_n 0, 1) := by decide +kernel
theorem dX6_weighedBranches_1 : decode cX6_weighedBranches 1 = .ok (.iload_n 1, 1) := by decide +kernel
theorem dX6_weighedBranches_2 : decode cX6_weighedBranches 2 = .ok (.aaload, 1) := by decide +kernel
theorem dX6_weighedBranches_3 : decode cX6_weighedBranches 3 = .ok (.astore 5, 2) := by decide +kernel
theorem dX6_weighedBranches_5 : decode cX6_weighedBranches 5 = .ok (.iload_n 1, 1) := by decide +kernel
theorem dX6_weighedBranches_6 : decode cX6_weighedBranches 6 = .ok (.iload_n 2, 1) := by decide +kernel
theorem dX6_weighedBranches_7 : decode cX6_weighedBranches 7 = .ok (.if_icmp .ge 11, 3) := by decide +kernel
theorem dX6_weighedBranches_10 : decode cX6_weighedBranches 10 = .ok (.iload_n 1, 1) := by decide +kernel
theorem dX6_weighedBranches_11 : decode cX6_weighedBranches 11 = .ok (.iconst 1, 1) := by decide +kernel
theorem dX6_weighedBranches_12 : decode cX6_weighedBranches 12 = .ok (.iadd, 1) := by decide +kernel
theorem dX6_weighedBranches_13 : decode cX6_weighedBranches 13 = .ok (.aload_n 0, 1) := by decide +kernel
theorem dX6_weighedBranches_14 : decode cX6_weighedBranches 14 = .ok (.arraylength, 1) := by decide +kernel
theorem dX6_weighedBranches_15 : decode cX6_weighedBranches 15 = .ok (.if_icmp .lt 37, 3) := by decide +kernel
theorem dX6_weighedBranches_18 : decode cX6_weighedBranches 18 = .ok (.iload 4, 2) := by decide +kernel
theorem dX6_weighedBranches_20 : decode cX6_weighedBranches 20 = .ok (.iconst (-1), 1) := by decide +kernel
theorem dX6_weighedBranches_21 : decode cX6_weighedBranches 21 = .ok (.if_icmp .ne 19, 3) := by decide +kernel
theorem dX6_weighedBranches_24 : decode cX6_weighedBranches 24 = .ok (.aload 5, 2) := by decide +kernel
theorem dX6_weighedBranches_26 : decode cX6_weighedBranches 26 = .ok (.getfield 108, 3) := by decide +kernel
theorem dX6_weighedBranches_29 : decode cX6_weighedBranches 29 = .ok (.aload_n 0, 1) := by decide +kernel
theorem dX6_weighedBranches_30 : decode cX6_weighedBranches 30 = .ok (.iconst 0, 1) := by decide +kernel
theorem dX6_weighedBranches_31 : decode cX6_weighedBranches 31 = .ok (.aaload, 1) := by decide +kernel
theorem dX6_weighedBranches_32 : decode cX6_weighedBranches 32 = .ok (.getfield 108, 3) := by decide +kernel
theorem dX6_weighedBranches_35 : decode cX6_weighedBranches 35 = .ok (.isub, 1) := by decide +kernel
theorem dX6_weighedBranches_36 : decode cX6_weighedBranches 36 = .ok (.i2l, 1) := by decide +kernel
theorem dX6_weighedBranches_37 : decode cX6_weighedBranches 37 = .ok (.goto 14, 3) := by decide +kernel
theorem dX6_weighedBranches_40 : decode cX6_weighedBranches 40 = .ok (.aload 5, 2) := by decide +kernel
theorem dX6_weighedBranches_42 : decode cX6_weighedBranches 42 = .ok (.getfield 111, 3) := by decide +kernel
theorem dX6_weighedBranches_45 : decode cX6_weighedBranches 45 = .ok (.iload 4, 2) := by decide +kernel
theorem dX6_weighedBranches_47 : decode cX6_weighedBranches 47 = .ok (.ishr, 1) := by decide +kernel
theorem dX6_weighedBranches_48 : decode cX6_weighedBranches 48 = .ok (.iconst 1, 1) := by decide +kernel
theorem dX6_weighedBranches_49 : decode cX6_weighedBranches 49 = .ok (.iand, 1) := by decide +kernel
theorem dX6_weighedBranches_50 : decode cX6_weighedBranches 50 = .ok (.i2l, 1) := by decide +kernel
theorem dX6_weighedBranches_51 : decode cX6_weighedBranches 51 = .ok (.lreturn, 1) := by decide +kernel
theorem dX6_weighedBranches_52 : decode cX6_weighedBranches 52 = .ok (.aload_n 0, 1) := by decide +kernel
theorem dX6_weighedBranches_53 : decode cX6_weighedBranches 53 = .ok (.iload_n 1, 1) := by decide +kernel
theorem dX6_weighedBranches_54 : decode cX6_weighedBranches 54 = .ok (.iconst 1, 1) := by decide +kernel
theorem dX6_weighedBranches_55 : decode cX6_weighedBranches 55 = .ok (.iadd, 1) := by decide +kernel
theorem dX6_weighedBranches_56 : decode cX6_weighedBranches 56 = .ok (.aaload, 1) := by decide +kernel
theorem dX6_weighedBranches_57 : decode cX6_weighedBranches 57 = .ok (.astore 6, 2) := by decide +kernel
theorem dX6_weighedBranches_59 : decode cX6_weighedBranches 59 = .ok (.lconst 0, 1) := by decide +kernel
theorem dX6_weighedBranches_60 : decode cX6_weighedBranches 60 = .ok (.lstore 7, 2) := by decide +kernel
theorem dX6_weighedBranches_62 : decode cX6_weighedBranches 62 = .ok (.iload_n 3, 1) := by decide +kernel
theorem dX6_weighedBranches_63 : decode cX6_weighedBranches 63 = .ok (.ifCond .le 39, 3) := by decide +kernel
theorem dX6_weighedBranches_66 : decode cX6_weighedBranches 66 = .ok (.aload 6, 2) := by decide +kernel
theorem dX6_weighedBranches_68 : decode cX6_weighedBranches 68 = .ok (.aload 5, 2) := by decide +kernel
theorem dX6_weighedBranches_70 : decode cX6_weighedBranches 70 = .ok (.invokevirtual 85, 3) := by decide +kernel
theorem dX6_weighedBranches_73 : decode cX6_weighedBranches 73 = .ok (.aload 6, 2) := by decide +kernel
theorem dX6_weighedBranches_75 : decode cX6_weighedBranches 75 = .ok (.aload 5, 2) := by decide +kernel
theorem dX6_weighedBranches_77 : decode cX6_weighedBranches 77 = .ok (.getfield 105, 3) := by decide +kernel
theorem dX6_weighedBranches_80 : decode cX6_weighedBranches 80 = .ok (.invokevirtual 216, 3) := by decide +kernel
theorem dX6_weighedBranches_83 : decode cX6_weighedBranches 83 = .ok (.lload 7, 2) := by decide +kernel
theorem dX6_weighedBranches_85 : decode cX6_weighedBranches 85 = .ok (.iload_n 3, 1) := by decide +kernel
theorem dX6_weighedBranches_86 : decode cX6_weighedBranches 86 = .ok (.i2l, 1) := by decide +kernel
theorem dX6_weighedBranches_87 : decode cX6_weighedBranches 87 = .ok (.aload_n 0, 1) := by decide +kernel
theorem dX6_weighedBranches_88 : decode cX6_weighedBranches 88 = .ok (.iload_n 1, 1) := by decide +kernel
theorem dX6_weighedBranches_89 : decode cX6_weighedBranches 89 = .ok (.iconst 1, 1) := by decide +kernel
theorem dX6_weighedBranches_90 : decode cX6_weighedBranches 90 = .ok (.iadd, 1) := by decide +kernel
theorem dX6_weighedBranches_91 : decode cX6_weighedBranches 91 = .ok (.iload_n 2, 1) := by decide +kernel
theorem dX6_weighedBranches_92 : decode cX6_weighedBranches 92 = .ok (.iload_n 3, 1) := by decide +kernel
theorem dX6_weighedBranches_93 : decode cX6_weighedBranches 93 = .ok (.iload 4, 2) := by decide +kernel
theorem dX6_weighedBranches_95 : decode cX6_weighedBranches 95 = .ok (.invokestatic 282, 3) := by decide +kernel
theorem dX6_weighedBranches_98 : decode cX6_weighedBranches 98 = .ok (.lmul, 1) := by decide +kernel
theorem dX6_weighedBranches_99 : decode cX6_weighedBranches 99 = .ok (.ladd, 1) := by decide +kernel
theorem dX6_weighedBranches_100 : decode cX6_weighedBranches 100 = .ok (.lstore 7, 2) := by decide +kernel
theorem dX6_weighedBranches_102 : decode cX6_weighedBranches 102 = .ok (.iload_n 3, 1) := by decide +kernel
theorem dX6_weighedBranches_103 : decode cX6_weighedBranches 103 = .ok (.bipush 10, 2) := by decide +kernel
theorem dX6_weighedBranches_105 : decode cX6_weighedBranches 105 = .ok (.if_icmp .ge 38, 3) := by decide +kernel
theorem dX6_weighedBranches_108 : decode cX6_weighedBranches 108 = .ok (.aload 6, 2) := by decide +kernel
theorem dX6_weighedBranches_110 : decode cX6_weighedBranches 110 = .ok (.aload 5, 2) := by decide +kernel
theorem dX6_weighedBranches_112 : decode cX6_weighedBranches 112 = .ok (.invokevirtual 85, 3) := by decide +kernel
theorem dX6_weighedBranches_115 : decode cX6_weighedBranches 115 = .ok (.aload 6, 2) := by decide +kernel
theorem dX6_weighedBranches_117 : decode cX6_weighedBranches 117 = .ok (.iconst 1, 1) := by decide +kernel
theorem dX6_weighedBranches_118 : decode cX6_weighedBranches 118 = .ok (.invokevirtual 170, 3) := by decide +kernel
theorem dX6_weighedBranches_121 : decode cX6_weighedBranches 121 = .ok (.lload 7, 2) := by decide +kernel
theorem dX6_weighedBranches_123 : decode cX6_weighedBranches 123 = .ok (.bipush 10, 2) := by decide +kernel
theorem dX6_weighedBranches_125 : decode cX6_weighedBranches 125 = .ok (.iload_n 3, 1) := by decide +kernel
theorem dX6_weighedBranches_126 : decode cX6_weighedBranches 126 = .ok (.isub, 1) := by decide +kernel
theorem dX6_weighedBranches_127 : decode cX6_weighedBranches 127 = .ok (.i2l, 1) := by decide +kernel
theorem dX6_weighedBranches_128 : decode cX6_weighedBranches 128 = .ok (.aload_n 0, 1) := by decide +kernel
theorem dX6_weighedBranches_129 : decode cX6_weighedBranches 129 = .ok (.iload_n 1, 1) := by decide +kernel
theorem dX6_weighedBranches_130 : decode cX6_weighedBranches 130 = .ok (.iconst 1, 1) := by decide +kernel
theorem dX6_weighedBranches_131 : decode cX6_weighedBranches 131 = .ok (.iadd, 1) := by decide +kernel
theorem dX6_weighedBranches_132 : decode cX6_weighedBranches 132 = .ok (.iload_n 2, 1) := by decide +kernel
theorem dX6_weighedBranches_133 : decode cX6_weighedBranches 133 = .ok (.iload_n 3, 1) := by decide +kernel
theorem dX6_weighedBranches_134 : decode cX6_weighedBranches 134 = .ok (.iload 4, 2) := by decide +kernel
theorem dX6_weighedBranches_136 : decode cX6_weighedBranches 136 = .ok (.invokestatic 282, 3) := by decide +kernel
theorem dX6_weighedBranches_139 : decode cX6_weighedBranches 139 = .ok (.lmul, 1) := by decide +kernel
theorem dX6_weighedBranches_140 : decode cX6_weighedBranches 140 = .ok (.ladd, 1) := by decide +kernel
theorem dX6_weighedBranches_141 : decode cX6_weighedBranches 141 = .ok (.lstore 7, 2) := by decide +kernel
theorem dX6_weighedBranches_143 : decode cX6_weighedBranches 143 = .ok (.lload 7, 2) := by decide +kernel
theorem dX6_weighedBranches_145 : decode cX6_weighedBranches 145 = .ok (.lreturn, 1) := by decide +kernel
theorem dX6_commonDivisor_0 : decode cX6_commonDivisor 0 = .ok (.lload_n 0, 1) := by decide +kernel
theorem dX6_commonDivisor_1 : decode cX6_commonDivisor 1 = .ok (.lstore 4, 2) := by decide +kernel
theorem dX6_commonDivisor_3 : decode cX6_commonDivisor 3 = .ok (.lload_n 2, 1) := by decide +kernel
theorem dX6_commonDivisor_4 : decode cX6_commonDivisor 4 = .ok (.lstore 6, 2) := by decide +kernel
theorem dX6_commonDivisor_6 : decode cX6_commonDivisor 6 = .ok (.iconst 0, 1) := by decide +kernel
theorem dX6_commonDivisor_7 : decode cX6_commonDivisor 7 = .ok (.istore 8, 2) := by decide +kernel
theorem dX6_commonDivisor_9 : decode cX6_commonDivisor 9 = .ok (.iload 8, 2) := by decide +kernel
theorem dX6_commonDivisor_11 : decode cX6_commonDivisor 11 = .ok (.bipush 100, 2) := by decide +kernel
theorem dX6_commonDivisor_13 : decode cX6_commonDivisor 13 = .ok (.if_icmp .ge 31, 3) := by decide +kernel
theorem dX6_commonDivisor_16 : decode cX6_commonDivisor 16 = .ok (.lload 6, 2) := by decide +kernel
theorem dX6_commonDivisor_18 : decode cX6_commonDivisor 18 = .ok (.lconst 0, 1) := by decide +kernel
theorem dX6_commonDivisor_19 : decode cX6_commonDivisor 19 = .ok (.lcmp, 1) := by decide +kernel
theorem dX6_commonDivisor_20 : decode cX6_commonDivisor 20 = .ok (.ifCond .le 24, 3) := by decide +kernel
theorem dX6_commonDivisor_23 : decode cX6_commonDivisor 23 = .ok (.lload 4, 2) := by decide +kernel
theorem dX6_commonDivisor_25 : decode cX6_commonDivisor 25 = .ok (.lload 6, 2) := by decide +kernel
theorem dX6_commonDivisor_27 : decode cX6_commonDivisor 27 = .ok (.lrem, 1) := by decide +kernel
theorem dX6_commonDivisor_28 : decode cX6_commonDivisor 28 = .ok (.lstore 9, 2) := by decide +kernel
theorem dX6_commonDivisor_30 : decode cX6_commonDivisor 30 = .ok (.lload 6, 2) := by decide +kernel
theorem dX6_commonDivisor_32 : decode cX6_commonDivisor 32 = .ok (.lstore 4, 2) := by decide +kernel
theorem dX6_commonDivisor_34 : decode cX6_commonDivisor 34 = .ok (.lload 9, 2) := by decide +kernel
theorem dX6_commonDivisor_36 : decode cX6_commonDivisor 36 = .ok (.lstore 6, 2) := by decide +kernel
theorem dX6_commonDivisor_38 : decode cX6_commonDivisor 38 = .ok (.iinc 8 1, 3) := by decide +kernel
theorem dX6_commonDivisor_41 : decode cX6_commonDivisor 41 = .ok (.goto (-32), 3) := by decide +kernel
theorem dX6_commonDivisor_44 : decode cX6_commonDivisor 44 = .ok (.lload 4, 2) := by decide +kernel
theorem dX6_commonDivisor_46 : decode cX6_commonDivisor 46 = .ok (.lconst 1, 1) := by decide +kernel
theorem dX6_commonDivisor_47 : decode cX6_commonDivisor 47 = .ok (.invokestatic 292, 3) := by decide +kernel
theorem dX6_commonDivisor_50 : decode cX6_commonDivisor 50 = .ok (.lreturn, 1) := by decide +kernel
