theorem dX7_runs_118 : decode cX7_runs 118 = .ok (.aload_n 0, 1) := by decide +kernel
theorem dX7_runs_119 : decode cX7_runs 119 = .ok (.invokevirtual 207, 3) := by decide +kernel
theorem dX7_runs_122 : decode cX7_runs 122 = .ok (.ireturn, 1) := by decide +kernel
theorem dX7_runs_123 : decode cX7_runs 123 = .ok (.aload_n 0, 1) := by decide +kernel
theorem dX7_runs_124 : decode cX7_runs 124 = .ok (.getfield 13, 3) := by decide +kernel
theorem dX7_runs_127 : decode cX7_runs 127 = .ok (.bipush 28, 2) := by decide +kernel
theorem dX7_runs_129 : decode cX7_runs 129 = .ok (.iaload, 1) := by decide +kernel
theorem dX7_runs_130 : decode cX7_runs 130 = .ok (.ireturn, 1) := by decide +kernel
theorem dX7_runs_131 : decode cX7_runs 131 = .ok (.iload_n 3, 1) := by decide +kernel
theorem dX7_runs_132 : decode cX7_runs 132 = .ok (.ireturn, 1) := by decide +kernel
theorem dX7_ahead_0 : decode cX7_ahead 0 = .ok (.aload_n 0, 1) := by decide +kernel
theorem dX7_ahead_1 : decode cX7_ahead 1 = .ok (.iload_n 1, 1) := by decide +kernel
theorem dX7_ahead_2 : decode cX7_ahead 2 = .ok (.invokevirtual 210, 3) := by decide +kernel
theorem dX7_ahead_5 : decode cX7_ahead 5 = .ok (.ifCond .eq 17, 3) := by decide +kernel
theorem dX7_ahead_8 : decode cX7_ahead 8 = .ok (.iload_n 2, 1) := by decide +kernel
theorem dX7_ahead_9 : decode cX7_ahead 9 = .ok (.invokestatic 244, 3) := by decide +kernel
theorem dX7_ahead_12 : decode cX7_ahead 12 = .ok (.ifCond .eq 10, 3) := by decide +kernel
theorem dX7_ahead_15 : decode cX7_ahead 15 = .ok (.iload_n 3, 1) := by decide +kernel
theorem dX7_ahead_16 : decode cX7_ahead 16 = .ok (.invokestatic 216, 3) := by decide +kernel
theorem dX7_ahead_19 : decode cX7_ahead 19 = .ok (.ifCond .ne 5, 3) := by decide +kernel
theorem dX7_ahead_22 : decode cX7_ahead 22 = .ok (.iconst (-1), 1) := by decide +kernel
theorem dX7_ahead_23 : decode cX7_ahead 23 = .ok (.ireturn, 1) := by decide +kernel
theorem dX7_ahead_24 : decode cX7_ahead 24 = .ok (.aload_n 0, 1) := by decide +kernel
theorem dX7_ahead_25 : decode cX7_ahead 25 = .ok (.invokevirtual 201, 3) := by decide +kernel
theorem dX7_ahead_28 : decode cX7_ahead 28 = .ok (.aload_n 0, 1) := by decide +kernel
theorem dX7_ahead_29 : decode cX7_ahead 29 = .ok (.iload_n 2, 1) := by decide +kernel
theorem dX7_ahead_30 : decode cX7_ahead 30 = .ok (.invokevirtual 188, 3) := by decide +kernel
theorem dX7_ahead_33 : decode cX7_ahead 33 = .ok (.iload_n 3, 1) := by decide +kernel
theorem dX7_ahead_34 : decode cX7_ahead 34 = .ok (.ifCond .ne 11, 3) := by decide +kernel
theorem dX7_ahead_37 : decode cX7_ahead 37 = .ok (.aload_n 0, 1) := by decide +kernel
theorem dX7_ahead_38 : decode cX7_ahead 38 = .ok (.iload_n 1, 1) := by decide +kernel
theorem dX7_ahead_39 : decode cX7_ahead 39 = .ok (.invokevirtual 160, 3) := by decide +kernel
theorem dX7_ahead_42 : decode cX7_ahead 42 = .ok (.goto 9, 3) := by decide +kernel
theorem dX7_ahead_45 : decode cX7_ahead 45 = .ok (.aload_n 0, 1) := by decide +kernel
theorem dX7_ahead_46 : decode cX7_ahead 46 = .ok (.iload_n 1, 1) := by decide +kernel
theorem dX7_ahead_47 : decode cX7_ahead 47 = .ok (.iconst 2, 1) := by decide +kernel
theorem dX7_ahead_48 : decode cX7_ahead 48 = .ok (.invokevirtual 154, 3) := by decide +kernel
theorem dX7_ahead_51 : decode cX7_ahead 51 = .ok (.ireturn, 1) := by decide +kernel
theorem dX7_meets_0 : decode cX7_meets 0 = .ok (.aload_n 0, 1) := by decide +kernel
theorem dX7_meets_1 : decode cX7_meets 1 = .ok (.iload_n 1, 1) := by decide +kernel
theorem dX7_meets_2 : decode cX7_meets 2 = .ok (.invokevirtual 210, 3) := by decide +kernel
theorem dX7_meets_5 : decode cX7_meets 5 = .ok (.ifCond .ne 5, 3) := by decide +kernel
theorem dX7_meets_8 : decode cX7_meets 8 = .ok (.iconst (-1), 1) := by decide +kernel
theorem dX7_meets_9 : decode cX7_meets 9 = .ok (.ireturn, 1) := by decide +kernel
theorem dX7_meets_10 : decode cX7_meets 10 = .ok (.aload_n 0, 1) := by decide +kernel
theorem dX7_meets_11 : decode cX7_meets 11 = .ok (.invokevirtual 201, 3) := by decide +kernel
theorem dX7_meets_14 : decode cX7_meets 14 = .ok (.iconst 0, 1) := by decide +kernel
theorem dX7_meets_15 : decode cX7_meets 15 = .ok (.istore_n 2, 1) := by decide +kernel
theorem dX7_meets_16 : decode cX7_meets 16 = .ok (.iload_n 2, 1) := by decide +kernel
theorem dX7_meets_17 : decode cX7_meets 17 = .ok (.bipush 60, 2) := by decide +kernel
theorem dX7_meets_19 : decode cX7_meets 19 = .ok (.if_icmp .gt 24, 3) := by decide +kernel
theorem dX7_meets_22 : decode cX7_meets 22 = .ok (.aload_n 0, 1) := by decide +kernel
theorem dX7_meets_23 : decode cX7_meets 23 = .ok (.iload_n 1, 1) := by decide +kernel
theorem dX7_meets_24 : decode cX7_meets 24 = .ok (.invokevirtual 157, 3) := by decide +kernel
theorem dX7_meets_27 : decode cX7_meets 27 = .ok (.ifCond .eq 5, 3) := by decide +kernel
theorem dX7_meets_30 : decode cX7_meets 30 = .ok (.iload_n 2, 1) := by decide +kernel
theorem dX7_meets_31 : decode cX7_meets 31 = .ok (.ireturn, 1) := by decide +kernel
theorem dX7_meets_32 : decode cX7_meets 32 = .ok (.aload_n 0, 1) := by decide +kernel
theorem dX7_meets_33 : decode cX7_meets 33 = .ok (.iconst 1, 1) := by decide +kernel
theorem dX7_meets_34 : decode cX7_meets 34 = .ok (.invokevirtual 188, 3) := by decide +kernel
theorem dX7_meets_37 : decode cX7_meets 37 = .ok (.iinc 2 1, 3) := by decide +kernel
theorem dX7_meets_40 : decode cX7_meets 40 = .ok (.goto (-24), 3) := by decide +kernel
theorem dX7_meets_43 : decode cX7_meets 43 = .ok (.bipush (-4), 2) := by decide +kernel
theorem dX7_meets_45 : decode cX7_meets 45 = .ok (.ireturn, 1) := by decide +kernel
theorem dX7_startsJudging_0 : decode cX7_startsJudging 0 = .ok (.aload_n 0, 1) := by decide +kernel
theorem dX7_startsJudging_1 : decode cX7_startsJudging 1 = .ok (.bipush (-4), 2) := by decide +kernel
theorem dX7_startsJudging_3 : decode cX7_startsJudging 3 = .ok (.putfield 249, 3) := by decide +kernel
theorem dX7_startsJudging_6 : decode cX7_startsJudging 6 = .ok (.aload_n 0, 1) := by decide +kernel
theorem dX7_startsJudging_7 : decode cX7_startsJudging 7 = .ok (.iload_n 1, 1) := by decide +kernel
theorem dX7_startsJudging_8 : decode cX7_startsJudging 8 = .ok (.putfield 252, 3) := by decide +kernel
theorem dX7_startsJudging_11 : decode cX7_startsJudging 11 = .ok (.return_, 1) := by decide +kernel
theorem dX7_judges_0 : decode cX7_judges 0 = .ok (.aload_n 0, 1) := by decide +kernel
theorem dX7_judges_1 : decode cX7_judges 1 = .ok (.iload_n 2, 1) := by decide +kernel
theorem dX7_judges_2 : decode cX7_judges 2 = .ok (.aload_n 0, 1) := by decide +kernel
theorem dX7_judges_3 : decode cX7_judges 3 = .ok (.getfield 252, 3) := by decide +kernel
theorem dX7_judges_6 : decode cX7_judges 6 = .ok (.if_icmp .le 7, 3) := by decide +kernel
theorem dX7_judges_9 : decode cX7_judges 9 = .ok (.iload_n 1, 1) := by decide +kernel
theorem dX7_judges_10 : decode cX7_judges 10 = .ok (.goto 7, 3) := by decide +kernel
theorem dX7_judges_13 : decode cX7_judges 13 = .ok (.aload_n 0, 1) := by decide +kernel
theorem dX7_judges_14 : decode cX7_judges 14 = .ok (.getfield 249, 3) := by decide +kernel
theorem dX7_judges_17 : decode cX7_judges 17 = .ok (.putfield 249, 3) := by decide +kernel
theorem dX7_judges_20 : decode cX7_judges 20 = .ok (.aload_n 0, 1) := by decide +kernel
theorem dX7_judges_21 : decode cX7_judges 21 = .ok (.iload_n 2, 1) := by decide +kernel
theorem dX7_judges_22 : decode cX7_judges 22 = .ok (.aload_n 0, 1) := by decide +kernel
theorem dX7_judges_23 : decode cX7_judges 23 = .ok (.getfield 252, 3) := by decide +kernel
theorem dX7_judges_26 : decode cX7_judges 26 = .ok (.if_icmp .le 7, 3) := by decide +kernel
theorem dX7_judges_29 : decode cX7_judges 29 = .ok (.iload_n 2, 1) := by decide +kernel
theorem dX7_judges_30 : decode cX7_judges 30 = .ok (.goto 7, 3) := by decide +kernel
theorem dX7_judges_33 : decode cX7_judges 33 = .ok (.aload_n 0, 1) := by decide +kernel
theorem dX7_judges_34 : decode cX7_judges 34 = .ok (.getfield 252, 3) := by decide +kernel
theorem dX7_judges_37 : decode cX7_judges 37 = .ok (.putfield 252, 3) := by decide +kernel
theorem dX7_judges_40 : decode cX7_judges 40 = .ok (.return_, 1) := by decide +kernel
theorem dX7_judged_0 : decode cX7_judged 0 = .ok (.aload_n 0, 1) := by decide +kernel
theorem dX7_judged_1 : decode cX7_judged 1 = .ok (.getfield 249, 3) := by decide +kernel
theorem dX7_judged_4 : decode cX7_judged 4 = .ok (.bipush (-4), 2) := by decide +kernel
theorem dX7_judged_6 : decode cX7_judged 6 = .ok (.if_icmp .ne 8, 3) := by decide +kernel
theorem dX7_judged_9 : decode cX7_judged 9 = .ok (.bipush (-4), 2) := by decide +kernel
theorem dX7_judged_11 : decode cX7_judged 11 = .ok (.goto 18, 3) := by decide +kernel
theorem dX7_judged_14 : decode cX7_judged 14 = .ok (.iload_n 1, 1) := by decide +kernel
theorem dX7_judged_15 : decode cX7_judged 15 = .ok (.ifCond .ne 10, 3) := by decide +kernel
theorem dX7_judged_18 : decode cX7_judged 18 = .ok (.aload_n 0, 1) := by decide +kernel
theorem dX7_judged_19 : decode cX7_judged 19 = .ok (.getfield 249, 3) := by decide +kernel
theorem dX7_judged_22 : decode cX7_judged 22 = .ok (.goto 7, 3) := by decide +kernel
theorem dX7_judged_25 : decode cX7_judged 25 = .ok (.aload_n 0, 1) := by decide +kernel
theorem dX7_judged_26 : decode cX7_judged 26 = .ok (.getfield 252, 3) := by decide +kernel
theorem dX7_judged_29 : decode cX7_judged 29 = .ok (.ireturn, 1) := by decide +kernel
theorem dX7_place_0 : decode cX7_place 0 = .ok (.aload_n 0, 1) := by decide +kernel
theorem dX7_place_1 : decode cX7_place 1 = .ok (.iload_n 1, 1) := by decide +kernel
theorem dX7_place_2 : decode cX7_place 2 = .ok (.invokevirtual 219, 3) := by decide +kernel
theorem dX7_place_5 : decode cX7_place 5 = .ok (.ifCond .eq 17, 3) := by decide +kernel
theorem dX7_place_8 : decode cX7_place 8 = .ok (.iload_n 2, 1) := by decide +kernel
theorem dX7_place_9 : decode cX7_place 9 = .ok (.invokestatic 244, 3) := by decide +kernel
theorem dX7_place_12 : decode cX7_place 12 = .ok (.ifCond .eq 10, 3) := by decide +kernel
theorem dX7_place_15 : decode cX7_place 15 = .ok (.iload_n 3, 1) := by decide +kernel
theorem dX7_place_16 : decode cX7_place 16 = .ok (.invokestatic 216, 3) := by decide +kernel
theorem dX7_place_19 : decode cX7_place 19 = .ok (.ifCond .ne 5, 3) := by decide +kernel
theorem dX7_place_22 : decode cX7_place 22 = .ok (.iconst (-1), 1) := by decide +kernel
theorem dX7_place_23 : decode cX7_place 23 = .ok (.ireturn, 1) := by decide +kernel
theorem dX7_place_24 : decode cX7_place 24 = .ok (.aload_n 0, 1) := by decide +kernel
theorem dX7_place_25 : decode cX7_place 25 = .ok (.iconst (-1), 1) := by decide +kernel
theorem dX7_place_26 : decode cX7_place 26 = .ok (.invokevirtual 255, 3) := by decide +kernel
theorem dX7_place_29 : decode cX7_place 29 = .ok (.iconst 0, 1) := by decide +kernel
theorem dX7_place_30 : decode cX7_place 30 = .ok (.istore 4, 2) := by decide +kernel
theorem dX7_place_32 : decode cX7_place 32 = .ok (.iload 4, 2) := by decide +kernel
theorem dX7_place_34 : decode cX7_place 34 = .ok (.bipush 12, 2) := by decide +kernel
theorem dX7_place_36 : decode cX7_place 36 = .ok (.if_icmp .ge 35, 3) := by decide +kernel
theorem dX7_place_39 : decode cX7_place 39 = .ok (.aload_n 0, 1) := by decide +kernel
theorem dX7_place_40 : decode cX7_place 40 = .ok (.invokevirtual 201, 3) := by decide +kernel
theorem dX7_place_43 : decode cX7_place 43 = .ok (.aload_n 0, 1) := by decide +kernel
theorem dX7_place_44 : decode cX7_place 44 = .ok (.getfield 13, 3) := by decide +kernel
theorem dX7_place_47 : decode cX7_place 47 = .ok (.bipush 30, 2) := by decide +kernel
theorem dX7_place_49 : decode cX7_place 49 = .ok (.iload_n 1, 1) := by decide +kernel
theorem dX7_place_50 : decode cX7_place 50 = .ok (.iadd, 1) := by decide +kernel
theorem dX7_place_51 : decode cX7_place 51 = .ok (.iload 4, 2) := by decide +kernel
theorem dX7_place_53 : decode cX7_place 53 = .ok (.iastore, 1) := by decide +kernel
theorem dX7_place_54 : decode cX7_place 54 = .ok (.aload_n 0, 1) := by decide +kernel
theorem dX7_place_55 : decode cX7_place 55 = .ok (.iload 4, 2) := by decide +kernel
theorem dX7_place_57 : decode cX7_place 57 = .ok (.aload_n 0, 1) := by decide +kernel
theorem dX7_place_58 : decode cX7_place 58 = .ok (.iload_n 2, 1) := by decide +kernel
theorem dX7_place_59 : decode cX7_place 59 = .ok (.invokevirtual 258, 3) := by decide +kernel
theorem dX7_place_62 : decode cX7_place 62 = .ok (.invokevirtual 261, 3) := by decide +kernel
theorem dX7_place_65 : decode cX7_place 65 = .ok (.iinc 4 1, 3) := by decide +kernel
theorem dX7_place_68 : decode cX7_place 68 = .ok (.goto (-36), 3) := by decide +kernel
theorem dX7_place_71 : decode cX7_place 71 = .ok (.aload_n 0, 1) := by decide +kernel
theorem dX7_place_72 : decode cX7_place 72 = .ok (.iload_n 3, 1) := by decide +kernel
theorem dX7_place_73 : decode cX7_place 73 = .ok (.invokevirtual 265, 3) := by decide +kernel
theorem dX7_place_76 : decode cX7_place 76 = .ok (.ireturn, 1) := by decide +kernel
theorem dX7_extra_0 : decode cX7_extra 0 = .ok (.iload_n 1, 1) := by decide +kernel
theorem dX7_extra_1 : decode cX7_extra 1 = .ok (.invokestatic 244, 3) := by decide +kernel
theorem dX7_extra_4 : decode cX7_extra 4 = .ok (.ifCond .eq 10, 3) := by decide +kernel
theorem dX7_extra_7 : decode cX7_extra 7 = .ok (.iload_n 2, 1) := by decide +kernel
theorem dX7_extra_8 : decode cX7_extra 8 = .ok (.invokestatic 216, 3) := by decide +kernel
theorem dX7_extra_11 : decode cX7_extra 11 = .ok (.ifCond .ne 5, 3) := by decide +kernel
theorem dX7_extra_14 : decode cX7_extra 14 = .ok (.iconst (-1), 1) := by decide +kernel
theorem dX7_extra_15 : decode cX7_extra 15 = .ok (.ireturn, 1) := by decide +kernel
theorem dX7_extra_16 : decode cX7_extra 16 = .ok (.aload_n 0, 1) := by decide +kernel
theorem dX7_extra_17 : decode cX7_extra 17 = .ok (.getfield 7, 3) := by decide +kernel
theorem dX7_extra_20 : decode cX7_extra 20 = .ok (.bipush 29, 2) := by decide +kernel
theorem dX7_extra_22 : decode cX7_extra 22 = .ok (.iaload, 1) := by decide +kernel
theorem dX7_extra_23 : decode cX7_extra 23 = .ok (.bipush 6, 2) := by decide +kernel
theorem dX7_extra_25 : decode cX7_extra 25 = .ok (.if_icmp .ne 6, 3) := by decide +kernel
theorem dX7_extra_28 : decode cX7_extra 28 = .ok (.bipush (-3), 2) := by decide +kernel
theorem dX7_extra_30 : decode cX7_extra 30 = .ok (.ireturn, 1) := by decide +kernel
theorem dX7_extra_31 : decode cX7_extra 31 = .ok (.aload_n 0, 1) := by decide +kernel
theorem dX7_extra_32 : decode cX7_extra 32 = .ok (.iconst (-1), 1) := by decide +kernel
theorem dX7_extra_33 : decode cX7_extra 33 = .ok (.invokevirtual 255, 3) := by decide +kernel
theorem dX7_extra_36 : decode cX7_extra 36 = .ok (.iconst 0, 1) := by decide +kernel
theorem dX7_extra_37 : decode cX7_extra 37 = .ok (.istore_n 3, 1) := by decide +kernel
theorem dX7_extra_38 : decode cX7_extra 38 = .ok (.iload_n 3, 1) := by decide +kernel
theorem dX7_extra_39 : decode cX7_extra 39 = .ok (.bipush 12, 2) := by decide +kernel
theorem dX7_extra_41 : decode cX7_extra 41 = .ok (.if_icmp .ge 50, 3) := by decide +kernel
theorem dX7_extra_44 : decode cX7_extra 44 = .ok (.aload_n 0, 1) := by decide +kernel
theorem dX7_extra_45 : decode cX7_extra 45 = .ok (.invokevirtual 201, 3) := by decide +kernel
theorem dX7_extra_48 : decode cX7_extra 48 = .ok (.aload_n 0, 1) := by decide +kernel
theorem dX7_extra_49 : decode cX7_extra 49 = .ok (.getfield 13, 3) := by decide +kernel
theorem dX7_extra_52 : decode cX7_extra 52 = .ok (.bipush 30, 2) := by decide +kernel
theorem dX7_extra_54 : decode cX7_extra 54 = .ok (.aload_n 0, 1) := by decide +kernel
theorem dX7_extra_55 : decode cX7_extra 55 = .ok (.getfield 13, 3) := by decide +kernel
theorem dX7_extra_58 : decode cX7_extra 58 = .ok (.bipush 29, 2) := by decide +kernel
theorem dX7_extra_60 : decode cX7_extra 60 = .ok (.iaload, 1) := by decide +kernel
theorem dX7_extra_61 : decode cX7_extra 61 = .ok (.iadd, 1) := by decide +kernel
theorem dX7_extra_62 : decode cX7_extra 62 = .ok (.iload_n 3, 1) := by decide +kernel
theorem dX7_extra_63 : decode cX7_extra 63 = .ok (.iastore, 1) := by decide +kernel
theorem dX7_extra_64 : decode cX7_extra 64 = .ok (.aload_n 0, 1) := by decide +kernel
theorem dX7_extra_65 : decode cX7_extra 65 = .ok (.getfield 13, 3) := by decide +kernel
theorem dX7_extra_68 : decode cX7_extra 68 = .ok (.bipush 29, 2) := by decide +kernel
theorem dX7_extra_70 : decode cX7_extra 70 = .ok (.dup2, 1) := by decide +kernel
theorem dX7_extra_71 : decode cX7_extra 71 = .ok (.iaload, 1) := by decide +kernel
theorem dX7_extra_72 : decode cX7_extra 72 = .ok (.iconst 1, 1) := by decide +kernel
theorem dX7_extra_73 : decode cX7_extra 73 = .ok (.iadd, 1) := by decide +kernel
theorem dX7_extra_74 : decode cX7_extra 74 = .ok (.iastore, 1) := by decide +kernel
theorem dX7_extra_75 : decode cX7_extra 75 = .ok (.aload_n 0, 1) := by decide +kernel
theorem dX7_extra_76 : decode cX7_extra 76 = .ok (.iload_n 3, 1) := by decide +kernel
theorem dX7_extra_77 : decode cX7_extra 77 = .ok (.aload_n 0, 1) := by decide +kernel
theorem dX7_extra_78 : decode cX7_extra 78 = .ok (.iload_n 1, 1) := by decide +kernel
theorem dX7_extra_79 : decode cX7_extra 79 = .ok (.invokevirtual 258, 3) := by decide +kernel
theorem dX7_extra_82 : decode cX7_extra 82 = .ok (.invokevirtual 261, 3) := by decide +kernel
theorem dX7_extra_85 : decode cX7_extra 85 = .ok (.iinc 3 1, 3) := by decide +kernel
theorem dX7_extra_88 : decode cX7_extra 88 = .ok (.goto (-50), 3) := by decide +kernel
theorem dX7_extra_91 : decode cX7_extra 91 = .ok (.aload_n 0, 1) := by decide +kernel
theorem dX7_extra_92 : decode cX7_extra 92 = .ok (.iload_n 2, 1) := by decide +kernel
theorem dX7_extra_93 : decode cX7_extra 93 = .ok (.invokevirtual 265, 3) := by decide +kernel
theorem dX7_extra_96 : decode cX7_extra 96 = .ok (.ireturn, 1) := by decide +kernel
theorem dX7_swap_0 : decode cX7_swap 0 = .ok (.iload_n 1, 1) := by decide +kernel
theorem dX7_swap_1 : decode cX7_swap 1 = .ok (.invokestatic 244, 3) := by decide +kernel
theorem dX7_swap_4 : decode cX7_swap 4 = .ok (.ifCond .eq 10, 3) := by decide +kernel
theorem dX7_swap_7 : decode cX7_swap 7 = .ok (.iload_n 2, 1) := by decide +kernel
theorem dX7_swap_8 : decode cX7_swap 8 = .ok (.invokestatic 216, 3) := by decide +kernel
theorem dX7_swap_11 : decode cX7_swap 11 = .ok (.ifCond .ne 5, 3) := by decide +kernel
theorem dX7_swap_14 : decode cX7_swap 14 = .ok (.iconst (-1), 1) := by decide +kernel
theorem dX7_swap_15 : decode cX7_swap 15 = .ok (.ireturn, 1) := by decide +kernel
theorem dX7_swap_16 : decode cX7_swap 16 = .ok (.aload_n 0, 1) := by decide +kernel
theorem dX7_swap_17 : decode cX7_swap 17 = .ok (.invokevirtual 201, 3) := by decide +kernel
theorem dX7_swap_20 : decode cX7_swap 20 = .ok (.aload_n 0, 1) := by decide +kernel
theorem dX7_swap_21 : decode cX7_swap 21 = .ok (.aload_n 0, 1) := by decide +kernel
theorem dX7_swap_22 : decode cX7_swap 22 = .ok (.iload_n 1, 1) := by decide +kernel
theorem dX7_swap_23 : decode cX7_swap 23 = .ok (.invokevirtual 236, 3) := by decide +kernel
theorem dX7_swap_26 : decode cX7_swap 26 = .ok (.invokevirtual 255, 3) := by decide +kernel
theorem dX7_swap_29 : decode cX7_swap 29 = .ok (.iconst 0, 1) := by decide +kernel
theorem dX7_swap_30 : decode cX7_swap 30 = .ok (.istore_n 3, 1) := by decide +kernel
theorem dX7_swap_31 : decode cX7_swap 31 = .ok (.iload_n 3, 1) := by decide +kernel
theorem dX7_swap_32 : decode cX7_swap 32 = .ok (.aload_n 0, 1) := by decide +kernel
theorem dX7_swap_33 : decode cX7_swap 33 = .ok (.getfield 7, 3) := by decide +kernel
theorem dX7_swap_36 : decode cX7_swap 36 = .ok (.bipush 29, 2) := by decide +kernel
theorem dX7_swap_38 : decode cX7_swap 38 = .ok (.iaload, 1) := by decide +kernel
theorem dX7_swap_39 : decode cX7_swap 39 = .ok (.if_icmp .ge 90, 3) := by decide +kernel
theorem dX7_swap_42 : decode cX7_swap 42 = .ok (.iload_n 3, 1) := by decide +kernel
theorem dX7_swap_43 : decode cX7_swap 43 = .ok (.iconst 1, 1) := by decide +kernel
theorem dX7_swap_44 : decode cX7_swap 44 = .ok (.iadd, 1) := by decide +kernel
theorem dX7_swap_45 : decode cX7_swap 45 = .ok (.istore 4, 2) := by decide +kernel
theorem dX7_swap_47 : decode cX7_swap 47 = .ok (.iload 4, 2) := by decide +kernel
theorem dX7_swap_49 : decode cX7_swap 49 = .ok (.aload_n 0, 1) := by decide +kernel
theorem dX7_swap_50 : decode cX7_swap 50 = .ok (.getfield 7, 3) := by decide +kernel
theorem dX7_swap_53 : decode cX7_swap 53 = .ok (.bipush 29, 2) := by decide +kernel
theorem dX7_swap_55 : decode cX7_swap 55 = .ok (.iaload, 1) := by decide +kernel
theorem dX7_swap_56 : decode cX7_swap 56 = .ok (.if_icmp .ge 67, 3) := by decide +kernel
theorem dX7_swap_59 : decode cX7_swap 59 = .ok (.aload_n 0, 1) := by decide +kernel
theorem dX7_swap_60 : decode cX7_swap 60 = .ok (.invokevirtual 201, 3) := by decide +kernel
theorem dX7_swap_63 : decode cX7_swap 63 = .ok (.aload_n 0, 1) := by decide +kernel
theorem dX7_swap_64 : decode cX7_swap 64 = .ok (.getfield 13, 3) := by decide +kernel
theorem dX7_swap_67 : decode cX7_swap 67 = .ok (.bipush 30, 2) := by decide +kernel
theorem dX7_swap_69 : decode cX7_swap 69 = .ok (.iload_n 3, 1) := by decide +kernel
theorem dX7_swap_70 : decode cX7_swap 70 = .ok (.iadd, 1) := by decide +kernel
theorem dX7_swap_71 : decode cX7_swap 71 = .ok (.aload_n 0, 1) := by decide +kernel
theorem dX7_swap_72 : decode cX7_swap 72 = .ok (.getfield 7, 3) := by decide +kernel
theorem dX7_swap_75 : decode cX7_swap 75 = .ok (.bipush 30, 2) := by decide +kernel
theorem dX7_swap_77 : decode cX7_swap 77 = .ok (.iload 4, 2) := by decide +kernel
theorem dX7_swap_79 : decode cX7_swap 79 = .ok (.iadd, 1) := by decide +kernel
theorem dX7_swap_80 : decode cX7_swap 80 = .ok (.iaload, 1) := by decide +kernel
theorem dX7_swap_81 : decode cX7_swap 81 = .ok (.iastore, 1) := by decide +kernel
theorem dX7_swap_82 : decode cX7_swap 82 = .ok (.aload_n 0, 1) := by decide +kernel
theorem dX7_swap_83 : decode cX7_swap 83 = .ok (.getfield 13, 3) := by decide +kernel
theorem dX7_swap_86 : decode cX7_swap 86 = .ok (.bipush 30, 2) := by decide +kernel
theorem dX7_swap_88 : decode cX7_swap 88 = .ok (.iload 4, 2) := by decide +kernel
theorem dX7_swap_90 : decode cX7_swap 90 = .ok (.iadd, 1) := by decide +kernel
theorem dX7_swap_91 : decode cX7_swap 91 = .ok (.aload_n 0, 1) := by decide +kernel
theorem dX7_swap_92 : decode cX7_swap 92 = .ok (.getfield 7, 3) := by decide +kernel
theorem dX7_swap_95 : decode cX7_swap 95 = .ok (.bipush 30, 2) := by decide +kernel
theorem dX7_swap_97 : decode cX7_swap 97 = .ok (.iload_n 3, 1) := by decide +kernel
theorem dX7_swap_98 : decode cX7_swap 98 = .ok (.iadd, 1) := by decide +kernel
theorem dX7_swap_99 : decode cX7_swap 99 = .ok (.iaload, 1) := by decide +kernel
theorem dX7_swap_100 : decode cX7_swap 100 = .ok (.iastore, 1) := by decide +kernel
theorem dX7_swap_101 : decode cX7_swap 101 = .ok (.aload_n 0, 1) := by decide +kernel
theorem dX7_swap_102 : decode cX7_swap 102 = .ok (.bipush 10, 2) := by decide +kernel
theorem dX7_swap_104 : decode cX7_swap 104 = .ok (.iload_n 3, 1) := by decide +kernel
theorem dX7_swap_105 : decode cX7_swap 105 = .ok (.imul, 1) := by decide +kernel
theorem dX7_swap_106 : decode cX7_swap 106 = .ok (.iload 4, 2) := by decide +kernel
theorem dX7_swap_108 : decode cX7_swap 108 = .ok (.iadd, 1) := by decide +kernel
theorem dX7_swap_109 : decode cX7_swap 109 = .ok (.aload_n 0, 1) := by decide +kernel
theorem dX7_swap_110 : decode cX7_swap 110 = .ok (.iload_n 1, 1) := by decide +kernel
theorem dX7_swap_111 : decode cX7_swap 111 = .ok (.invokevirtual 236, 3) := by decide +kernel
theorem dX7_swap_114 : decode cX7_swap 114 = .ok (.invokevirtual 261, 3) := by decide +kernel
theorem dX7_swap_117 : decode cX7_swap 117 = .ok (.iinc 4 1, 3) := by decide +kernel
theorem dX7_swap_120 : decode cX7_swap 120 = .ok (.goto (-73), 3) := by decide +kernel
theorem dX7_swap_123 : decode cX7_swap 123 = .ok (.iinc 3 1, 3) := by decide +kernel
theorem dX7_swap_126 : decode cX7_swap 126 = .ok (.goto (-95), 3) := by decide +kernel
theorem dX7_swap_129 : decode cX7_swap 129 = .ok (.aload_n 0, 1) := by decide +kernel
theorem dX7_swap_130 : decode cX7_swap 130 = .ok (.iload_n 2, 1) := by decide +kernel
theorem dX7_swap_131 : decode cX7_swap 131 = .ok (.invokevirtual 265, 3) := by decide +kernel
theorem dX7_swap_134 : decode cX7_swap 134 = .ok (.ireturn, 1) := by decide +kernel
theorem dX7_shun_0 : decode cX7_shun 0 = .ok (.iload_n 1, 1) := by decide +kernel
theorem dX7_shun_1 : decode cX7_shun 1 = .ok (.invokestatic 244, 3) := by decide +kernel
theorem dX7_shun_4 : decode cX7_shun 4 = .ok (.ifCond .eq 10, 3) := by decide +kernel
theorem dX7_shun_7 : decode cX7_shun 7 = .ok (.iload_n 2, 1) := by decide +kernel
theorem dX7_shun_8 : decode cX7_shun 8 = .ok (.invokestatic 216, 3) := by decide +kernel
theorem dX7_shun_11 : decode cX7_shun 11 = .ok (.ifCond .ne 5, 3) := by decide +kernel
theorem dX7_shun_14 : decode cX7_shun 14 = .ok (.iconst (-1), 1) := by decide +kernel
theorem dX7_shun_15 : decode cX7_shun 15 = .ok (.ireturn, 1) := by decide +kernel
theorem dX7_shun_16 : decode cX7_shun 16 = .ok (.aload_n 0, 1) := by decide +kernel
theorem dX7_shun_17 : decode cX7_shun 17 = .ok (.invokevirtual 201, 3) := by decide +kernel
theorem dX7_shun_20 : decode cX7_shun 20 = .ok (.aload_n 0, 1) := by decide +kernel
theorem dX7_shun_21 : decode cX7_shun 21 = .ok (.aload_n 0, 1) := by decide +kernel
theorem dX7_shun_22 : decode cX7_shun 22 = .ok (.iload_n 1, 1) := by decide +kernel
theorem dX7_shun_23 : decode cX7_shun 23 = .ok (.invokevirtual 236, 3) := by decide +kernel
theorem dX7_shun_26 : decode cX7_shun 26 = .ok (.invokevirtual 255, 3) := by decide +kernel
theorem dX7_shun_29 : decode cX7_shun 29 = .ok (.iconst 0, 1) := by decide +kernel
theorem dX7_shun_30 : decode cX7_shun 30 = .ok (.istore_n 3, 1) := by decide +kernel
theorem dX7_shun_31 : decode cX7_shun 31 = .ok (.iload_n 3, 1) := by decide +kernel
theorem dX7_shun_32 : decode cX7_shun 32 = .ok (.aload_n 0, 1) := by decide +kernel
theorem dX7_shun_33 : decode cX7_shun 33 = .ok (.getfield 7, 3) := by decide +kernel
theorem dX7_shun_36 : decode cX7_shun 36 = .ok (.bipush 29, 2) := by decide +kernel
theorem dX7_shun_38 : decode cX7_shun 38 = .ok (.iaload, 1) := by decide +kernel
theorem dX7_shun_39 : decode cX7_shun 39 = .ok (.if_icmp .ge 71, 3) := by decide +kernel
theorem dX7_shun_42 : decode cX7_shun 42 = .ok (.aload_n 0, 1) := by decide +kernel
theorem dX7_shun_43 : decode cX7_shun 43 = .ok (.invokevirtual 201, 3) := by decide +kernel
theorem dX7_shun_46 : decode cX7_shun 46 = .ok (.iload_n 3, 1) := by decide +kernel
theorem dX7_shun_47 : decode cX7_shun 47 = .ok (.istore 4, 2) := by decide +kernel
theorem dX7_shun_49 : decode cX7_shun 49 = .ok (.iload 4, 2) := by decide +kernel
theorem dX7_shun_51 : decode cX7_shun 51 = .ok (.iconst 5, 1) := by decide +kernel
theorem dX7_shun_52 : decode cX7_shun 52 = .ok (.if_icmp .ge 31, 3) := by decide +kernel
theorem dX7_shun_55 : decode cX7_shun 55 = .ok (.aload_n 0, 1) := by decide +kernel
theorem dX7_shun_56 : decode cX7_shun 56 = .ok (.getfield 13, 3) := by decide +kernel
theorem dX7_shun_59 : decode cX7_shun 59 = .ok (.bipush 30, 2) := by decide +kernel
theorem dX7_shun_61 : decode cX7_shun 61 = .ok (.iload 4, 2) := by decide +kernel
theorem dX7_shun_63 : decode cX7_shun 63 = .ok (.iadd, 1) := by decide +kernel
theorem dX7_shun_64 : decode cX7_shun 64 = .ok (.aload_n 0, 1) := by decide +kernel
theorem dX7_shun_65 : decode cX7_shun 65 = .ok (.getfield 13, 3) := by decide +kernel
theorem dX7_shun_68 : decode cX7_shun 68 = .ok (.bipush 30, 2) := by decide +kernel
theorem dX7_shun_70 : decode cX7_shun 70 = .ok (.iload 4, 2) := by decide +kernel
theorem dX7_shun_72 : decode cX7_shun 72 = .ok (.iadd, 1) := by decide +kernel
theorem dX7_shun_73 : decode cX7_shun 73 = .ok (.iconst 1, 1) := by decide +kernel
theorem dX7_shun_74 : decode cX7_shun 74 = .ok (.iadd, 1) := by decide +kernel
theorem dX7_shun_75 : decode cX7_shun 75 = .ok (.iaload, 1) := by decide +kernel
theorem dX7_shun_76 : decode cX7_shun 76 = .ok (.iastore, 1) := by decide +kernel
theorem dX7_shun_77 : decode cX7_shun 77 = .ok (.iinc 4 1, 3) := by decide +kernel
theorem dX7_shun_80 : decode cX7_shun 80 = .ok (.goto (-31), 3) := by decide +kernel
theorem dX7_shun_83 : decode cX7_shun 83 = .ok (.aload_n 0, 1) := by decide +kernel
theorem dX7_shun_84 : decode cX7_shun 84 = .ok (.getfield 13, 3) := by decide +kernel
theorem dX7_shun_87 : decode cX7_shun 87 = .ok (.bipush 29, 2) := by decide +kernel
theorem dX7_shun_89 : decode cX7_shun 89 = .ok (.dup2, 1) := by decide +kernel
theorem dX7_shun_90 : decode cX7_shun 90 = .ok (.iaload, 1) := by decide +kernel
theorem dX7_shun_91 : decode cX7_shun 91 = .ok (.iconst 1, 1) := by decide +kernel
theorem dX7_shun_92 : decode cX7_shun 92 = .ok (.isub, 1) := by decide +kernel
theorem dX7_shun_93 : decode cX7_shun 93 = .ok (.iastore, 1) := by decide +kernel
theorem dX7_shun_94 : decode cX7_shun 94 = .ok (.aload_n 0, 1) := by decide +kernel
theorem dX7_shun_95 : decode cX7_shun 95 = .ok (.iload_n 3, 1) := by decide +kernel
theorem dX7_shun_96 : decode cX7_shun 96 = .ok (.aload_n 0, 1) := by decide +kernel
theorem dX7_shun_97 : decode cX7_shun 97 = .ok (.iload_n 1, 1) := by decide +kernel
theorem dX7_shun_98 : decode cX7_shun 98 = .ok (.invokevirtual 236, 3) := by decide +kernel
theorem dX7_shun_101 : decode cX7_shun 101 = .ok (.invokevirtual 261, 3) := by decide +kernel
theorem dX7_shun_104 : decode cX7_shun 104 = .ok (.iinc 3 1, 3) := by decide +kernel
theorem dX7_shun_107 : decode cX7_shun 107 = .ok (.goto (-76), 3) := by decide +kernel
theorem dX7_shun_110 : decode cX7_shun 110 = .ok (.aload_n 0, 1) := by decide +kernel
theorem dX7_shun_111 : decode cX7_shun 111 = .ok (.iload_n 2, 1) := by decide +kernel
theorem dX7_shun_112 : decode cX7_shun 112 = .ok (.invokevirtual 265, 3) := by decide +kernel
theorem dX7_shun_115 : decode cX7_shun 115 = .ok (.ireturn, 1) := by decide +kernel
theorem dX7_need_0 : decode cX7_need 0 = .ok (.aload_n 0, 1) := by decide +kernel
theorem dX7_need_1 : decode cX7_need 1 = .ok (.iload_n 1, 1) := by decide +kernel
theorem dX7_need_2 : decode cX7_need 2 = .ok (.invokevirtual 210, 3) := by decide +kernel
theorem dX7_need_5 : decode cX7_need 5 = .ok (.ifCond .eq 10, 3) := by decide +kernel
theorem dX7_need_8 : decode cX7_need 8 = .ok (.iload_n 2, 1) := by decide +kernel
theorem dX7_need_9 : decode cX7_need 9 = .ok (.invokestatic 244, 3) := by decide +kernel
theorem dX7_need_12 : decode cX7_need 12 = .ok (.ifCond .ne 5, 3) := by decide +kernel
theorem dX7_need_15 : decode cX7_need 15 = .ok (.iconst (-1), 1) := by decide +kernel
theorem dX7_need_16 : decode cX7_need 16 = .ok (.ireturn, 1) := by decide +kernel
theorem dX7_need_17 : decode cX7_need 17 = .ok (.iconst 0, 1) := by decide +kernel
theorem dX7_need_18 : decode cX7_need 18 = .ok (.istore_n 3, 1) := by decide +kernel
theorem dX7_need_19 : decode cX7_need 19 = .ok (.iload_n 3, 1) := by decide +kernel
theorem dX7_need_20 : decode cX7_need 20 = .ok (.bipush 20, 2) := by decide +kernel
theorem dX7_need_22 : decode cX7_need 22 = .ok (.if_icmp .gt 35, 3) := by decide +kernel
theorem dX7_need_25 : decode cX7_need 25 = .ok (.aload_n 0, 1) := by decide +kernel
theorem dX7_need_26 : decode cX7_need 26 = .ok (.invokevirtual 201, 3) := by decide +kernel
theorem dX7_need_29 : decode cX7_need 29 = .ok (.aload_n 0, 1) := by decide +kernel
theorem dX7_need_30 : decode cX7_need 30 = .ok (.iload_n 1, 1) := by decide +kernel
theorem dX7_need_31 : decode cX7_need 31 = .ok (.iconst 2, 1) := by decide +kernel
theorem dX7_need_32 : decode cX7_need 32 = .ok (.iload_n 3, 1) := by decide +kernel
theorem dX7_need_33 : decode cX7_need 33 = .ok (.invokevirtual 169, 3) := by decide +kernel
theorem dX7_need_36 : decode cX7_need 36 = .ok (.aload_n 0, 1) := by decide +kernel
theorem dX7_need_37 : decode cX7_need 37 = .ok (.iload_n 2, 1) := by decide +kernel
theorem dX7_need_38 : decode cX7_need 38 = .ok (.invokevirtual 188, 3) := by decide +kernel
theorem dX7_need_41 : decode cX7_need 41 = .ok (.aload_n 0, 1) := by decide +kernel
theorem dX7_need_42 : decode cX7_need 42 = .ok (.iload_n 1, 1) := by decide +kernel
theorem dX7_need_43 : decode cX7_need 43 = .ok (.invokevirtual 157, 3) := by decide +kernel
theorem dX7_need_46 : decode cX7_need 46 = .ok (.ifCond .eq 5, 3) := by decide +kernel
theorem dX7_need_49 : decode cX7_need 49 = .ok (.iload_n 3, 1) := by decide +kernel
theorem dX7_need_50 : decode cX7_need 50 = .ok (.ireturn, 1) := by decide +kernel
theorem dX7_need_51 : decode cX7_need 51 = .ok (.iinc 3 1, 3) := by decide +kernel
theorem dX7_need_54 : decode cX7_need 54 = .ok (.goto (-35), 3) := by decide +kernel
theorem dX7_need_57 : decode cX7_need 57 = .ok (.bipush (-4), 2) := by decide +kernel
theorem dX7_need_59 : decode cX7_need 59 = .ok (.ireturn, 1) := by decide +kernel
theorem dX7_kind_0 : decode cX7_kind 0 = .ok (.aload_n 0, 1) := by decide +kernel
theorem dX7_kind_1 : decode cX7_kind 1 = .ok (.iload_n 1, 1) := by decide +kernel
theorem dX7_kind_2 : decode cX7_kind 2 = .ok (.invokevirtual 210, 3) := by decide +kernel
theorem dX7_kind_5 : decode cX7_kind 5 = .ok (.ifCond .eq 17, 3) := by decide +kernel
theorem dX7_kind_8 : decode cX7_kind 8 = .ok (.iload_n 2, 1) := by decide +kernel
theorem dX7_kind_9 : decode cX7_kind 9 = .ok (.invokestatic 244, 3) := by decide +kernel
theorem dX7_kind_12 : decode cX7_kind 12 = .ok (.ifCond .eq 10, 3) := by decide +kernel
theorem dX7_kind_15 : decode cX7_kind 15 = .ok (.iload_n 3, 1) := by decide +kernel
theorem dX7_kind_16 : decode cX7_kind 16 = .ok (.invokestatic 216, 3) := by decide +kernel
theorem dX7_kind_19 : decode cX7_kind 19 = .ok (.ifCond .ne 5, 3) := by decide +kernel
theorem dX7_kind_22 : decode cX7_kind 22 = .ok (.iconst (-1), 1) := by decide +kernel
theorem dX7_kind_23 : decode cX7_kind 23 = .ok (.ireturn, 1) := by decide +kernel
theorem dX7_kind_24 : decode cX7_kind 24 = .ok (.aload_n 0, 1) := by decide +kernel
theorem dX7_kind_25 : decode cX7_kind 25 = .ok (.iconst (-1), 1) := by decide +kernel
theorem dX7_kind_26 : decode cX7_kind 26 = .ok (.invokevirtual 255, 3) := by decide +kernel
theorem dX7_kind_29 : decode cX7_kind 29 = .ok (.iconst 0, 1) := by decide +kernel
theorem dX7_kind_30 : decode cX7_kind 30 = .ok (.istore 4, 2) := by decide +kernel
theorem dX7_kind_32 : decode cX7_kind 32 = .ok (.iload 4, 2) := by decide +kernel
theorem dX7_kind_34 : decode cX7_kind 34 = .ok (.iconst 4, 1) := by decide +kernel
theorem dX7_kind_35 : decode cX7_kind 35 = .ok (.if_icmp .ge 32, 3) := by decide +kernel
theorem dX7_kind_38 : decode cX7_kind 38 = .ok (.aload_n 0, 1) := by decide +kernel
theorem dX7_kind_39 : decode cX7_kind 39 = .ok (.invokevirtual 201, 3) := by decide +kernel
theorem dX7_kind_42 : decode cX7_kind 42 = .ok (.aload_n 0, 1) := by decide +kernel
theorem dX7_kind_43 : decode cX7_kind 43 = .ok (.iload_n 1, 1) := by decide +kernel
theorem dX7_kind_44 : decode cX7_kind 44 = .ok (.iconst 0, 1) := by decide +kernel
theorem dX7_kind_45 : decode cX7_kind 45 = .ok (.iload 4, 2) := by decide +kernel
theorem dX7_kind_47 : decode cX7_kind 47 = .ok (.invokevirtual 169, 3) := by decide +kernel
theorem dX7_kind_50 : decode cX7_kind 50 = .ok (.aload_n 0, 1) := by decide +kernel
theorem dX7_kind_51 : decode cX7_kind 51 = .ok (.iload 4, 2) := by decide +kernel
theorem dX7_kind_53 : decode cX7_kind 53 = .ok (.aload_n 0, 1) := by decide +kernel
theorem dX7_kind_54 : decode cX7_kind 54 = .ok (.iload_n 2, 1) := by decide +kernel
theorem dX7_kind_55 : decode cX7_kind 55 = .ok (.invokevirtual 236, 3) := by decide +kernel
theorem dX7_kind_58 : decode cX7_kind 58 = .ok (.invokevirtual 261, 3) := by decide +kernel
theorem dX7_kind_61 : decode cX7_kind 61 = .ok (.iinc 4 1, 3) := by decide +kernel
theorem dX7_kind_64 : decode cX7_kind 64 = .ok (.goto (-32), 3) := by decide +kernel
theorem dX7_kind_67 : decode cX7_kind 67 = .ok (.aload_n 0, 1) := by decide +kernel
theorem dX7_kind_68 : decode cX7_kind 68 = .ok (.iload_n 3, 1) := by decide +kernel
theorem dX7_kind_69 : decode cX7_kind 69 = .ok (.invokevirtual 265, 3) := by decide +kernel
theorem dX7_kind_72 : decode cX7_kind 72 = .ok (.ireturn, 1) := by decide +kernel
theorem dX7_drop_0 : decode cX7_drop 0 = .ok (.aload_n 0, 1) := by decide +kernel
theorem dX7_drop_1 : decode cX7_drop 1 = .ok (.iload_n 1, 1) := by decide +kernel
theorem dX7_drop_2 : decode cX7_drop 2 = .ok (.invokevirtual 210, 3) := by decide +kernel
theorem dX7_drop_5 : decode cX7_drop 5 = .ok (.ifCond .eq 17, 3) := by decide +kernel
theorem dX7_drop_8 : decode cX7_drop 8 = .ok (.iload_n 2, 1) := by decide +kernel
theorem dX7_drop_9 : decode cX7_drop 9 = .ok (.invokestatic 244, 3) := by decide +kernel
theorem dX7_drop_12 : decode cX7_drop 12 = .ok (.ifCond .eq 10, 3) := by decide +kernel
theorem dX7_drop_15 : decode cX7_drop 15 = .ok (.iload_n 3, 1) := by decide +kernel
theorem dX7_drop_16 : decode cX7_drop 16 = .ok (.invokestatic 216, 3) := by decide +kernel
theorem dX7_drop_19 : decode cX7_drop 19 = .ok (.ifCond .ne 5, 3) := by decide +kernel
theorem dX7_drop_22 : decode cX7_drop 22 = .ok (.iconst (-1), 1) := by decide +kernel
theorem dX7_drop_23 : decode cX7_drop 23 = .ok (.ireturn, 1) := by decide +kernel
theorem dX7_drop_24 : decode cX7_drop 24 = .ok (.aload_n 0, 1) := by decide +kernel
theorem dX7_drop_25 : decode cX7_drop 25 = .ok (.iload_n 1, 1) := by decide +kernel
theorem dX7_drop_26 : decode cX7_drop 26 = .ok (.invokevirtual 226, 3) := by decide +kernel
theorem dX7_drop_29 : decode cX7_drop 29 = .ok (.ifCond .eq 6, 3) := by decide +kernel
theorem dX7_drop_32 : decode cX7_drop 32 = .ok (.bipush (-2), 2) := by decide +kernel
theorem dX7_drop_34 : decode cX7_drop 34 = .ok (.ireturn, 1) := by decide +kernel
theorem dX7_drop_35 : decode cX7_drop 35 = .ok (.aload_n 0, 1) := by decide +kernel
theorem dX7_drop_36 : decode cX7_drop 36 = .ok (.iconst (-1), 1) := by decide +kernel
theorem dX7_drop_37 : decode cX7_drop 37 = .ok (.invokevirtual 255, 3) := by decide +kernel
theorem dX7_drop_40 : decode cX7_drop 40 = .ok (.iconst 0, 1) := by decide +kernel
theorem dX7_drop_41 : decode cX7_drop 41 = .ok (.istore 4, 2) := by decide +kernel
theorem dX7_drop_43 : decode cX7_drop 43 = .ok (.iload 4, 2) := by decide +kernel
theorem dX7_drop_45 : decode cX7_drop 45 = .ok (.bipush 12, 2) := by decide +kernel
theorem dX7_drop_47 : decode cX7_drop 47 = .ok (.if_icmp .ge 32, 3) := by decide +kernel
theorem dX7_drop_50 : decode cX7_drop 50 = .ok (.aload_n 0, 1) := by decide +kernel
theorem dX7_drop_51 : decode cX7_drop 51 = .ok (.invokevirtual 201, 3) := by decide +kernel
theorem dX7_drop_54 : decode cX7_drop 54 = .ok (.aload_n 0, 1) := by decide +kernel
theorem dX7_drop_55 : decode cX7_drop 55 = .ok (.iload_n 1, 1) := by decide +kernel
theorem dX7_drop_56 : decode cX7_drop 56 = .ok (.iconst 1, 1) := by decide +kernel
theorem dX7_drop_57 : decode cX7_drop 57 = .ok (.iload 4, 2) := by decide +kernel
theorem dX7_drop_59 : decode cX7_drop 59 = .ok (.invokevirtual 169, 3) := by decide +kernel
theorem dX7_drop_62 : decode cX7_drop 62 = .ok (.aload_n 0, 1) := by decide +kernel
theorem dX7_drop_63 : decode cX7_drop 63 = .ok (.iload 4, 2) := by decide +kernel
theorem dX7_drop_65 : decode cX7_drop 65 = .ok (.aload_n 0, 1) := by decide +kernel
theorem dX7_drop_66 : decode cX7_drop 66 = .ok (.iload_n 2, 1) := by decide +kernel
theorem dX7_drop_67 : decode cX7_drop 67 = .ok (.invokevirtual 236, 3) := by decide +kernel
theorem dX7_drop_70 : decode cX7_drop 70 = .ok (.invokevirtual 261, 3) := by decide +kernel
theorem dX7_drop_73 : decode cX7_drop 73 = .ok (.iinc 4 1, 3) := by decide +kernel
theorem dX7_drop_76 : decode cX7_drop 76 = .ok (.goto (-33), 3) := by decide +kernel
theorem dX7_drop_79 : decode cX7_drop 79 = .ok (.aload_n 0, 1) := by decide +kernel
theorem dX7_drop_80 : decode cX7_drop 80 = .ok (.iload_n 3, 1) := by decide +kernel
theorem dX7_drop_81 : decode cX7_drop 81 = .ok (.invokevirtual 265, 3) := by decide +kernel
theorem dX7_drop_84 : decode cX7_drop 84 = .ok (.ireturn, 1) := by decide +kernel
theorem dX7_common_0 : decode cX7_common 0 = .ok (.lload_n 0, 1) := by decide +kernel
theorem dX7_common_1 : decode cX7_common 1 = .ok (.lstore 4, 2) := by decide +kernel
theorem dX7_common_3 : decode cX7_common 3 = .ok (.lload_n 2, 1) := by decide +kernel
theorem dX7_common_4 : decode cX7_common 4 = .ok (.lstore 6, 2) := by decide +kernel
theorem dX7_common_6 : decode cX7_common 6 = .ok (.lload 6, 2) := by decide +kernel
theorem dX7_common_8 : decode cX7_common 8 = .ok (.lconst 0, 1) := by decide +kernel
theorem dX7_common_9 : decode cX7_common 9 = .ok (.lcmp, 1) := by decide +kernel
theorem dX7_common_10 : decode cX7_common 10 = .ok (.ifCond .eq 21, 3) := by decide +kernel
theorem dX7_common_13 : decode cX7_common 13 = .ok (.lload 4, 2) := by decide +kernel
theorem dX7_common_15 : decode cX7_common 15 = .ok (.lload 6, 2) := by decide +kernel
theorem dX7_common_17 : decode cX7_common 17 = .ok (.lrem, 1) := by decide +kernel
theorem dX7_common_18 : decode cX7_common 18 = .ok (.lstore 8, 2) := by decide +kernel
theorem dX7_common_20 : decode cX7_common 20 = .ok (.lload 6, 2) := by decide +kernel
theorem dX7_common_22 : decode cX7_common 22 = .ok (.lstore 4, 2) := by decide +kernel
theorem dX7_common_24 : decode cX7_common 24 = .ok (.lload 8, 2) := by decide +kernel
theorem dX7_common_26 : decode cX7_common 26 = .ok (.lstore 6, 2) := by decide +kernel
theorem dX7_common_28 : decode cX7_common 28 = .ok (.goto (-22), 3) := by decide +kernel
theorem dX7_common_31 : decode cX7_common 31 = .ok (.lload 4, 2) := by decide +kernel
theorem dX7_common_33 : decode cX7_common 33 = .ok (.lreturn, 1) := by decide +kernel
theorem dX7_told_0 : decode cX7_told 0 = .ok (.lload_n 2, 1) := by decide +kernel
theorem dX7_told_1 : decode cX7_told 1 = .ok (.lload_n 0, 1) := by decide +kernel
theorem dX7_told_2 : decode cX7_told 2 = .ok (.invokestatic 268, 3) := by decide +kernel
theorem dX7_told_5 : decode cX7_told 5 = .ok (.lstore 5, 2) := by decide +kernel
theorem dX7_told_7 : decode cX7_told 7 = .ok (.iload 4, 2) := by decide +kernel
theorem dX7_told_9 : decode cX7_told 9 = .ok (.ifCond .ne 10, 3) := by decide +kernel
theorem dX7_told_12 : decode cX7_told 12 = .ok (.lload_n 0, 1) := by decide +kernel
theorem dX7_told_13 : decode cX7_told 13 = .ok (.lload 5, 2) := by decide +kernel
theorem dX7_told_15 : decode cX7_told 15 = .ok (.ldiv, 1) := by decide +kernel
theorem dX7_told_16 : decode cX7_told 16 = .ok (.goto 7, 3) := by decide +kernel
theorem dX7_told_19 : decode cX7_told 19 = .ok (.lload_n 2, 1) := by decide +kernel
theorem dX7_told_20 : decode cX7_told 20 = .ok (.lload 5, 2) := by decide +kernel
theorem dX7_told_22 : decode cX7_told 22 = .ok (.ldiv, 1) := by decide +kernel
theorem dX7_told_23 : decode cX7_told 23 = .ok (.lreturn, 1) := by decide +kernel
theorem dX7_findOdds_0 : decode cX7_findOdds 0 = .ok (.aload_n 0, 1) := by decide +kernel
theorem dX7_findOdds_1 : decode cX7_findOdds 1 = .ok (.lconst 0, 1) := by decide +kernel
theorem dX7_findOdds_2 : decode cX7_findOdds 2 = .ok (.putfield 272, 3) := by decide +kernel
theorem dX7_findOdds_5 : decode cX7_findOdds 5 = .ok (.aload_n 0, 1) := by decide +kernel
theorem dX7_findOdds_6 : decode cX7_findOdds 6 = .ok (.lconst 0, 1) := by decide +kernel
theorem dX7_findOdds_7 : decode cX7_findOdds 7 = .ok (.putfield 276, 3) := by decide +kernel
theorem dX7_findOdds_10 : decode cX7_findOdds 10 = .ok (.aload_n 0, 1) := by decide +kernel
theorem dX7_findOdds_11 : decode cX7_findOdds 11 = .ok (.lconst 1, 1) := by decide +kernel
theorem dX7_findOdds_12 : decode cX7_findOdds 12 = .ok (.putfield 279, 3) := by decide +kernel
theorem dX7_findOdds_15 : decode cX7_findOdds 15 = .ok (.iconst 0, 1) := by decide +kernel
theorem dX7_findOdds_16 : decode cX7_findOdds 16 = .ok (.istore 4, 2) := by decide +kernel
theorem dX7_findOdds_18 : decode cX7_findOdds 18 = .ok (.iload 4, 2) := by decide +kernel
theorem dX7_findOdds_20 : decode cX7_findOdds 20 = .ok (.iload_n 3, 1) := by decide +kernel
theorem dX7_findOdds_21 : decode cX7_findOdds 21 = .ok (.if_icmp .ge 21, 3) := by decide +kernel
theorem dX7_findOdds_24 : decode cX7_findOdds 24 = .ok (.aload_n 0, 1) := by decide +kernel
theorem dX7_findOdds_25 : decode cX7_findOdds 25 = .ok (.dup, 1) := by decide +kernel
theorem dX7_findOdds_26 : decode cX7_findOdds 26 = .ok (.getfield 279, 3) := by decide +kernel
theorem dX7_findOdds_29 : decode cX7_findOdds 29 = .ok (.ldc2_w 282, 3) := by decide +kernel
theorem dX7_findOdds_32 : decode cX7_findOdds 32 = .ok (.lmul, 1) := by decide +kernel
theorem dX7_findOdds_33 : decode cX7_findOdds 33 = .ok (.putfield 279, 3) := by decide +kernel
theorem dX7_findOdds_36 : decode cX7_findOdds 36 = .ok (.iinc 4 1, 3) := by decide +kernel
theorem dX7_findOdds_39 : decode cX7_findOdds 39 = .ok (.goto (-21), 3) := by decide +kernel
theorem dX7_findOdds_42 : decode cX7_findOdds 42 = .ok (.iconst 0, 1) := by decide +kernel
theorem dX7_findOdds_43 : decode cX7_findOdds 43 = .ok (.istore 4, 2) := by decide +kernel
theorem dX7_findOdds_45 : decode cX7_findOdds 45 = .ok (.iload 4, 2) := by decide +kernel
theorem dX7_findOdds_47 : decode cX7_findOdds 47 = .ok (.iconst 1, 1) := by decide +kernel
theorem dX7_findOdds_48 : decode cX7_findOdds 48 = .ok (.iload_n 3, 1) := by decide +kernel
theorem dX7_findOdds_49 : decode cX7_findOdds 49 = .ok (.ishl, 1) := by decide +kernel
theorem dX7_findOdds_50 : decode cX7_findOdds 50 = .ok (.if_icmp .ge 138, 3) := by decide +kernel
theorem dX7_findOdds_53 : decode cX7_findOdds 53 = .ok (.lconst 1, 1) := by decide +kernel
theorem dX7_findOdds_54 : decode cX7_findOdds 54 = .ok (.lstore 5, 2) := by decide +kernel
theorem dX7_findOdds_56 : decode cX7_findOdds 56 = .ok (.aload_n 0, 1) := by decide +kernel
theorem dX7_findOdds_57 : decode cX7_findOdds 57 = .ok (.invokevirtual 201, 3) := by decide +kernel
theorem dX7_findOdds_60 : decode cX7_findOdds 60 = .ok (.iconst 0, 1) := by decide +kernel
theorem dX7_findOdds_61 : decode cX7_findOdds 61 = .ok (.istore 7, 2) := by decide +kernel
theorem dX7_findOdds_63 : decode cX7_findOdds 63 = .ok (.iload 7, 2) := by decide +kernel
theorem dX7_findOdds_65 : decode cX7_findOdds 65 = .ok (.iload_n 3, 1) := by decide +kernel
theorem dX7_findOdds_66 : decode cX7_findOdds 66 = .ok (.if_icmp .ge 70, 3) := by decide +kernel
theorem dX7_findOdds_69 : decode cX7_findOdds 69 = .ok (.iload 4, 2) := by decide +kernel
theorem dX7_findOdds_71 : decode cX7_findOdds 71 = .ok (.iload 7, 2) := by decide +kernel
theorem dX7_findOdds_73 : decode cX7_findOdds 73 = .ok (.ishr, 1) := by decide +kernel
theorem dX7_findOdds_74 : decode cX7_findOdds 74 = .ok (.iconst 1, 1) := by decide +kernel
theorem dX7_findOdds_75 : decode cX7_findOdds 75 = .ok (.iand, 1) := by decide +kernel
theorem dX7_findOdds_76 : decode cX7_findOdds 76 = .ok (.iconst 1, 1) := by decide +kernel
theorem dX7_findOdds_77 : decode cX7_findOdds 77 = .ok (.if_icmp .ne 7, 3) := by decide +kernel
theorem dX7_findOdds_80 : decode cX7_findOdds 80 = .ok (.iconst 1, 1) := by decide +kernel
theorem dX7_findOdds_81 : decode cX7_findOdds 81 = .ok (.goto 4, 3) := by decide +kernel
theorem dX7_findOdds_84 : decode cX7_findOdds 84 = .ok (.iconst 0, 1) := by decide +kernel
theorem dX7_findOdds_85 : decode cX7_findOdds 85 = .ok (.istore 8, 2) := by decide +kernel
theorem dX7_findOdds_87 : decode cX7_findOdds 87 = .ok (.lload 5, 2) := by decide +kernel
theorem dX7_findOdds_89 : decode cX7_findOdds 89 = .ok (.iload 8, 2) := by decide +kernel
theorem dX7_findOdds_91 : decode cX7_findOdds 91 = .ok (.ifCond .eq 8, 3) := by decide +kernel
theorem dX7_findOdds_94 : decode cX7_findOdds 94 = .ok (.iload_n 1, 1) := by decide +kernel
theorem dX7_findOdds_95 : decode cX7_findOdds 95 = .ok (.i2l, 1) := by decide +kernel
theorem dX7_findOdds_96 : decode cX7_findOdds 96 = .ok (.goto 8, 3) := by decide +kernel
theorem dX7_findOdds_99 : decode cX7_findOdds 99 = .ok (.bipush 10, 2) := by decide +kernel
theorem dX7_findOdds_101 : decode cX7_findOdds 101 = .ok (.iload_n 1, 1) := by decide +kernel
theorem dX7_findOdds_102 : decode cX7_findOdds 102 = .ok (.isub, 1) := by decide +kernel
theorem dX7_findOdds_103 : decode cX7_findOdds 103 = .ok (.i2l, 1) := by decide +kernel
theorem dX7_findOdds_104 : decode cX7_findOdds 104 = .ok (.lmul, 1) := by decide +kernel
theorem dX7_findOdds_105 : decode cX7_findOdds 105 = .ok (.lstore 5, 2) := by decide +kernel
theorem dX7_findOdds_107 : decode cX7_findOdds 107 = .ok (.aload_n 0, 1) := by decide +kernel
theorem dX7_findOdds_108 : decode cX7_findOdds 108 = .ok (.iload 8, 2) := by decide +kernel
theorem dX7_findOdds_110 : decode cX7_findOdds 110 = .ok (.ifCond .eq 13, 3) := by decide +kernel
theorem dX7_findOdds_113 : decode cX7_findOdds 113 = .ok (.aload_n 0, 1) := by decide +kernel
theorem dX7_findOdds_114 : decode cX7_findOdds 114 = .ok (.getfield 13, 3) := by decide +kernel
theorem dX7_findOdds_117 : decode cX7_findOdds 117 = .ok (.bipush 28, 2) := by decide +kernel
theorem dX7_findOdds_119 : decode cX7_findOdds 119 = .ok (.iaload, 1) := by decide +kernel
theorem dX7_findOdds_120 : decode cX7_findOdds 120 = .ok (.goto 7, 3) := by decide +kernel
theorem dX7_findOdds_123 : decode cX7_findOdds 123 = .ok (.aload_n 0, 1) := by decide +kernel
theorem dX7_findOdds_124 : decode cX7_findOdds 124 = .ok (.invokevirtual 182, 3) := by decide +kernel
theorem dX7_findOdds_127 : decode cX7_findOdds 127 = .ok (.invokevirtual 185, 3) := by decide +kernel
theorem dX7_findOdds_130 : decode cX7_findOdds 130 = .ok (.iinc 7 1, 3) := by decide +kernel
theorem dX7_findOdds_133 : decode cX7_findOdds 133 = .ok (.goto (-70), 3) := by decide +kernel
theorem dX7_findOdds_136 : decode cX7_findOdds 136 = .ok (.aload_n 0, 1) := by decide +kernel
theorem dX7_findOdds_137 : decode cX7_findOdds 137 = .ok (.dup, 1) := by decide +kernel
theorem dX7_findOdds_138 : decode cX7_findOdds 138 = .ok (.getfield 272, 3) := by decide +kernel
theorem dX7_findOdds_141 : decode cX7_findOdds 141 = .ok (.iload_n 2, 1) := by decide +kernel
theorem dX7_findOdds_142 : decode cX7_findOdds 142 = .ok (.bipush (-4), 2) := by decide +kernel
theorem dX7_findOdds_144 : decode cX7_findOdds 144 = .ok (.if_icmp .eq 16, 3) := by decide +kernel
theorem dX7_findOdds_147 : decode cX7_findOdds 147 = .ok (.aload_n 0, 1) := by decide +kernel
theorem dX7_findOdds_148 : decode cX7_findOdds 148 = .ok (.iload_n 2, 1) := by decide +kernel
theorem dX7_findOdds_149 : decode cX7_findOdds 149 = .ok (.invokevirtual 157, 3) := by decide +kernel
theorem dX7_findOdds_152 : decode cX7_findOdds 152 = .ok (.ifCond .eq 8, 3) := by decide +kernel
theorem dX7_findOdds_155 : decode cX7_findOdds 155 = .ok (.lload 5, 2) := by decide +kernel
theorem dX7_findOdds_157 : decode cX7_findOdds 157 = .ok (.goto 4, 3) := by decide +kernel
theorem dX7_findOdds_160 : decode cX7_findOdds 160 = .ok (.lconst 0, 1) := by decide +kernel
theorem dX7_findOdds_161 : decode cX7_findOdds 161 = .ok (.ladd, 1) := by decide +kernel
theorem dX7_findOdds_162 : decode cX7_findOdds 162 = .ok (.putfield 272, 3) := by decide +kernel
theorem dX7_findOdds_165 : decode cX7_findOdds 165 = .ok (.aload_n 0, 1) := by decide +kernel
theorem dX7_findOdds_166 : decode cX7_findOdds 166 = .ok (.dup, 1) := by decide +kernel
theorem dX7_findOdds_167 : decode cX7_findOdds 167 = .ok (.getfield 276, 3) := by decide +kernel
theorem dX7_findOdds_170 : decode cX7_findOdds 170 = .ok (.lload 5, 2) := by decide +kernel
theorem dX7_findOdds_172 : decode cX7_findOdds 172 = .ok (.aload_n 0, 1) := by decide +kernel
theorem dX7_findOdds_173 : decode cX7_findOdds 173 = .ok (.invokevirtual 191, 3) := by decide +kernel
theorem dX7_findOdds_176 : decode cX7_findOdds 176 = .ok (.i2l, 1) := by decide +kernel
theorem dX7_findOdds_177 : decode cX7_findOdds 177 = .ok (.lmul, 1) := by decide +kernel
theorem dX7_findOdds_178 : decode cX7_findOdds 178 = .ok (.ladd, 1) := by decide +kernel
theorem dX7_findOdds_179 : decode cX7_findOdds 179 = .ok (.putfield 276, 3) := by decide +kernel
theorem dX7_findOdds_182 : decode cX7_findOdds 182 = .ok (.iinc 4 1, 3) := by decide +kernel
theorem dX7_findOdds_185 : decode cX7_findOdds 185 = .ok (.goto (-140), 3) := by decide +kernel
theorem dX7_findOdds_188 : decode cX7_findOdds 188 = .ok (.return_, 1) := by decide +kernel
theorem dX7_luck_0 : decode cX7_luck 0 = .ok (.iload_n 1, 1) := by decide +kernel
theorem dX7_luck_1 : decode cX7_luck 1 = .ok (.i2l, 1) := by decide +kernel
theorem dX7_luck_2 : decode cX7_luck 2 = .ok (.lconst 0, 1) := by decide +kernel
theorem dX7_luck_3 : decode cX7_luck 3 = .ok (.ldc2_w 282, 3) := by decide +kernel
theorem dX7_luck_6 : decode cX7_luck 6 = .ok (.invokestatic 72, 3) := by decide +kernel
theorem dX7_luck_9 : decode cX7_luck 9 = .ok (.ifCond .eq 31, 3) := by decide +kernel
theorem dX7_luck_12 : decode cX7_luck 12 = .ok (.aload_n 0, 1) := by decide +kernel
theorem dX7_luck_13 : decode cX7_luck 13 = .ok (.iload_n 2, 1) := by decide +kernel
theorem dX7_luck_14 : decode cX7_luck 14 = .ok (.invokevirtual 210, 3) := by decide +kernel
theorem dX7_luck_17 : decode cX7_luck 17 = .ok (.ifCond .eq 23, 3) := by decide +kernel
theorem dX7_luck_20 : decode cX7_luck 20 = .ok (.iload_n 3, 1) := by decide +kernel
theorem dX7_luck_21 : decode cX7_luck 21 = .ok (.i2l, 1) := by decide +kernel
theorem dX7_luck_22 : decode cX7_luck 22 = .ok (.lconst 0, 1) := by decide +kernel
theorem dX7_luck_23 : decode cX7_luck 23 = .ok (.ldc2_w 284, 3) := by decide +kernel
theorem dX7_luck_26 : decode cX7_luck 26 = .ok (.invokestatic 72, 3) := by decide +kernel
theorem dX7_luck_29 : decode cX7_luck 29 = .ok (.ifCond .eq 11, 3) := by decide +kernel
theorem dX7_luck_32 : decode cX7_luck 32 = .ok (.iload 4, 2) := by decide +kernel
theorem dX7_luck_34 : decode cX7_luck 34 = .ok (.invokestatic 216, 3) := by decide +kernel
theorem dX7_luck_37 : decode cX7_luck 37 = .ok (.ifCond .ne 7, 3) := by decide +kernel
theorem dX7_luck_40 : decode cX7_luck 40 = .ok (.ldc2_w 286, 3) := by decide +kernel
theorem dX7_luck_43 : decode cX7_luck 43 = .ok (.lreturn, 1) := by decide +kernel
theorem dX7_luck_44 : decode cX7_luck 44 = .ok (.aload_n 0, 1) := by decide +kernel
theorem dX7_luck_45 : decode cX7_luck 45 = .ok (.iload_n 1, 1) := by decide +kernel
theorem dX7_luck_46 : decode cX7_luck 46 = .ok (.iload_n 2, 1) := by decide +kernel
theorem dX7_luck_47 : decode cX7_luck 47 = .ok (.iload_n 3, 1) := by decide +kernel
theorem dX7_luck_48 : decode cX7_luck 48 = .ok (.invokevirtual 288, 3) := by decide +kernel
theorem dX7_luck_51 : decode cX7_luck 51 = .ok (.aload_n 0, 1) := by decide +kernel
theorem dX7_luck_52 : decode cX7_luck 52 = .ok (.getfield 272, 3) := by decide +kernel
theorem dX7_luck_55 : decode cX7_luck 55 = .ok (.aload_n 0, 1) := by decide +kernel
theorem dX7_luck_56 : decode cX7_luck 56 = .ok (.getfield 279, 3) := by decide +kernel
theorem dX7_luck_59 : decode cX7_luck 59 = .ok (.iload 4, 2) := by decide +kernel
theorem dX7_luck_61 : decode cX7_luck 61 = .ok (.invokestatic 291, 3) := by decide +kernel
theorem dX7_luck_64 : decode cX7_luck 64 = .ok (.lreturn, 1) := by decide +kernel
theorem dX7_mean_0 : decode cX7_mean 0 = .ok (.iload_n 1, 1) := by decide +kernel
theorem dX7_mean_1 : decode cX7_mean 1 = .ok (.i2l, 1) := by decide +kernel
theorem dX7_mean_2 : decode cX7_mean 2 = .ok (.lconst 0, 1) := by decide +kernel
theorem dX7_mean_3 : decode cX7_mean 3 = .ok (.ldc2_w 282, 3) := by decide +kernel
theorem dX7_mean_6 : decode cX7_mean 6 = .ok (.invokestatic 72, 3) := by decide +kernel
theorem dX7_mean_9 : decode cX7_mean 9 = .ok (.ifCond .eq 22, 3) := by decide +kernel
theorem dX7_mean_12 : decode cX7_mean 12 = .ok (.iload_n 2, 1) := by decide +kernel
theorem dX7_mean_13 : decode cX7_mean 13 = .ok (.i2l, 1) := by decide +kernel
theorem dX7_mean_14 : decode cX7_mean 14 = .ok (.lconst 0, 1) := by decide +kernel
theorem dX7_mean_15 : decode cX7_mean 15 = .ok (.ldc2_w 284, 3) := by decide +kernel
theorem dX7_mean_18 : decode cX7_mean 18 = .ok (.invokestatic 72, 3) := by decide +kernel
theorem dX7_mean_21 : decode cX7_mean 21 = .ok (.ifCond .eq 10, 3) := by decide +kernel
theorem dX7_mean_24 : decode cX7_mean 24 = .ok (.iload_n 3, 1) := by decide +kernel
theorem dX7_mean_25 : decode cX7_mean 25 = .ok (.invokestatic 216, 3) := by decide +kernel
theorem dX7_mean_28 : decode cX7_mean 28 = .ok (.ifCond .ne 7, 3) := by decide +kernel
theorem dX7_mean_31 : decode cX7_mean 31 = .ok (.ldc2_w 286, 3) := by decide +kernel
theorem dX7_mean_34 : decode cX7_mean 34 = .ok (.lreturn, 1) := by decide +kernel
theorem dX7_mean_35 : decode cX7_mean 35 = .ok (.aload_n 0, 1) := by decide +kernel
theorem dX7_mean_36 : decode cX7_mean 36 = .ok (.iload_n 1, 1) := by decide +kernel
theorem dX7_mean_37 : decode cX7_mean 37 = .ok (.bipush (-4), 2) := by decide +kernel
theorem dX7_mean_39 : decode cX7_mean 39 = .ok (.iload_n 2, 1) := by decide +kernel
theorem dX7_mean_40 : decode cX7_mean 40 = .ok (.invokevirtual 288, 3) := by decide +kernel
theorem dX7_mean_43 : decode cX7_mean 43 = .ok (.aload_n 0, 1) := by decide +kernel
theorem dX7_mean_44 : decode cX7_mean 44 = .ok (.getfield 276, 3) := by decide +kernel
theorem dX7_mean_47 : decode cX7_mean 47 = .ok (.aload_n 0, 1) := by decide +kernel
theorem dX7_mean_48 : decode cX7_mean 48 = .ok (.getfield 279, 3) := by decide +kernel
theorem dX7_mean_51 : decode cX7_mean 51 = .ok (.iload_n 3, 1) := by decide +kernel
theorem dX7_mean_52 : decode cX7_mean 52 = .ok (.invokestatic 291, 3) := by decide +kernel
theorem dX7_mean_55 : decode cX7_mean 55 = .ok (.lreturn, 1) := by decide +kernel
theorem dX7_see_0 : decode cX7_see 0 = .ok (.iload_n 1, 1) := by decide +kernel
theorem dX7_see_1 : decode cX7_see 1 = .ok (.i2l, 1) := by decide +kernel
theorem dX7_see_2 : decode cX7_see 2 = .ok (.lconst 0, 1) := by decide +kernel
theorem dX7_see_3 : decode cX7_see 3 = .ok (.ldc2_w 224, 3) := by decide +kernel
theorem dX7_see_6 : decode cX7_see 6 = .ok (.invokestatic 72, 3) := by decide +kernel
theorem dX7_see_9 : decode cX7_see 9 = .ok (.ifCond .eq 18, 3) := by decide +kernel
theorem dX7_see_12 : decode cX7_see 12 = .ok (.aload_n 0, 1) := by decide +kernel
theorem dX7_see_13 : decode cX7_see 13 = .ok (.iload_n 2, 1) := by decide +kernel
theorem dX7_see_14 : decode cX7_see 14 = .ok (.invokevirtual 210, 3) := by decide +kernel
theorem dX7_see_17 : decode cX7_see 17 = .ok (.ifCond .eq 10, 3) := by decide +kernel
theorem dX7_see_20 : decode cX7_see 20 = .ok (.iload_n 3, 1) := by decide +kernel
theorem dX7_see_21 : decode cX7_see 21 = .ok (.invokestatic 213, 3) := by decide +kernel
theorem dX7_see_24 : decode cX7_see 24 = .ok (.ifCond .ne 5, 3) := by decide +kernel
theorem dX7_see_27 : decode cX7_see 27 = .ok (.iconst (-1), 1) := by decide +kernel
theorem dX7_see_28 : decode cX7_see 28 = .ok (.ireturn, 1) := by decide +kernel
theorem dX7_see_29 : decode cX7_see 29 = .ok (.aload_n 0, 1) := by decide +kernel
theorem dX7_see_30 : decode cX7_see 30 = .ok (.getfield 7, 3) := by decide +kernel
theorem dX7_see_33 : decode cX7_see 33 = .ok (.bipush 38, 2) := by decide +kernel
theorem dX7_see_35 : decode cX7_see 35 = .ok (.iaload, 1) := by decide +kernel
theorem dX7_see_36 : decode cX7_see 36 = .ok (.bipush 6, 2) := by decide +kernel
theorem dX7_see_38 : decode cX7_see 38 = .ok (.if_icmp .ne 6, 3) := by decide +kernel
theorem dX7_see_41 : decode cX7_see 41 = .ok (.bipush (-3), 2) := by decide +kernel
theorem dX7_see_43 : decode cX7_see 43 = .ok (.ireturn, 1) := by decide +kernel
theorem dX7_see_44 : decode cX7_see 44 = .ok (.bipush 39, 2) := by decide +kernel
theorem dX7_see_46 : decode cX7_see 46 = .ok (.iconst 3, 1) := by decide +kernel
theorem dX7_see_47 : decode cX7_see 47 = .ok (.aload_n 0, 1) := by decide +kernel
theorem dX7_see_48 : decode cX7_see 48 = .ok (.getfield 7, 3) := by decide +kernel
theorem dX7_see_51 : decode cX7_see 51 = .ok (.bipush 38, 2) := by decide +kernel
theorem dX7_see_53 : decode cX7_see 53 = .ok (.iaload, 1) := by decide +kernel
theorem dX7_see_54 : decode cX7_see 54 = .ok (.imul, 1) := by decide +kernel
theorem dX7_see_55 : decode cX7_see 55 = .ok (.iadd, 1) := by decide +kernel
theorem dX7_see_56 : decode cX7_see 56 = .ok (.istore 4, 2) := by decide +kernel
theorem dX7_see_58 : decode cX7_see 58 = .ok (.aload_n 0, 1) := by decide +kernel
theorem dX7_see_59 : decode cX7_see 59 = .ok (.getfield 7, 3) := by decide +kernel
theorem dX7_see_62 : decode cX7_see 62 = .ok (.iload 4, 2) := by decide +kernel
theorem dX7_see_64 : decode cX7_see 64 = .ok (.iload_n 1, 1) := by decide +kernel
theorem dX7_see_65 : decode cX7_see 65 = .ok (.iastore, 1) := by decide +kernel
theorem dX7_see_66 : decode cX7_see 66 = .ok (.aload_n 0, 1) := by decide +kernel
theorem dX7_see_67 : decode cX7_see 67 = .ok (.getfield 7, 3) := by decide +kernel
theorem dX7_see_70 : decode cX7_see 70 = .ok (.iload 4, 2) := by decide +kernel
theorem dX7_see_72 : decode cX7_see 72 = .ok (.iconst 1, 1) := by decide +kernel
theorem dX7_see_73 : decode cX7_see 73 = .ok (.iadd, 1) := by decide +kernel
theorem dX7_see_74 : decode cX7_see 74 = .ok (.iload_n 2, 1) := by decide +kernel
theorem dX7_see_75 : decode cX7_see 75 = .ok (.iastore, 1) := by decide +kernel
theorem dX7_see_76 : decode cX7_see 76 = .ok (.aload_n 0, 1) := by decide +kernel
theorem dX7_see_77 : decode cX7_see 77 = .ok (.getfield 7, 3) := by decide +kernel
theorem dX7_see_80 : decode cX7_see 80 = .ok (.iload 4, 2) := by decide +kernel
theorem dX7_see_82 : decode cX7_see 82 = .ok (.iconst 2, 1) := by decide +kernel
theorem dX7_see_83 : decode cX7_see 83 = .ok (.iadd, 1) := by decide +kernel
theorem dX7_see_84 : decode cX7_see 84 = .ok (.iload_n 3, 1) := by decide +kernel
theorem dX7_see_85 : decode cX7_see 85 = .ok (.iastore, 1) := by decide +kernel
theorem dX7_see_86 : decode cX7_see 86 = .ok (.aload_n 0, 1) := by decide +kernel
theorem dX7_see_87 : decode cX7_see 87 = .ok (.getfield 7, 3) := by decide +kernel
theorem dX7_see_90 : decode cX7_see 90 = .ok (.bipush 38, 2) := by decide +kernel
theorem dX7_see_92 : decode cX7_see 92 = .ok (.dup2, 1) := by decide +kernel
theorem dX7_see_93 : decode cX7_see 93 = .ok (.iaload, 1) := by decide +kernel
theorem dX7_see_94 : decode cX7_see 94 = .ok (.iconst 1, 1) := by decide +kernel
theorem dX7_see_95 : decode cX7_see 95 = .ok (.iadd, 1) := by decide +kernel
theorem dX7_see_96 : decode cX7_see 96 = .ok (.iastore, 1) := by decide +kernel
theorem dX7_see_97 : decode cX7_see 97 = .ok (.aload_n 0, 1) := by decide +kernel
theorem dX7_see_98 : decode cX7_see 98 = .ok (.getfield 7, 3) := by decide +kernel
theorem dX7_see_101 : decode cX7_see 101 = .ok (.bipush 38, 2) := by decide +kernel
theorem dX7_see_103 : decode cX7_see 103 = .ok (.iaload, 1) := by decide +kernel
theorem dX7_see_104 : decode cX7_see 104 = .ok (.ireturn, 1) := by decide +kernel
theorem dX7_forget_0 : decode cX7_forget 0 = .ok (.iload_n 1, 1) := by decide +kernel
theorem dX7_forget_1 : decode cX7_forget 1 = .ok (.i2l, 1) := by decide +kernel
theorem dX7_forget_2 : decode cX7_forget 2 = .ok (.lconst 0, 1) := by decide +kernel
theorem dX7_forget_3 : decode cX7_forget 3 = .ok (.aload_n 0, 1) := by decide +kernel
theorem dX7_forget_4 : decode cX7_forget 4 = .ok (.getfield 7, 3) := by decide +kernel
theorem dX7_forget_7 : decode cX7_forget 7 = .ok (.bipush 38, 2) := by decide +kernel
theorem dX7_forget_9 : decode cX7_forget 9 = .ok (.iaload, 1) := by decide +kernel
theorem dX7_forget_10 : decode cX7_forget 10 = .ok (.i2l, 1) := by decide +kernel
theorem dX7_forget_11 : decode cX7_forget 11 = .ok (.invokestatic 72, 3) := by decide +kernel
theorem dX7_forget_14 : decode cX7_forget 14 = .ok (.ifCond .eq 13, 3) := by decide +kernel
theorem dX7_forget_17 : decode cX7_forget 17 = .ok (.aload_n 0, 1) := by decide +kernel
theorem dX7_forget_18 : decode cX7_forget 18 = .ok (.bipush 38, 2) := by decide +kernel
theorem dX7_forget_20 : decode cX7_forget 20 = .ok (.iload_n 1, 1) := by decide +kernel
theorem dX7_forget_21 : decode cX7_forget 21 = .ok (.invokevirtual 229, 3) := by decide +kernel
theorem dX7_forget_24 : decode cX7_forget 24 = .ok (.goto 4, 3) := by decide +kernel
theorem dX7_forget_27 : decode cX7_forget 27 = .ok (.iconst (-1), 1) := by decide +kernel
theorem dX7_forget_28 : decode cX7_forget 28 = .ok (.ireturn, 1) := by decide +kernel
theorem dX7_isSoWith_0 : decode cX7_isSoWith 0 = .ok (.aload_n 0, 1) := by decide +kernel
theorem dX7_isSoWith_1 : decode cX7_isSoWith 1 = .ok (.invokevirtual 201, 3) := by decide +kernel
theorem dX7_isSoWith_4 : decode cX7_isSoWith 4 = .ok (.aload_n 0, 1) := by decide +kernel
theorem dX7_isSoWith_5 : decode cX7_isSoWith 5 = .ok (.getfield 13, 3) := by decide +kernel
theorem dX7_isSoWith_8 : decode cX7_isSoWith 8 = .ok (.iload_n 1, 1) := by decide +kernel
theorem dX7_isSoWith_9 : decode cX7_isSoWith 9 = .ok (.iload_n 2, 1) := by decide +kernel
theorem dX7_isSoWith_10 : decode cX7_isSoWith 10 = .ok (.iastore, 1) := by decide +kernel
theorem dX7_isSoWith_11 : decode cX7_isSoWith 11 = .ok (.iconst 0, 1) := by decide +kernel
theorem dX7_isSoWith_12 : decode cX7_isSoWith 12 = .ok (.istore_n 3, 1) := by decide +kernel
theorem dX7_isSoWith_13 : decode cX7_isSoWith 13 = .ok (.iload_n 3, 1) := by decide +kernel
theorem dX7_isSoWith_14 : decode cX7_isSoWith 14 = .ok (.bipush 20, 2) := by decide +kernel
theorem dX7_isSoWith_16 : decode cX7_isSoWith 16 = .ok (.if_icmp .gt 49, 3) := by decide +kernel
theorem dX7_isSoWith_19 : decode cX7_isSoWith 19 = .ok (.iconst 0, 1) := by decide +kernel
theorem dX7_isSoWith_20 : decode cX7_isSoWith 20 = .ok (.istore 4, 2) := by decide +kernel
theorem dX7_isSoWith_22 : decode cX7_isSoWith 22 = .ok (.iload 4, 2) := by decide +kernel
theorem dX7_isSoWith_24 : decode cX7_isSoWith 24 = .ok (.aload_n 0, 1) := by decide +kernel
theorem dX7_isSoWith_25 : decode cX7_isSoWith 25 = .ok (.getfield 67, 3) := by decide +kernel
theorem dX7_isSoWith_28 : decode cX7_isSoWith 28 = .ok (.if_icmp .ge 26, 3) := by decide +kernel
theorem dX7_isSoWith_31 : decode cX7_isSoWith 31 = .ok (.aload_n 0, 1) := by decide +kernel
theorem dX7_isSoWith_32 : decode cX7_isSoWith 32 = .ok (.getfield 26, 3) := by decide +kernel
theorem dX7_isSoWith_35 : decode cX7_isSoWith 35 = .ok (.iconst 4, 1) := by decide +kernel
theorem dX7_isSoWith_36 : decode cX7_isSoWith 36 = .ok (.iload_n 3, 1) := by decide +kernel
theorem dX7_isSoWith_37 : decode cX7_isSoWith 37 = .ok (.imul, 1) := by decide +kernel
theorem dX7_isSoWith_38 : decode cX7_isSoWith 38 = .ok (.iload 4, 2) := by decide +kernel
theorem dX7_isSoWith_40 : decode cX7_isSoWith 40 = .ok (.iadd, 1) := by decide +kernel
theorem dX7_isSoWith_41 : decode cX7_isSoWith 41 = .ok (.aload_n 0, 1) := by decide +kernel
theorem dX7_isSoWith_42 : decode cX7_isSoWith 42 = .ok (.iload 4, 2) := by decide +kernel
theorem dX7_isSoWith_44 : decode cX7_isSoWith 44 = .ok (.invokevirtual 160, 3) := by decide +kernel
theorem dX7_isSoWith_47 : decode cX7_isSoWith 47 = .ok (.iastore, 1) := by decide +kernel
theorem dX7_isSoWith_48 : decode cX7_isSoWith 48 = .ok (.iinc 4 1, 3) := by decide +kernel
theorem dX7_isSoWith_51 : decode cX7_isSoWith 51 = .ok (.goto (-29), 3) := by decide +kernel
theorem dX7_isSoWith_54 : decode cX7_isSoWith 54 = .ok (.aload_n 0, 1) := by decide +kernel
theorem dX7_isSoWith_55 : decode cX7_isSoWith 55 = .ok (.iconst 1, 1) := by decide +kernel
theorem dX7_isSoWith_56 : decode cX7_isSoWith 56 = .ok (.invokevirtual 188, 3) := by decide +kernel
theorem dX7_isSoWith_59 : decode cX7_isSoWith 59 = .ok (.iinc 3 1, 3) := by decide +kernel
theorem dX7_isSoWith_62 : decode cX7_isSoWith 62 = .ok (.goto (-49), 3) := by decide +kernel
theorem dX7_isSoWith_65 : decode cX7_isSoWith 65 = .ok (.iconst 1, 1) := by decide +kernel
theorem dX7_isSoWith_66 : decode cX7_isSoWith 66 = .ok (.istore_n 3, 1) := by decide +kernel
theorem dX7_isSoWith_67 : decode cX7_isSoWith 67 = .ok (.iconst 0, 1) := by decide +kernel
theorem dX7_isSoWith_68 : decode cX7_isSoWith 68 = .ok (.istore 4, 2) := by decide +kernel
theorem dX7_isSoWith_70 : decode cX7_isSoWith 70 = .ok (.iload 4, 2) := by decide +kernel
theorem dX7_isSoWith_72 : decode cX7_isSoWith 72 = .ok (.aload_n 0, 1) := by decide +kernel
theorem dX7_isSoWith_73 : decode cX7_isSoWith 73 = .ok (.getfield 7, 3) := by decide +kernel
theorem dX7_isSoWith_76 : decode cX7_isSoWith 76 = .ok (.bipush 38, 2) := by decide +kernel
theorem dX7_isSoWith_78 : decode cX7_isSoWith 78 = .ok (.iaload, 1) := by decide +kernel
theorem dX7_isSoWith_79 : decode cX7_isSoWith 79 = .ok (.if_icmp .ge 64, 3) := by decide +kernel
theorem dX7_isSoWith_82 : decode cX7_isSoWith 82 = .ok (.bipush 39, 2) := by decide +kernel
theorem dX7_isSoWith_84 : decode cX7_isSoWith 84 = .ok (.iconst 3, 1) := by decide +kernel
theorem dX7_isSoWith_85 : decode cX7_isSoWith 85 = .ok (.iload 4, 2) := by decide +kernel
theorem dX7_isSoWith_87 : decode cX7_isSoWith 87 = .ok (.imul, 1) := by decide +kernel
theorem dX7_isSoWith_88 : decode cX7_isSoWith 88 = .ok (.iadd, 1) := by decide +kernel
theorem dX7_isSoWith_89 : decode cX7_isSoWith 89 = .ok (.istore 5, 2) := by decide +kernel
theorem dX7_isSoWith_91 : decode cX7_isSoWith 91 = .ok (.iload_n 3, 1) := by decide +kernel
theorem dX7_isSoWith_92 : decode cX7_isSoWith 92 = .ok (.ifCond .eq 43, 3) := by decide +kernel
theorem dX7_isSoWith_95 : decode cX7_isSoWith 95 = .ok (.aload_n 0, 1) := by decide +kernel
theorem dX7_isSoWith_96 : decode cX7_isSoWith 96 = .ok (.getfield 26, 3) := by decide +kernel
theorem dX7_isSoWith_99 : decode cX7_isSoWith 99 = .ok (.iconst 4, 1) := by decide +kernel
theorem dX7_isSoWith_100 : decode cX7_isSoWith 100 = .ok (.aload_n 0, 1) := by decide +kernel
theorem dX7_isSoWith_101 : decode cX7_isSoWith 101 = .ok (.getfield 7, 3) := by decide +kernel
theorem dX7_isSoWith_104 : decode cX7_isSoWith 104 = .ok (.iload 5, 2) := by decide +kernel
theorem dX7_isSoWith_106 : decode cX7_isSoWith 106 = .ok (.iaload, 1) := by decide +kernel
theorem dX7_isSoWith_107 : decode cX7_isSoWith 107 = .ok (.imul, 1) := by decide +kernel
theorem dX7_isSoWith_108 : decode cX7_isSoWith 108 = .ok (.aload_n 0, 1) := by decide +kernel
theorem dX7_isSoWith_109 : decode cX7_isSoWith 109 = .ok (.getfield 7, 3) := by decide +kernel
theorem dX7_isSoWith_112 : decode cX7_isSoWith 112 = .ok (.iload 5, 2) := by decide +kernel
theorem dX7_isSoWith_114 : decode cX7_isSoWith 114 = .ok (.iconst 1, 1) := by decide +kernel
theorem dX7_isSoWith_115 : decode cX7_isSoWith 115 = .ok (.iadd, 1) := by decide +kernel
theorem dX7_isSoWith_116 : decode cX7_isSoWith 116 = .ok (.iaload, 1) := by decide +kernel
theorem dX7_isSoWith_117 : decode cX7_isSoWith 117 = .ok (.iadd, 1) := by decide +kernel
theorem dX7_isSoWith_118 : decode cX7_isSoWith 118 = .ok (.iaload, 1) := by decide +kernel
theorem dX7_isSoWith_119 : decode cX7_isSoWith 119 = .ok (.aload_n 0, 1) := by decide +kernel
theorem dX7_isSoWith_120 : decode cX7_isSoWith 120 = .ok (.getfield 7, 3) := by decide +kernel
theorem dX7_isSoWith_123 : decode cX7_isSoWith 123 = .ok (.iload 5, 2) := by decide +kernel
theorem dX7_isSoWith_125 : decode cX7_isSoWith 125 = .ok (.iconst 2, 1) := by decide +kernel
theorem dX7_isSoWith_126 : decode cX7_isSoWith 126 = .ok (.iadd, 1) := by decide +kernel
theorem dX7_isSoWith_127 : decode cX7_isSoWith 127 = .ok (.iaload, 1) := by decide +kernel
theorem dX7_isSoWith_128 : decode cX7_isSoWith 128 = .ok (.if_icmp .ne 7, 3) := by decide +kernel
theorem dX7_isSoWith_131 : decode cX7_isSoWith 131 = .ok (.iconst 1, 1) := by decide +kernel
theorem dX7_isSoWith_132 : decode cX7_isSoWith 132 = .ok (.goto 4, 3) := by decide +kernel
theorem dX7_isSoWith_135 : decode cX7_isSoWith 135 = .ok (.iconst 0, 1) := by decide +kernel
theorem dX7_isSoWith_136 : decode cX7_isSoWith 136 = .ok (.istore_n 3, 1) := by decide +kernel
theorem dX7_isSoWith_137 : decode cX7_isSoWith 137 = .ok (.iinc 4 1, 3) := by decide +kernel
theorem dX7_isSoWith_140 : decode cX7_isSoWith 140 = .ok (.goto (-70), 3) := by decide +kernel
theorem dX7_isSoWith_143 : decode cX7_isSoWith 143 = .ok (.iload_n 3, 1) := by decide +kernel
theorem dX7_isSoWith_144 : decode cX7_isSoWith 144 = .ok (.ireturn, 1) := by decide +kernel
theorem dX7_which_0 : decode cX7_which 0 = .ok (.iconst 0, 1) := by decide +kernel
theorem dX7_which_1 : decode cX7_which 1 = .ok (.istore_n 3, 1) := by decide +kernel
theorem dX7_which_2 : decode cX7_which 2 = .ok (.iconst 0, 1) := by decide +kernel
theorem dX7_which_3 : decode cX7_which 3 = .ok (.istore 4, 2) := by decide +kernel
theorem dX7_which_5 : decode cX7_which 5 = .ok (.iload 4, 2) := by decide +kernel
theorem dX7_which_7 : decode cX7_which 7 = .ok (.iload_n 2, 1) := by decide +kernel
theorem dX7_which_8 : decode cX7_which 8 = .ok (.if_icmp .ge 25, 3) := by decide +kernel
theorem dX7_which_11 : decode cX7_which 11 = .ok (.iload_n 3, 1) := by decide +kernel
theorem dX7_which_12 : decode cX7_which 12 = .ok (.aload_n 0, 1) := by decide +kernel
theorem dX7_which_13 : decode cX7_which 13 = .ok (.iload_n 1, 1) := by decide +kernel
theorem dX7_which_14 : decode cX7_which 14 = .ok (.iload 4, 2) := by decide +kernel
theorem dX7_which_16 : decode cX7_which 16 = .ok (.invokevirtual 295, 3) := by decide +kernel
theorem dX7_which_19 : decode cX7_which 19 = .ok (.invokestatic 194, 3) := by decide +kernel
theorem dX7_which_22 : decode cX7_which 22 = .ok (.iload 4, 2) := by decide +kernel
theorem dX7_which_24 : decode cX7_which 24 = .ok (.ishl, 1) := by decide +kernel
theorem dX7_which_25 : decode cX7_which 25 = .ok (.ior, 1) := by decide +kernel
theorem dX7_which_26 : decode cX7_which 26 = .ok (.istore_n 3, 1) := by decide +kernel
theorem dX7_which_27 : decode cX7_which 27 = .ok (.iinc 4 1, 3) := by decide +kernel
theorem dX7_which_30 : decode cX7_which 30 = .ok (.goto (-25), 3) := by decide +kernel
theorem dX7_which_33 : decode cX7_which 33 = .ok (.iload_n 3, 1) := by decide +kernel
theorem dX7_which_34 : decode cX7_which 34 = .ok (.ireturn, 1) := by decide +kernel
theorem dX7_kinds_0 : decode cX7_kinds 0 = .ok (.aload_n 0, 1) := by decide +kernel
theorem dX7_kinds_1 : decode cX7_kinds 1 = .ok (.iload_n 1, 1) := by decide +kernel
theorem dX7_kinds_2 : decode cX7_kinds 2 = .ok (.invokevirtual 210, 3) := by decide +kernel
theorem dX7_kinds_5 : decode cX7_kinds 5 = .ok (.ifCond .eq 19, 3) := by decide +kernel
theorem dX7_kinds_8 : decode cX7_kinds 8 = .ok (.aload_n 0, 1) := by decide +kernel
theorem dX7_kinds_9 : decode cX7_kinds 9 = .ok (.bipush 12, 2) := by decide +kernel
theorem dX7_kinds_11 : decode cX7_kinds 11 = .ok (.iconst 4, 1) := by decide +kernel
theorem dX7_kinds_12 : decode cX7_kinds 12 = .ok (.iload_n 1, 1) := by decide +kernel
theorem dX7_kinds_13 : decode cX7_kinds 13 = .ok (.imul, 1) := by decide +kernel
theorem dX7_kinds_14 : decode cX7_kinds 14 = .ok (.iadd, 1) := by decide +kernel
theorem dX7_kinds_15 : decode cX7_kinds 15 = .ok (.iconst 0, 1) := by decide +kernel
theorem dX7_kinds_16 : decode cX7_kinds 16 = .ok (.iadd, 1) := by decide +kernel
theorem dX7_kinds_17 : decode cX7_kinds 17 = .ok (.iconst 4, 1) := by decide +kernel
theorem dX7_kinds_18 : decode cX7_kinds 18 = .ok (.invokevirtual 299, 3) := by decide +kernel
theorem dX7_kinds_21 : decode cX7_kinds 21 = .ok (.goto 4, 3) := by decide +kernel
theorem dX7_kinds_24 : decode cX7_kinds 24 = .ok (.iconst (-1), 1) := by decide +kernel
theorem dX7_kinds_25 : decode cX7_kinds 25 = .ok (.ireturn, 1) := by decide +kernel
theorem dX7_doors_0 : decode cX7_doors 0 = .ok (.aload_n 0, 1) := by decide +kernel
theorem dX7_doors_1 : decode cX7_doors 1 = .ok (.iload_n 1, 1) := by decide +kernel
theorem dX7_doors_2 : decode cX7_doors 2 = .ok (.invokevirtual 210, 3) := by decide +kernel
theorem dX7_doors_5 : decode cX7_doors 5 = .ok (.ifCond .ne 5, 3) := by decide +kernel
theorem dX7_doors_8 : decode cX7_doors 8 = .ok (.iconst (-1), 1) := by decide +kernel
theorem dX7_doors_9 : decode cX7_doors 9 = .ok (.ireturn, 1) := by decide +kernel
theorem dX7_doors_10 : decode cX7_doors 10 = .ok (.aload_n 0, 1) := by decide +kernel
theorem dX7_doors_11 : decode cX7_doors 11 = .ok (.iload_n 1, 1) := by decide +kernel
theorem dX7_doors_12 : decode cX7_doors 12 = .ok (.invokevirtual 226, 3) := by decide +kernel
theorem dX7_doors_15 : decode cX7_doors 15 = .ok (.ifCond .eq 8, 3) := by decide +kernel
theorem dX7_doors_18 : decode cX7_doors 18 = .ok (.bipush (-2), 2) := by decide +kernel
theorem dX7_doors_20 : decode cX7_doors 20 = .ok (.goto 17, 3) := by decide +kernel
theorem dX7_doors_23 : decode cX7_doors 23 = .ok (.aload_n 0, 1) := by decide +kernel
theorem dX7_doors_24 : decode cX7_doors 24 = .ok (.bipush 12, 2) := by decide +kernel
theorem dX7_doors_26 : decode cX7_doors 26 = .ok (.iconst 4, 1) := by decide +kernel
theorem dX7_doors_27 : decode cX7_doors 27 = .ok (.iload_n 1, 1) := by decide +kernel
theorem dX7_doors_28 : decode cX7_doors 28 = .ok (.imul, 1) := by decide +kernel
theorem dX7_doors_29 : decode cX7_doors 29 = .ok (.iadd, 1) := by decide +kernel
theorem dX7_doors_30 : decode cX7_doors 30 = .ok (.iconst 1, 1) := by decide +kernel
theorem dX7_doors_31 : decode cX7_doors 31 = .ok (.iadd, 1) := by decide +kernel
theorem dX7_doors_32 : decode cX7_doors 32 = .ok (.bipush 12, 2) := by decide +kernel
theorem dX7_doors_34 : decode cX7_doors 34 = .ok (.invokevirtual 299, 3) := by decide +kernel
theorem dX7_doors_37 : decode cX7_doors 37 = .ok (.ireturn, 1) := by decide +kernel
theorem dX7_ask_0 : decode cX7_ask 0 = .ok (.aload_n 0, 1) := by decide +kernel
theorem dX7_ask_1 : decode cX7_ask 1 = .ok (.iload_n 1, 1) := by decide +kernel
theorem dX7_ask_2 : decode cX7_ask 2 = .ok (.invokevirtual 210, 3) := by decide +kernel
theorem dX7_ask_5 : decode cX7_ask 5 = .ok (.ifCond .eq 10, 3) := by decide +kernel
theorem dX7_ask_8 : decode cX7_ask 8 = .ok (.iload_n 2, 1) := by decide +kernel
theorem dX7_ask_9 : decode cX7_ask 9 = .ok (.invokestatic 216, 3) := by decide +kernel
theorem dX7_ask_12 : decode cX7_ask 12 = .ok (.ifCond .ne 5, 3) := by decide +kernel
theorem dX7_ask_15 : decode cX7_ask 15 = .ok (.iconst (-1), 1) := by decide +kernel
theorem dX7_ask_16 : decode cX7_ask 16 = .ok (.ireturn, 1) := by decide +kernel
theorem dX7_ask_17 : decode cX7_ask 17 = .ok (.iconst 0, 1) := by decide +kernel
theorem dX7_ask_18 : decode cX7_ask 18 = .ok (.istore_n 3, 1) := by decide +kernel
theorem dX7_ask_19 : decode cX7_ask 19 = .ok (.iconst 0, 1) := by decide +kernel
theorem dX7_ask_20 : decode cX7_ask 20 = .ok (.istore 4, 2) := by decide +kernel
theorem dX7_ask_22 : decode cX7_ask 22 = .ok (.iload 4, 2) := by decide +kernel
theorem dX7_ask_24 : decode cX7_ask 24 = .ok (.iconst 4, 1) := by decide +kernel
theorem dX7_ask_25 : decode cX7_ask 25 = .ok (.if_icmp .ge 68, 3) := by decide +kernel
theorem dX7_ask_28 : decode cX7_ask 28 = .ok (.aload_n 0, 1) := by decide +kernel
theorem dX7_ask_29 : decode cX7_ask 29 = .ok (.bipush 12, 2) := by decide +kernel
theorem dX7_ask_31 : decode cX7_ask 31 = .ok (.iconst 4, 1) := by decide +kernel
theorem dX7_ask_32 : decode cX7_ask 32 = .ok (.iload_n 1, 1) := by decide +kernel
theorem dX7_ask_33 : decode cX7_ask 33 = .ok (.imul, 1) := by decide +kernel
theorem dX7_ask_34 : decode cX7_ask 34 = .ok (.iadd, 1) := by decide +kernel
theorem dX7_ask_35 : decode cX7_ask 35 = .ok (.iconst 0, 1) := by decide +kernel
theorem dX7_ask_36 : decode cX7_ask 36 = .ok (.iadd, 1) := by decide +kernel
theorem dX7_ask_37 : decode cX7_ask 37 = .ok (.iload 4, 2) := by decide +kernel
theorem dX7_ask_39 : decode cX7_ask 39 = .ok (.invokevirtual 295, 3) := by decide +kernel
theorem dX7_ask_42 : decode cX7_ask 42 = .ok (.ifCond .eq 45, 3) := by decide +kernel
theorem dX7_ask_45 : decode cX7_ask 45 = .ok (.iconst 0, 1) := by decide +kernel
theorem dX7_ask_46 : decode cX7_ask 46 = .ok (.istore 5, 2) := by decide +kernel
theorem dX7_ask_48 : decode cX7_ask 48 = .ok (.iload 5, 2) := by decide +kernel
theorem dX7_ask_50 : decode cX7_ask 50 = .ok (.bipush 20, 2) := by decide +kernel
theorem dX7_ask_52 : decode cX7_ask 52 = .ok (.if_icmp .gt 32, 3) := by decide +kernel
theorem dX7_ask_55 : decode cX7_ask 55 = .ok (.aload_n 0, 1) := by decide +kernel
theorem dX7_ask_56 : decode cX7_ask 56 = .ok (.getfield 29, 3) := by decide +kernel
theorem dX7_ask_59 : decode cX7_ask 59 = .ok (.bipush 21, 2) := by decide +kernel
theorem dX7_ask_61 : decode cX7_ask 61 = .ok (.iload_n 3, 1) := by decide +kernel
theorem dX7_ask_62 : decode cX7_ask 62 = .ok (.imul, 1) := by decide +kernel
theorem dX7_ask_63 : decode cX7_ask 63 = .ok (.iload 5, 2) := by decide +kernel
theorem dX7_ask_65 : decode cX7_ask 65 = .ok (.iadd, 1) := by decide +kernel
theorem dX7_ask_66 : decode cX7_ask 66 = .ok (.aload_n 0, 1) := by decide +kernel
theorem dX7_ask_67 : decode cX7_ask 67 = .ok (.getfield 26, 3) := by decide +kernel
theorem dX7_ask_70 : decode cX7_ask 70 = .ok (.iconst 4, 1) := by decide +kernel
theorem dX7_ask_71 : decode cX7_ask 71 = .ok (.iload 5, 2) := by decide +kernel
theorem dX7_ask_73 : decode cX7_ask 73 = .ok (.imul, 1) := by decide +kernel
theorem dX7_ask_74 : decode cX7_ask 74 = .ok (.iload_n 1, 1) := by decide +kernel
theorem dX7_ask_75 : decode cX7_ask 75 = .ok (.iadd, 1) := by decide +kernel
theorem dX7_ask_76 : decode cX7_ask 76 = .ok (.iaload, 1) := by decide +kernel
theorem dX7_ask_77 : decode cX7_ask 77 = .ok (.iastore, 1) := by decide +kernel
theorem dX7_ask_78 : decode cX7_ask 78 = .ok (.iinc 5 1, 3) := by decide +kernel
theorem dX7_ask_81 : decode cX7_ask 81 = .ok (.goto (-33), 3) := by decide +kernel
theorem dX7_ask_84 : decode cX7_ask 84 = .ok (.iinc 3 1, 3) := by decide +kernel
theorem dX7_ask_87 : decode cX7_ask 87 = .ok (.iinc 4 1, 3) := by decide +kernel
theorem dX7_ask_90 : decode cX7_ask 90 = .ok (.goto (-68), 3) := by decide +kernel
theorem dX7_ask_93 : decode cX7_ask 93 = .ok (.iload_n 3, 1) := by decide +kernel
theorem dX7_ask_94 : decode cX7_ask 94 = .ok (.istore 4, 2) := by decide +kernel
theorem dX7_ask_96 : decode cX7_ask 96 = .ok (.bipush (-4), 2) := by decide +kernel
theorem dX7_ask_98 : decode cX7_ask 98 = .ok (.istore 5, 2) := by decide +kernel
theorem dX7_ask_100 : decode cX7_ask 100 = .ok (.iconst 0, 1) := by decide +kernel
theorem dX7_ask_101 : decode cX7_ask 101 = .ok (.istore 6, 2) := by decide +kernel
theorem dX7_ask_103 : decode cX7_ask 103 = .ok (.iload 6, 2) := by decide +kernel
theorem dX7_ask_105 : decode cX7_ask 105 = .ok (.bipush 20, 2) := by decide +kernel
theorem dX7_ask_107 : decode cX7_ask 107 = .ok (.if_icmp .gt 118, 3) := by decide +kernel
theorem dX7_ask_110 : decode cX7_ask 110 = .ok (.iconst 0, 1) := by decide +kernel
theorem dX7_ask_111 : decode cX7_ask 111 = .ok (.istore 7, 2) := by decide +kernel
theorem dX7_ask_113 : decode cX7_ask 113 = .ok (.iconst 0, 1) := by decide +kernel
theorem dX7_ask_114 : decode cX7_ask 114 = .ok (.istore 8, 2) := by decide +kernel
theorem dX7_ask_116 : decode cX7_ask 116 = .ok (.iload 8, 2) := by decide +kernel
theorem dX7_ask_118 : decode cX7_ask 118 = .ok (.iload_n 3, 1) := by decide +kernel
theorem dX7_ask_119 : decode cX7_ask 119 = .ok (.if_icmp .ge 85, 3) := by decide +kernel
theorem dX7_ask_122 : decode cX7_ask 122 = .ok (.iconst 0, 1) := by decide +kernel
theorem dX7_ask_123 : decode cX7_ask 123 = .ok (.istore 9, 2) := by decide +kernel
theorem dX7_ask_125 : decode cX7_ask 125 = .ok (.iconst 0, 1) := by decide +kernel
theorem dX7_ask_126 : decode cX7_ask 126 = .ok (.istore 10, 2) := by decide +kernel
theorem dX7_ask_128 : decode cX7_ask 128 = .ok (.iload 10, 2) := by decide +kernel
theorem dX7_ask_130 : decode cX7_ask 130 = .ok (.iload_n 3, 1) := by decide +kernel
theorem dX7_ask_131 : decode cX7_ask 131 = .ok (.if_icmp .ge 51, 3) := by decide +kernel
theorem dX7_ask_134 : decode cX7_ask 134 = .ok (.iload 9, 2) := by decide +kernel
theorem dX7_ask_136 : decode cX7_ask 136 = .ok (.aload_n 0, 1) := by decide +kernel
theorem dX7_ask_137 : decode cX7_ask 137 = .ok (.getfield 29, 3) := by decide +kernel
theorem dX7_ask_140 : decode cX7_ask 140 = .ok (.bipush 21, 2) := by decide +kernel
theorem dX7_ask_142 : decode cX7_ask 142 = .ok (.iload 8, 2) := by decide +kernel
theorem dX7_ask_144 : decode cX7_ask 144 = .ok (.imul, 1) := by decide +kernel
theorem dX7_ask_145 : decode cX7_ask 145 = .ok (.iload 6, 2) := by decide +kernel
theorem dX7_ask_147 : decode cX7_ask 147 = .ok (.iadd, 1) := by decide +kernel
theorem dX7_ask_148 : decode cX7_ask 148 = .ok (.iaload, 1) := by decide +kernel
theorem dX7_ask_149 : decode cX7_ask 149 = .ok (.aload_n 0, 1) := by decide +kernel
theorem dX7_ask_150 : decode cX7_ask 150 = .ok (.getfield 29, 3) := by decide +kernel
theorem dX7_ask_153 : decode cX7_ask 153 = .ok (.bipush 21, 2) := by decide +kernel
theorem dX7_ask_155 : decode cX7_ask 155 = .ok (.iload 10, 2) := by decide +kernel
theorem dX7_ask_157 : decode cX7_ask 157 = .ok (.imul, 1) := by decide +kernel
theorem dX7_ask_158 : decode cX7_ask 158 = .ok (.iload 6, 2) := by decide +kernel
theorem dX7_ask_160 : decode cX7_ask 160 = .ok (.iadd, 1) := by decide +kernel
theorem dX7_ask_161 : decode cX7_ask 161 = .ok (.iaload, 1) := by decide +kernel
theorem dX7_ask_162 : decode cX7_ask 162 = .ok (.if_icmp .ne 7, 3) := by decide +kernel
theorem dX7_ask_165 : decode cX7_ask 165 = .ok (.iconst 1, 1) := by decide +kernel
theorem dX7_ask_166 : decode cX7_ask 166 = .ok (.goto 4, 3) := by decide +kernel
theorem dX7_ask_169 : decode cX7_ask 169 = .ok (.iconst 0, 1) := by decide +kernel
theorem dX7_ask_170 : decode cX7_ask 170 = .ok (.invokestatic 194, 3) := by decide +kernel
theorem dX7_ask_173 : decode cX7_ask 173 = .ok (.iadd, 1) := by decide +kernel
theorem dX7_ask_174 : decode cX7_ask 174 = .ok (.istore 9, 2) := by decide +kernel
theorem dX7_ask_176 : decode cX7_ask 176 = .ok (.iinc 10 1, 3) := by decide +kernel
theorem dX7_ask_179 : decode cX7_ask 179 = .ok (.goto (-51), 3) := by decide +kernel
theorem dX7_ask_182 : decode cX7_ask 182 = .ok (.iload 9, 2) := by decide +kernel
theorem dX7_ask_184 : decode cX7_ask 184 = .ok (.iload 7, 2) := by decide +kernel
theorem dX7_ask_186 : decode cX7_ask 186 = .ok (.if_icmp .le 8, 3) := by decide +kernel
theorem dX7_ask_189 : decode cX7_ask 189 = .ok (.iload 9, 2) := by decide +kernel
theorem dX7_ask_191 : decode cX7_ask 191 = .ok (.goto 5, 3) := by decide +kernel
theorem dX7_ask_194 : decode cX7_ask 194 = .ok (.iload 7, 2) := by decide +kernel
theorem dX7_ask_196 : decode cX7_ask 196 = .ok (.istore 7, 2) := by decide +kernel
theorem dX7_ask_198 : decode cX7_ask 198 = .ok (.iinc 8 1, 3) := by decide +kernel
theorem dX7_ask_201 : decode cX7_ask 201 = .ok (.goto (-85), 3) := by decide +kernel
theorem dX7_ask_204 : decode cX7_ask 204 = .ok (.iload 7, 2) := by decide +kernel
theorem dX7_ask_206 : decode cX7_ask 206 = .ok (.iload 4, 2) := by decide +kernel
theorem dX7_ask_208 : decode cX7_ask 208 = .ok (.if_icmp .ge 11, 3) := by decide +kernel
theorem dX7_ask_211 : decode cX7_ask 211 = .ok (.iload 7, 2) := by decide +kernel
theorem dX7_ask_213 : decode cX7_ask 213 = .ok (.istore 4, 2) := by decide +kernel
theorem dX7_ask_215 : decode cX7_ask 215 = .ok (.iload 6, 2) := by decide +kernel
theorem dX7_ask_217 : decode cX7_ask 217 = .ok (.istore 5, 2) := by decide +kernel
theorem dX7_ask_219 : decode cX7_ask 219 = .ok (.iinc 6 1, 3) := by decide +kernel
theorem dX7_ask_222 : decode cX7_ask 222 = .ok (.goto (-119), 3) := by decide +kernel
theorem dX7_ask_225 : decode cX7_ask 225 = .ok (.iload 5, 2) := by decide +kernel
theorem dX7_ask_227 : decode cX7_ask 227 = .ok (.bipush (-4), 2) := by decide +kernel
theorem dX7_ask_229 : decode cX7_ask 229 = .ok (.if_icmp .ne 8, 3) := by decide +kernel
theorem dX7_ask_232 : decode cX7_ask 232 = .ok (.bipush (-4), 2) := by decide +kernel
theorem dX7_ask_234 : decode cX7_ask 234 = .ok (.goto 14, 3) := by decide +kernel
theorem dX7_ask_237 : decode cX7_ask 237 = .ok (.iload_n 2, 1) := by decide +kernel
theorem dX7_ask_238 : decode cX7_ask 238 = .ok (.ifCond .ne 8, 3) := by decide +kernel
theorem dX7_ask_241 : decode cX7_ask 241 = .ok (.iload 5, 2) := by decide +kernel
theorem dX7_ask_243 : decode cX7_ask 243 = .ok (.goto 5, 3) := by decide +kernel
theorem dX7_ask_246 : decode cX7_ask 246 = .ok (.iload 4, 2) := by decide +kernel
theorem dX7_ask_248 : decode cX7_ask 248 = .ok (.ireturn, 1) := by decide +kernel
theorem dX7_drift_0 : decode cX7_drift 0 = .ok (.iload_n 2, 1) := by decide +kernel
theorem dX7_drift_1 : decode cX7_drift 1 = .ok (.i2l, 1) := by decide +kernel
theorem dX7_drift_2 : decode cX7_drift 2 = .ok (.lconst 1, 1) := by decide +kernel
theorem dX7_drift_3 : decode cX7_drift 3 = .ok (.ldc2_w 242, 3) := by decide +kernel
theorem dX7_drift_6 : decode cX7_drift 6 = .ok (.invokestatic 72, 3) := by decide +kernel
theorem dX7_drift_9 : decode cX7_drift 9 = .ok (.ifCond .eq 10, 3) := by decide +kernel
theorem dX7_drift_12 : decode cX7_drift 12 = .ok (.iload_n 3, 1) := by decide +kernel
theorem dX7_drift_13 : decode cX7_drift 13 = .ok (.invokestatic 216, 3) := by decide +kernel
theorem dX7_drift_16 : decode cX7_drift 16 = .ok (.ifCond .ne 5, 3) := by decide +kernel
theorem dX7_drift_19 : decode cX7_drift 19 = .ok (.iconst (-1), 1) := by decide +kernel
theorem dX7_drift_20 : decode cX7_drift 20 = .ok (.ireturn, 1) := by decide +kernel
theorem dX7_drift_21 : decode cX7_drift 21 = .ok (.iload_n 1, 1) := by decide +kernel
theorem dX7_drift_22 : decode cX7_drift 22 = .ok (.istore 4, 2) := by decide +kernel
theorem dX7_drift_24 : decode cX7_drift 24 = .ok (.aload_n 0, 1) := by decide +kernel
theorem dX7_drift_25 : decode cX7_drift 25 = .ok (.invokevirtual 201, 3) := by decide +kernel
theorem dX7_drift_28 : decode cX7_drift 28 = .ok (.iconst 0, 1) := by decide +kernel
theorem dX7_drift_29 : decode cX7_drift 29 = .ok (.istore 5, 2) := by decide +kernel
theorem dX7_drift_31 : decode cX7_drift 31 = .ok (.iload 5, 2) := by decide +kernel
theorem dX7_drift_33 : decode cX7_drift 33 = .ok (.iload_n 2, 1) := by decide +kernel
theorem dX7_drift_34 : decode cX7_drift 34 = .ok (.if_icmp .ge 37, 3) := by decide +kernel
theorem dX7_drift_37 : decode cX7_drift 37 = .ok (.iload 4, 2) := by decide +kernel
theorem dX7_drift_39 : decode cX7_drift 39 = .ok (.ldc_w 302, 3) := by decide +kernel
theorem dX7_drift_42 : decode cX7_drift 42 = .ok (.imul, 1) := by decide +kernel
theorem dX7_drift_43 : decode cX7_drift 43 = .ok (.sipush 12345, 3) := by decide +kernel
theorem dX7_drift_46 : decode cX7_drift 46 = .ok (.iadd, 1) := by decide +kernel
theorem dX7_drift_47 : decode cX7_drift 47 = .ok (.istore 4, 2) := by decide +kernel
theorem dX7_drift_49 : decode cX7_drift 49 = .ok (.aload_n 0, 1) := by decide +kernel
theorem dX7_drift_50 : decode cX7_drift 50 = .ok (.iload 4, 2) := by decide +kernel
theorem dX7_drift_52 : decode cX7_drift 52 = .ok (.bipush 16, 2) := by decide +kernel
theorem dX7_drift_54 : decode cX7_drift 54 = .ok (.ishr, 1) := by decide +kernel
theorem dX7_drift_55 : decode cX7_drift 55 = .ok (.sipush 32767, 3) := by decide +kernel
theorem dX7_drift_58 : decode cX7_drift 58 = .ok (.iand, 1) := by decide +kernel
theorem dX7_drift_59 : decode cX7_drift 59 = .ok (.bipush 12, 2) := by decide +kernel
theorem dX7_drift_61 : decode cX7_drift 61 = .ok (.irem, 1) := by decide +kernel
theorem dX7_drift_62 : decode cX7_drift 62 = .ok (.invokevirtual 185, 3) := by decide +kernel
theorem dX7_drift_65 : decode cX7_drift 65 = .ok (.iinc 5 1, 3) := by decide +kernel
theorem dX7_drift_68 : decode cX7_drift 68 = .ok (.goto (-37), 3) := by decide +kernel
theorem dX7_drift_71 : decode cX7_drift 71 = .ok (.iload_n 3, 1) := by decide +kernel
theorem dX7_drift_72 : decode cX7_drift 72 = .ok (.ifCond .ne 10, 3) := by decide +kernel
theorem dX7_drift_75 : decode cX7_drift 75 = .ok (.aload_n 0, 1) := by decide +kernel
theorem dX7_drift_76 : decode cX7_drift 76 = .ok (.invokevirtual 191, 3) := by decide +kernel
theorem dX7_drift_79 : decode cX7_drift 79 = .ok (.goto 7, 3) := by decide +kernel
theorem dX7_drift_82 : decode cX7_drift 82 = .ok (.aload_n 0, 1) := by decide +kernel
theorem dX7_drift_83 : decode cX7_drift 83 = .ok (.invokevirtual 198, 3) := by decide +kernel
theorem dX7_drift_86 : decode cX7_drift 86 = .ok (.ireturn, 1) := by decide +kernel
theorem dX7_copies_0 : decode cX7_copies 0 = .ok (.iconst 0, 1) := by decide +kernel
theorem dX7_copies_1 : decode cX7_copies 1 = .ok (.istore_n 3, 1) := by decide +kernel
theorem dX7_copies_2 : decode cX7_copies 2 = .ok (.iload_n 3, 1) := by decide +kernel
theorem dX7_copies_3 : decode cX7_copies 3 = .ok (.bipush 57, 2) := by decide +kernel
theorem dX7_copies_5 : decode cX7_copies 5 = .ok (.if_icmp .ge 25, 3) := by decide +kernel
theorem dX7_copies_8 : decode cX7_copies 8 = .ok (.aload_n 0, 1) := by decide +kernel
theorem dX7_copies_9 : decode cX7_copies 9 = .ok (.getfield 7, 3) := by decide +kernel
theorem dX7_copies_12 : decode cX7_copies 12 = .ok (.iload_n 1, 1) := by decide +kernel
theorem dX7_copies_13 : decode cX7_copies 13 = .ok (.iload_n 3, 1) := by decide +kernel
theorem dX7_copies_14 : decode cX7_copies 14 = .ok (.iadd, 1) := by decide +kernel
theorem dX7_copies_15 : decode cX7_copies 15 = .ok (.aload_n 0, 1) := by decide +kernel
theorem dX7_copies_16 : decode cX7_copies 16 = .ok (.getfield 7, 3) := by decide +kernel
theorem dX7_copies_19 : decode cX7_copies 19 = .ok (.iload_n 2, 1) := by decide +kernel
theorem dX7_copies_20 : decode cX7_copies 20 = .ok (.iload_n 3, 1) := by decide +kernel
theorem dX7_copies_21 : decode cX7_copies 21 = .ok (.iadd, 1) := by decide +kernel
theorem dX7_copies_22 : decode cX7_copies 22 = .ok (.iaload, 1) := by decide +kernel
theorem dX7_copies_23 : decode cX7_copies 23 = .ok (.iastore, 1) := by decide +kernel
theorem dX7_copies_24 : decode cX7_copies 24 = .ok (.iinc 3 1, 3) := by decide +kernel
theorem dX7_copies_27 : decode cX7_copies 27 = .ok (.goto (-25), 3) := by decide +kernel
theorem dX7_copies_30 : decode cX7_copies 30 = .ok (.return_, 1) := by decide +kernel
theorem dX7_keep_0 : decode cX7_keep 0 = .ok (.iload_n 1, 1) := by decide +kernel
theorem dX7_keep_1 : decode cX7_keep 1 = .ok (.i2l, 1) := by decide +kernel
theorem dX7_keep_2 : decode cX7_keep 2 = .ok (.lconst 0, 1) := by decide +kernel
theorem dX7_keep_3 : decode cX7_keep 3 = .ok (.lconst 1, 1) := by decide +kernel
theorem dX7_keep_4 : decode cX7_keep 4 = .ok (.invokestatic 72, 3) := by decide +kernel
theorem dX7_keep_7 : decode cX7_keep 7 = .ok (.ifCond .ne 5, 3) := by decide +kernel
theorem dX7_keep_10 : decode cX7_keep 10 = .ok (.iconst (-1), 1) := by decide +kernel
theorem dX7_keep_11 : decode cX7_keep 11 = .ok (.ireturn, 1) := by decide +kernel
theorem dX7_keep_12 : decode cX7_keep 12 = .ok (.aload_n 0, 1) := by decide +kernel
theorem dX7_keep_13 : decode cX7_keep 13 = .ok (.getfield 16, 3) := by decide +kernel
theorem dX7_keep_16 : decode cX7_keep 16 = .ok (.iload_n 1, 1) := by decide +kernel
theorem dX7_keep_17 : decode cX7_keep 17 = .ok (.baload, 1) := by decide +kernel
theorem dX7_keep_18 : decode cX7_keep 18 = .ok (.invokestatic 194, 3) := by decide +kernel
theorem dX7_keep_21 : decode cX7_keep 21 = .ok (.istore_n 2, 1) := by decide +kernel
theorem dX7_keep_22 : decode cX7_keep 22 = .ok (.aload_n 0, 1) := by decide +kernel
theorem dX7_keep_23 : decode cX7_keep 23 = .ok (.getfield 16, 3) := by decide +kernel
theorem dX7_keep_26 : decode cX7_keep 26 = .ok (.iload_n 1, 1) := by decide +kernel
theorem dX7_keep_27 : decode cX7_keep 27 = .ok (.iconst 1, 1) := by decide +kernel
theorem dX7_keep_28 : decode cX7_keep 28 = .ok (.bastore, 1) := by decide +kernel
theorem dX7_keep_29 : decode cX7_keep 29 = .ok (.aload_n 0, 1) := by decide +kernel
theorem dX7_keep_30 : decode cX7_keep 30 = .ok (.bipush 57, 2) := by decide +kernel
theorem dX7_keep_32 : decode cX7_keep 32 = .ok (.iload_n 1, 1) := by decide +kernel
theorem dX7_keep_33 : decode cX7_keep 33 = .ok (.iconst 1, 1) := by decide +kernel
theorem dX7_keep_34 : decode cX7_keep 34 = .ok (.iadd, 1) := by decide +kernel
theorem dX7_keep_35 : decode cX7_keep 35 = .ok (.imul, 1) := by decide +kernel
theorem dX7_keep_36 : decode cX7_keep 36 = .ok (.iconst 0, 1) := by decide +kernel
theorem dX7_keep_37 : decode cX7_keep 37 = .ok (.invokevirtual 303, 3) := by decide +kernel
theorem dX7_keep_40 : decode cX7_keep 40 = .ok (.iload_n 2, 1) := by decide +kernel
theorem dX7_keep_41 : decode cX7_keep 41 = .ok (.ireturn, 1) := by decide +kernel
theorem dX7_back_0 : decode cX7_back 0 = .ok (.iload_n 1, 1) := by decide +kernel
theorem dX7_back_1 : decode cX7_back 1 = .ok (.i2l, 1) := by decide +kernel
theorem dX7_back_2 : decode cX7_back 2 = .ok (.lconst 0, 1) := by decide +kernel
theorem dX7_back_3 : decode cX7_back 3 = .ok (.lconst 1, 1) := by decide +kernel
theorem dX7_back_4 : decode cX7_back 4 = .ok (.invokestatic 72, 3) := by decide +kernel
theorem dX7_back_7 : decode cX7_back 7 = .ok (.ifCond .ne 5, 3) := by decide +kernel
theorem dX7_back_10 : decode cX7_back 10 = .ok (.iconst (-1), 1) := by decide +kernel
theorem dX7_back_11 : decode cX7_back 11 = .ok (.ireturn, 1) := by decide +kernel
theorem dX7_back_12 : decode cX7_back 12 = .ok (.aload_n 0, 1) := by decide +kernel
theorem dX7_back_13 : decode cX7_back 13 = .ok (.getfield 16, 3) := by decide +kernel
theorem dX7_back_16 : decode cX7_back 16 = .ok (.iload_n 1, 1) := by decide +kernel
theorem dX7_back_17 : decode cX7_back 17 = .ok (.baload, 1) := by decide +kernel
theorem dX7_back_18 : decode cX7_back 18 = .ok (.ifCond .ne 6, 3) := by decide +kernel
theorem dX7_back_21 : decode cX7_back 21 = .ok (.bipush (-2), 2) := by decide +kernel
theorem dX7_back_23 : decode cX7_back 23 = .ok (.ireturn, 1) := by decide +kernel
theorem dX7_back_24 : decode cX7_back 24 = .ok (.aload_n 0, 1) := by decide +kernel
theorem dX7_back_25 : decode cX7_back 25 = .ok (.iconst 0, 1) := by decide +kernel
theorem dX7_back_26 : decode cX7_back 26 = .ok (.bipush 57, 2) := by decide +kernel
theorem dX7_back_28 : decode cX7_back 28 = .ok (.iload_n 1, 1) := by decide +kernel
theorem dX7_back_29 : decode cX7_back 29 = .ok (.iconst 1, 1) := by decide +kernel
theorem dX7_back_30 : decode cX7_back 30 = .ok (.iadd, 1) := by decide +kernel
theorem dX7_back_31 : decode cX7_back 31 = .ok (.imul, 1) := by decide +kernel
theorem dX7_back_32 : decode cX7_back 32 = .ok (.invokevirtual 303, 3) := by decide +kernel
theorem dX7_back_35 : decode cX7_back 35 = .ok (.aload_n 0, 1) := by decide +kernel
theorem dX7_back_36 : decode cX7_back 36 = .ok (.getfield 7, 3) := by decide +kernel
theorem dX7_back_39 : decode cX7_back 39 = .ok (.bipush 37, 2) := by decide +kernel
theorem dX7_back_41 : decode cX7_back 41 = .ok (.iaload, 1) := by decide +kernel
theorem dX7_back_42 : decode cX7_back 42 = .ok (.ireturn, 1) := by decide +kernel
theorem dX7_isSheet_0 : decode cX7_isSheet 0 = .ok (.iload_n 0, 1) := by decide +kernel
theorem dX7_isSheet_1 : decode cX7_isSheet 1 = .ok (.i2l, 1) := by decide +kernel
theorem dX7_isSheet_2 : decode cX7_isSheet 2 = .ok (.lconst 0, 1) := by decide +kernel
theorem dX7_isSheet_3 : decode cX7_isSheet 3 = .ok (.ldc2_w 222, 3) := by decide +kernel
theorem dX7_isSheet_6 : decode cX7_isSheet 6 = .ok (.invokestatic 72, 3) := by decide +kernel
theorem dX7_isSheet_9 : decode cX7_isSheet 9 = .ok (.ifCond .eq 19, 3) := by decide +kernel
theorem dX7_isSheet_12 : decode cX7_isSheet 12 = .ok (.iload_n 1, 1) := by decide +kernel
theorem dX7_isSheet_13 : decode cX7_isSheet 13 = .ok (.i2l, 1) := by decide +kernel
theorem dX7_isSheet_14 : decode cX7_isSheet 14 = .ok (.lconst 0, 1) := by decide +kernel
theorem dX7_isSheet_15 : decode cX7_isSheet 15 = .ok (.ldc2_w 306, 3) := by decide +kernel
theorem dX7_isSheet_18 : decode cX7_isSheet 18 = .ok (.invokestatic 72, 3) := by decide +kernel
theorem dX7_isSheet_21 : decode cX7_isSheet 21 = .ok (.ifCond .eq 7, 3) := by decide +kernel
theorem dX7_isSheet_24 : decode cX7_isSheet 24 = .ok (.iconst 1, 1) := by decide +kernel
theorem dX7_isSheet_25 : decode cX7_isSheet 25 = .ok (.goto 4, 3) := by decide +kernel
theorem dX7_isSheet_28 : decode cX7_isSheet 28 = .ok (.iconst 0, 1) := by decide +kernel
theorem dX7_isSheet_29 : decode cX7_isSheet 29 = .ok (.ireturn, 1) := by decide +kernel
theorem dX7_sheet_0 : decode cX7_sheet 0 = .ok (.iload_n 1, 1) := by decide +kernel
theorem dX7_sheet_1 : decode cX7_sheet 1 = .ok (.iload_n 2, 1) := by decide +kernel
theorem dX7_sheet_2 : decode cX7_sheet 2 = .ok (.invokestatic 308, 3) := by decide +kernel
theorem dX7_sheet_5 : decode cX7_sheet 5 = .ok (.ifCond .eq 9, 3) := by decide +kernel
theorem dX7_sheet_8 : decode cX7_sheet 8 = .ok (.iload_n 3, 1) := by decide +kernel
theorem dX7_sheet_9 : decode cX7_sheet 9 = .ok (.bipush 40, 2) := by decide +kernel
theorem dX7_sheet_11 : decode cX7_sheet 11 = .ok (.if_icmp .le 5, 3) := by decide +kernel
theorem dX7_sheet_14 : decode cX7_sheet 14 = .ok (.iconst (-1), 1) := by decide +kernel
theorem dX7_sheet_15 : decode cX7_sheet 15 = .ok (.ireturn, 1) := by decide +kernel
theorem dX7_sheet_16 : decode cX7_sheet 16 = .ok (.iload_n 3, 1) := by decide +kernel
theorem dX7_sheet_17 : decode cX7_sheet 17 = .ok (.ifCond .ge 6, 3) := by decide +kernel
theorem dX7_sheet_20 : decode cX7_sheet 20 = .ok (.bipush (-14), 2) := by decide +kernel
theorem dX7_sheet_22 : decode cX7_sheet 22 = .ok (.ireturn, 1) := by decide +kernel
theorem dX7_sheet_23 : decode cX7_sheet 23 = .ok (.aload_n 0, 1) := by decide +kernel
theorem dX7_sheet_24 : decode cX7_sheet 24 = .ok (.getfield 32, 3) := by decide +kernel
theorem dX7_sheet_27 : decode cX7_sheet 27 = .ok (.iload_n 1, 1) := by decide +kernel
theorem dX7_sheet_28 : decode cX7_sheet 28 = .ok (.iload_n 2, 1) := by decide +kernel
theorem dX7_sheet_29 : decode cX7_sheet 29 = .ok (.iastore, 1) := by decide +kernel
theorem dX7_sheet_30 : decode cX7_sheet 30 = .ok (.aload_n 0, 1) := by decide +kernel
theorem dX7_sheet_31 : decode cX7_sheet 31 = .ok (.getfield 35, 3) := by decide +kernel
theorem dX7_sheet_34 : decode cX7_sheet 34 = .ok (.iload_n 1, 1) := by decide +kernel
theorem dX7_sheet_35 : decode cX7_sheet 35 = .ok (.iload_n 3, 1) := by decide +kernel
theorem dX7_sheet_36 : decode cX7_sheet 36 = .ok (.iastore, 1) := by decide +kernel
theorem dX7_sheet_37 : decode cX7_sheet 37 = .ok (.iconst 0, 1) := by decide +kernel
theorem dX7_sheet_38 : decode cX7_sheet 38 = .ok (.istore 4, 2) := by decide +kernel
theorem dX7_sheet_40 : decode cX7_sheet 40 = .ok (.iload 4, 2) := by decide +kernel
theorem dX7_sheet_42 : decode cX7_sheet 42 = .ok (.bipush 40, 2) := by decide +kernel
theorem dX7_sheet_44 : decode cX7_sheet 44 = .ok (.if_icmp .ge 22, 3) := by decide +kernel
theorem dX7_sheet_47 : decode cX7_sheet 47 = .ok (.aload_n 0, 1) := by decide +kernel
theorem dX7_sheet_48 : decode cX7_sheet 48 = .ok (.getfield 38, 3) := by decide +kernel
theorem dX7_sheet_51 : decode cX7_sheet 51 = .ok (.bipush 40, 2) := by decide +kernel
theorem dX7_sheet_53 : decode cX7_sheet 53 = .ok (.iload_n 1, 1) := by decide +kernel
theorem dX7_sheet_54 : decode cX7_sheet 54 = .ok (.imul, 1) := by decide +kernel
theorem dX7_sheet_55 : decode cX7_sheet 55 = .ok (.iload 4, 2) := by decide +kernel
theorem dX7_sheet_57 : decode cX7_sheet 57 = .ok (.iadd, 1) := by decide +kernel
theorem dX7_sheet_58 : decode cX7_sheet 58 = .ok (.iconst 0, 1) := by decide +kernel
theorem dX7_sheet_59 : decode cX7_sheet 59 = .ok (.iastore, 1) := by decide +kernel
theorem dX7_sheet_60 : decode cX7_sheet 60 = .ok (.iinc 4 1, 3) := by decide +kernel
theorem dX7_sheet_63 : decode cX7_sheet 63 = .ok (.goto (-23), 3) := by decide +kernel
theorem dX7_sheet_66 : decode cX7_sheet 66 = .ok (.iconst 1, 1) := by decide +kernel
theorem dX7_sheet_67 : decode cX7_sheet 67 = .ok (.ireturn, 1) := by decide +kernel
theorem dX7_lay_0 : decode cX7_lay 0 = .ok (.iload_n 1, 1) := by decide +kernel
theorem dX7_lay_1 : decode cX7_lay 1 = .ok (.iconst 0, 1) := by decide +kernel
theorem dX7_lay_2 : decode cX7_lay 2 = .ok (.invokestatic 308, 3) := by decide +kernel
theorem dX7_lay_5 : decode cX7_lay 5 = .ok (.ifCond .ne 5, 3) := by decide +kernel
theorem dX7_lay_8 : decode cX7_lay 8 = .ok (.iconst (-1), 1) := by decide +kernel
theorem dX7_lay_9 : decode cX7_lay 9 = .ok (.ireturn, 1) := by decide +kernel
theorem dX7_lay_10 : decode cX7_lay 10 = .ok (.aload_n 0, 1) := by decide +kernel
theorem dX7_lay_11 : decode cX7_lay 11 = .ok (.getfield 32, 3) := by decide +kernel
theorem dX7_lay_14 : decode cX7_lay 14 = .ok (.iload_n 1, 1) := by decide +kernel
theorem dX7_lay_15 : decode cX7_lay 15 = .ok (.iaload, 1) := by decide +kernel
theorem dX7_lay_16 : decode cX7_lay 16 = .ok (.bipush (-4), 2) := by decide +kernel
theorem dX7_lay_18 : decode cX7_lay 18 = .ok (.if_icmp .ne 6, 3) := by decide +kernel
theorem dX7_lay_21 : decode cX7_lay 21 = .ok (.bipush (-11), 2) := by decide +kernel
theorem dX7_lay_23 : decode cX7_lay 23 = .ok (.ireturn, 1) := by decide +kernel
theorem dX7_lay_24 : decode cX7_lay 24 = .ok (.iload_n 2, 1) := by decide +kernel
theorem dX7_lay_25 : decode cX7_lay 25 = .ok (.i2l, 1) := by decide +kernel
theorem dX7_lay_26 : decode cX7_lay 26 = .ok (.lconst 0, 1) := by decide +kernel
theorem dX7_lay_27 : decode cX7_lay 27 = .ok (.aload_n 0, 1) := by decide +kernel
theorem dX7_lay_28 : decode cX7_lay 28 = .ok (.getfield 35, 3) := by decide +kernel
theorem dX7_lay_31 : decode cX7_lay 31 = .ok (.iload_n 1, 1) := by decide +kernel
theorem dX7_lay_32 : decode cX7_lay 32 = .ok (.iaload, 1) := by decide +kernel
theorem dX7_lay_33 : decode cX7_lay 33 = .ok (.iconst 1, 1) := by decide +kernel
theorem dX7_lay_34 : decode cX7_lay 34 = .ok (.isub, 1) := by decide +kernel
theorem dX7_lay_35 : decode cX7_lay 35 = .ok (.i2l, 1) := by decide +kernel
theorem dX7_lay_36 : decode cX7_lay 36 = .ok (.invokestatic 72, 3) := by decide +kernel
theorem dX7_lay_39 : decode cX7_lay 39 = .ok (.ifCond .ne 6, 3) := by decide +kernel
theorem dX7_lay_42 : decode cX7_lay 42 = .ok (.bipush (-12), 2) := by decide +kernel
theorem dX7_lay_44 : decode cX7_lay 44 = .ok (.ireturn, 1) := by decide +kernel
theorem dX7_lay_45 : decode cX7_lay 45 = .ok (.aload_n 0, 1) := by decide +kernel
theorem dX7_lay_46 : decode cX7_lay 46 = .ok (.getfield 38, 3) := by decide +kernel
theorem dX7_lay_49 : decode cX7_lay 49 = .ok (.bipush 40, 2) := by decide +kernel
theorem dX7_lay_51 : decode cX7_lay 51 = .ok (.iload_n 1, 1) := by decide +kernel
theorem dX7_lay_52 : decode cX7_lay 52 = .ok (.imul, 1) := by decide +kernel
theorem dX7_lay_53 : decode cX7_lay 53 = .ok (.iload_n 2, 1) := by decide +kernel
theorem dX7_lay_54 : decode cX7_lay 54 = .ok (.iadd, 1) := by decide +kernel
theorem dX7_lay_55 : decode cX7_lay 55 = .ok (.aload_n 0, 1) := by decide +kernel
theorem dX7_lay_56 : decode cX7_lay 56 = .ok (.getfield 32, 3) := by decide +kernel
theorem dX7_lay_59 : decode cX7_lay 59 = .ok (.iload_n 1, 1) := by decide +kernel
theorem dX7_lay_60 : decode cX7_lay 60 = .ok (.iaload, 1) := by decide +kernel
theorem dX7_lay_61 : decode cX7_lay 61 = .ok (.ifCond .ne 8, 3) := by decide +kernel
theorem dX7_lay_64 : decode cX7_lay 64 = .ok (.iload_n 3, 1) := by decide +kernel
theorem dX7_lay_65 : decode cX7_lay 65 = .ok (.i2b, 1) := by decide +kernel
theorem dX7_lay_66 : decode cX7_lay 66 = .ok (.goto 19, 3) := by decide +kernel
theorem dX7_lay_69 : decode cX7_lay 69 = .ok (.aload_n 0, 1) := by decide +kernel
theorem dX7_lay_70 : decode cX7_lay 70 = .ok (.getfield 32, 3) := by decide +kernel
theorem dX7_lay_73 : decode cX7_lay 73 = .ok (.iload_n 1, 1) := by decide +kernel
theorem dX7_lay_74 : decode cX7_lay 74 = .ok (.iaload, 1) := by decide +kernel
theorem dX7_lay_75 : decode cX7_lay 75 = .ok (.iconst 1, 1) := by decide +kernel
theorem dX7_lay_76 : decode cX7_lay 76 = .ok (.if_icmp .ne 8, 3) := by decide +kernel
theorem dX7_lay_79 : decode cX7_lay 79 = .ok (.iload_n 3, 1) := by decide +kernel
theorem dX7_lay_80 : decode cX7_lay 80 = .ok (.i2s, 1) := by decide +kernel
theorem dX7_lay_81 : decode cX7_lay 81 = .ok (.goto 4, 3) := by decide +kernel
theorem dX7_lay_84 : decode cX7_lay 84 = .ok (.iload_n 3, 1) := by decide +kernel
theorem dX7_lay_85 : decode cX7_lay 85 = .ok (.iastore, 1) := by decide +kernel
theorem dX7_lay_86 : decode cX7_lay 86 = .ok (.iconst 1, 1) := by decide +kernel
theorem dX7_lay_87 : decode cX7_lay 87 = .ok (.ireturn, 1) := by decide +kernel
theorem dX7_read_0 : decode cX7_read 0 = .ok (.iload_n 1, 1) := by decide +kernel
theorem dX7_read_1 : decode cX7_read 1 = .ok (.iload_n 2, 1) := by decide +kernel
theorem dX7_read_2 : decode cX7_read 2 = .ok (.invokestatic 308, 3) := by decide +kernel
theorem dX7_read_5 : decode cX7_read 5 = .ok (.ifCond .eq 16, 3) := by decide +kernel
theorem dX7_read_8 : decode cX7_read 8 = .ok (.iload 4, 2) := by decide +kernel
theorem dX7_read_10 : decode cX7_read 10 = .ok (.i2l, 1) := by decide +kernel
theorem dX7_read_11 : decode cX7_read 11 = .ok (.lconst 0, 1) := by decide +kernel
theorem dX7_read_12 : decode cX7_read 12 = .ok (.ldc2_w 224, 3) := by decide +kernel
theorem dX7_read_15 : decode cX7_read 15 = .ok (.invokestatic 72, 3) := by decide +kernel
theorem dX7_read_18 : decode cX7_read 18 = .ok (.ifCond .ne 5, 3) := by decide +kernel
theorem dX7_read_21 : decode cX7_read 21 = .ok (.iconst (-1), 1) := by decide +kernel
theorem dX7_read_22 : decode cX7_read 22 = .ok (.ireturn, 1) := by decide +kernel
theorem dX7_read_23 : decode cX7_read 23 = .ok (.iconst 0, 1) := by decide +kernel
theorem dX7_read_24 : decode cX7_read 24 = .ok (.istore 5, 2) := by decide +kernel
theorem dX7_read_26 : decode cX7_read 26 = .ok (.iload 5, 2) := by decide +kernel
theorem dX7_read_28 : decode cX7_read 28 = .ok (.bipush 57, 2) := by decide +kernel
theorem dX7_read_30 : decode cX7_read 30 = .ok (.if_icmp .ge 23, 3) := by decide +kernel
theorem dX7_read_33 : decode cX7_read 33 = .ok (.aload_n 0, 1) := by decide +kernel
theorem dX7_read_34 : decode cX7_read 34 = .ok (.getfield 41, 3) := by decide +kernel
theorem dX7_read_37 : decode cX7_read 37 = .ok (.iload 5, 2) := by decide +kernel
theorem dX7_read_39 : decode cX7_read 39 = .ok (.aload_n 0, 1) := by decide +kernel
theorem dX7_read_40 : decode cX7_read 40 = .ok (.getfield 7, 3) := by decide +kernel
theorem dX7_read_43 : decode cX7_read 43 = .ok (.iload 5, 2) := by decide +kernel
theorem dX7_read_45 : decode cX7_read 45 = .ok (.iaload, 1) := by decide +kernel
theorem dX7_read_46 : decode cX7_read 46 = .ok (.iastore, 1) := by decide +kernel
theorem dX7_read_47 : decode cX7_read 47 = .ok (.iinc 5 1, 3) := by decide +kernel
theorem dX7_read_50 : decode cX7_read 50 = .ok (.goto (-24), 3) := by decide +kernel
theorem dX7_read_53 : decode cX7_read 53 = .ok (.iconst 0, 1) := by decide +kernel
theorem dX7_read_54 : decode cX7_read 54 = .ok (.istore 5, 2) := by decide +kernel
theorem dX7_read_56 : decode cX7_read 56 = .ok (.iconst 0, 1) := by decide +kernel
theorem dX7_read_57 : decode cX7_read 57 = .ok (.istore 6, 2) := by decide +kernel
theorem dX7_read_59 : decode cX7_read 59 = .ok (.iconst 0, 1) := by decide +kernel
theorem dX7_read_60 : decode cX7_read 60 = .ok (.istore 7, 2) := by decide +kernel
theorem dX7_read_62 : decode cX7_read 62 = .ok (.iload 7, 2) := by decide +kernel
theorem dX7_read_64 : decode cX7_read 64 = .ok (.iload 4, 2) := by decide +kernel
theorem dX7_read_66 : decode cX7_read 66 = .ok (.if_icmp .ge 185, 3) := by decide +kernel
theorem dX7_read_69 : decode cX7_read 69 = .ok (.iload 5, 2) := by decide +kernel
theorem dX7_read_71 : decode cX7_read 71 = .ok (.ifCond .ne 180, 3) := by decide +kernel
theorem dX7_read_74 : decode cX7_read 74 = .ok (.iconst 0, 1) := by decide +kernel
theorem dX7_read_75 : decode cX7_read 75 = .ok (.istore 8, 2) := by decide +kernel
theorem dX7_read_77 : decode cX7_read 77 = .ok (.iload 8, 2) := by decide +kernel
theorem dX7_read_79 : decode cX7_read 79 = .ok (.iconst 2, 1) := by decide +kernel
theorem dX7_read_80 : decode cX7_read 80 = .ok (.if_icmp .ge 84, 3) := by decide +kernel
theorem dX7_read_83 : decode cX7_read 83 = .ok (.iload 5, 2) := by decide +kernel
theorem dX7_read_85 : decode cX7_read 85 = .ok (.ifCond .ne 79, 3) := by decide +kernel
theorem dX7_read_88 : decode cX7_read 88 = .ok (.iload_n 3, 1) := by decide +kernel
theorem dX7_read_89 : decode cX7_read 89 = .ok (.i2l, 1) := by decide +kernel
theorem dX7_read_90 : decode cX7_read 90 = .ok (.iconst 2, 1) := by decide +kernel
theorem dX7_read_91 : decode cX7_read 91 = .ok (.iload 7, 2) := by decide +kernel
theorem dX7_read_93 : decode cX7_read 93 = .ok (.imul, 1) := by decide +kernel
theorem dX7_read_94 : decode cX7_read 94 = .ok (.i2l, 1) := by decide +kernel
theorem dX7_read_95 : decode cX7_read 95 = .ok (.ladd, 1) := by decide +kernel
theorem dX7_read_96 : decode cX7_read 96 = .ok (.iload 8, 2) := by decide +kernel
theorem dX7_read_98 : decode cX7_read 98 = .ok (.i2l, 1) := by decide +kernel
theorem dX7_read_99 : decode cX7_read 99 = .ok (.ladd, 1) := by decide +kernel
theorem dX7_read_100 : decode cX7_read 100 = .ok (.lstore 9, 2) := by decide +kernel
theorem dX7_read_102 : decode cX7_read 102 = .ok (.aload_n 0, 1) := by decide +kernel
theorem dX7_read_103 : decode cX7_read 103 = .ok (.getfield 32, 3) := by decide +kernel
theorem dX7_read_106 : decode cX7_read 106 = .ok (.iload_n 1, 1) := by decide +kernel
theorem dX7_read_107 : decode cX7_read 107 = .ok (.iaload, 1) := by decide +kernel
theorem dX7_read_108 : decode cX7_read 108 = .ok (.bipush (-4), 2) := by decide +kernel
theorem dX7_read_110 : decode cX7_read 110 = .ok (.if_icmp .ne 7, 3) := by decide +kernel
theorem dX7_read_113 : decode cX7_read 113 = .ok (.iconst 1, 1) := by decide +kernel
theorem dX7_read_114 : decode cX7_read 114 = .ok (.goto 42, 3) := by decide +kernel
theorem dX7_read_117 : decode cX7_read 117 = .ok (.aload_n 0, 1) := by decide +kernel
theorem dX7_read_118 : decode cX7_read 118 = .ok (.getfield 32, 3) := by decide +kernel
theorem dX7_read_121 : decode cX7_read 121 = .ok (.iload_n 1, 1) := by decide +kernel
theorem dX7_read_122 : decode cX7_read 122 = .ok (.iaload, 1) := by decide +kernel
theorem dX7_read_123 : decode cX7_read 123 = .ok (.iload_n 2, 1) := by decide +kernel
theorem dX7_read_124 : decode cX7_read 124 = .ok (.if_icmp .eq 7, 3) := by decide +kernel
theorem dX7_read_127 : decode cX7_read 127 = .ok (.iconst 3, 1) := by decide +kernel
theorem dX7_read_128 : decode cX7_read 128 = .ok (.goto 28, 3) := by decide +kernel
theorem dX7_read_131 : decode cX7_read 131 = .ok (.lload 9, 2) := by decide +kernel
theorem dX7_read_133 : decode cX7_read 133 = .ok (.lconst 0, 1) := by decide +kernel
theorem dX7_read_134 : decode cX7_read 134 = .ok (.lcmp, 1) := by decide +kernel
theorem dX7_read_135 : decode cX7_read 135 = .ok (.ifCond .lt 16, 3) := by decide +kernel
theorem dX7_read_138 : decode cX7_read 138 = .ok (.lload 9, 2) := by decide +kernel
theorem dX7_read_140 : decode cX7_read 140 = .ok (.aload_n 0, 1) := by decide +kernel
theorem dX7_read_141 : decode cX7_read 141 = .ok (.getfield 35, 3) := by decide +kernel
theorem dX7_read_144 : decode cX7_read 144 = .ok (.iload_n 1, 1) := by decide +kernel
theorem dX7_read_145 : decode cX7_read 145 = .ok (.iaload, 1) := by decide +kernel
theorem dX7_read_146 : decode cX7_read 146 = .ok (.i2l, 1) := by decide +kernel
theorem dX7_read_147 : decode cX7_read 147 = .ok (.lcmp, 1) := by decide +kernel
theorem dX7_read_148 : decode cX7_read 148 = .ok (.ifCond .lt 7, 3) := by decide +kernel
theorem dX7_read_151 : decode cX7_read 151 = .ok (.iconst 2, 1) := by decide +kernel
theorem dX7_read_152 : decode cX7_read 152 = .ok (.goto 4, 3) := by decide +kernel
theorem dX7_read_155 : decode cX7_read 155 = .ok (.iconst 0, 1) := by decide +kernel
theorem dX7_read_156 : decode cX7_read 156 = .ok (.istore 5, 2) := by decide +kernel
theorem dX7_read_158 : decode cX7_read 158 = .ok (.iinc 8 1, 3) := by decide +kernel
theorem dX7_read_161 : decode cX7_read 161 = .ok (.goto (-84), 3) := by decide +kernel
theorem dX7_read_164 : decode cX7_read 164 = .ok (.iload 5, 2) := by decide +kernel
theorem dX7_read_166 : decode cX7_read 166 = .ok (.ifCond .ne 79, 3) := by decide +kernel
theorem dX7_read_169 : decode cX7_read 169 = .ok (.bipush 40, 2) := by decide +kernel
theorem dX7_read_171 : decode cX7_read 171 = .ok (.iload_n 1, 1) := by decide +kernel
theorem dX7_read_172 : decode cX7_read 172 = .ok (.imul, 1) := by decide +kernel
theorem dX7_read_173 : decode cX7_read 173 = .ok (.iload_n 3, 1) := by decide +kernel
theorem dX7_read_174 : decode cX7_read 174 = .ok (.iadd, 1) := by decide +kernel
theorem dX7_read_175 : decode cX7_read 175 = .ok (.iconst 2, 1) := by decide +kernel
theorem dX7_read_176 : decode cX7_read 176 = .ok (.iload 7, 2) := by decide +kernel
theorem dX7_read_178 : decode cX7_read 178 = .ok (.imul, 1) := by decide +kernel
theorem dX7_read_179 : decode cX7_read 179 = .ok (.iadd, 1) := by decide +kernel
theorem dX7_read_180 : decode cX7_read 180 = .ok (.istore 8, 2) := by decide +kernel
theorem dX7_read_182 : decode cX7_read 182 = .ok (.aload_n 0, 1) := by decide +kernel
theorem dX7_read_183 : decode cX7_read 183 = .ok (.aload_n 0, 1) := by decide +kernel
theorem dX7_read_184 : decode cX7_read 184 = .ok (.getfield 38, 3) := by decide +kernel
theorem dX7_read_187 : decode cX7_read 187 = .ok (.iload 8, 2) := by decide +kernel
theorem dX7_read_189 : decode cX7_read 189 = .ok (.iaload, 1) := by decide +kernel
theorem dX7_read_190 : decode cX7_read 190 = .ok (.iconst 1, 1) := by decide +kernel
theorem dX7_read_191 : decode cX7_read 191 = .ok (.aload_n 0, 1) := by decide +kernel
theorem dX7_read_192 : decode cX7_read 192 = .ok (.getfield 38, 3) := by decide +kernel
theorem dX7_read_195 : decode cX7_read 195 = .ok (.iload 8, 2) := by decide +kernel
theorem dX7_read_197 : decode cX7_read 197 = .ok (.iconst 1, 1) := by decide +kernel
theorem dX7_read_198 : decode cX7_read 198 = .ok (.iadd, 1) := by decide +kernel
theorem dX7_read_199 : decode cX7_read 199 = .ok (.iaload, 1) := by decide +kernel
theorem dX7_read_200 : decode cX7_read 200 = .ok (.invokevirtual 311, 3) := by decide +kernel
theorem dX7_read_203 : decode cX7_read 203 = .ok (.ifCond .ge 39, 3) := by decide +kernel
theorem dX7_read_206 : decode cX7_read 206 = .ok (.iconst 0, 1) := by decide +kernel
theorem dX7_read_207 : decode cX7_read 207 = .ok (.istore 9, 2) := by decide +kernel
theorem dX7_read_209 : decode cX7_read 209 = .ok (.iload 9, 2) := by decide +kernel
theorem dX7_read_211 : decode cX7_read 211 = .ok (.bipush 57, 2) := by decide +kernel
theorem dX7_read_213 : decode cX7_read 213 = .ok (.if_icmp .ge 23, 3) := by decide +kernel
theorem dX7_read_216 : decode cX7_read 216 = .ok (.aload_n 0, 1) := by decide +kernel
theorem dX7_read_217 : decode cX7_read 217 = .ok (.getfield 7, 3) := by decide +kernel
theorem dX7_read_220 : decode cX7_read 220 = .ok (.iload 9, 2) := by decide +kernel
theorem dX7_read_222 : decode cX7_read 222 = .ok (.aload_n 0, 1) := by decide +kernel
theorem dX7_read_223 : decode cX7_read 223 = .ok (.getfield 41, 3) := by decide +kernel
theorem dX7_read_226 : decode cX7_read 226 = .ok (.iload 9, 2) := by decide +kernel
theorem dX7_read_228 : decode cX7_read 228 = .ok (.iaload, 1) := by decide +kernel
theorem dX7_read_229 : decode cX7_read 229 = .ok (.iastore, 1) := by decide +kernel
theorem dX7_read_230 : decode cX7_read 230 = .ok (.iinc 9 1, 3) := by decide +kernel
theorem dX7_read_233 : decode cX7_read 233 = .ok (.goto (-24), 3) := by decide +kernel
theorem dX7_read_236 : decode cX7_read 236 = .ok (.bipush (-20), 2) := by decide +kernel
theorem dX7_read_238 : decode cX7_read 238 = .ok (.iload 7, 2) := by decide +kernel
theorem dX7_read_240 : decode cX7_read 240 = .ok (.isub, 1) := by decide +kernel
theorem dX7_read_241 : decode cX7_read 241 = .ok (.ireturn, 1) := by decide +kernel
theorem dX7_read_242 : decode cX7_read 242 = .ok (.iinc 6 1, 3) := by decide +kernel
theorem dX7_read_245 : decode cX7_read 245 = .ok (.iinc 7 1, 3) := by decide +kernel
theorem dX7_read_248 : decode cX7_read 248 = .ok (.goto (-186), 3) := by decide +kernel
theorem dX7_read_251 : decode cX7_read 251 = .ok (.aload_n 0, 1) := by decide +kernel
theorem dX7_read_252 : decode cX7_read 252 = .ok (.iload 5, 2) := by decide +kernel
theorem dX7_read_254 : decode cX7_read 254 = .ok (.putfield 315, 3) := by decide +kernel
theorem dX7_read_257 : decode cX7_read 257 = .ok (.iload 6, 2) := by decide +kernel
theorem dX7_read_259 : decode cX7_read 259 = .ok (.ireturn, 1) := by decide +kernel
theorem dX7_torn_0 : decode cX7_torn 0 = .ok (.aload_n 0, 1) := by decide +kernel
theorem dX7_torn_1 : decode cX7_torn 1 = .ok (.getfield 315, 3) := by decide +kernel
theorem dX7_torn_4 : decode cX7_torn 4 = .ok (.ireturn, 1) := by decide +kernel
theorem dX7_count_0 : decode cX7_count 0 = .ok (.iconst 0, 1) := by decide +kernel
theorem dX7_count_1 : decode cX7_count 1 = .ok (.istore_n 2, 1) := by decide +kernel
theorem dX7_count_2 : decode cX7_count 2 = .ok (.iconst 0, 1) := by decide +kernel
theorem dX7_count_3 : decode cX7_count 3 = .ok (.istore_n 3, 1) := by decide +kernel
theorem dX7_count_4 : decode cX7_count 4 = .ok (.iconst 0, 1) := by decide +kernel
theorem dX7_count_5 : decode cX7_count 5 = .ok (.istore 4, 2) := by decide +kernel
theorem dX7_count_7 : decode cX7_count 7 = .ok (.iload 4, 2) := by decide +kernel
theorem dX7_count_9 : decode cX7_count 9 = .ok (.aload_n 0, 1) := by decide +kernel
theorem dX7_count_10 : decode cX7_count 10 = .ok (.getfield 67, 3) := by decide +kernel
theorem dX7_count_13 : decode cX7_count 13 = .ok (.if_icmp .ge 26, 3) := by decide +kernel
theorem dX7_count_16 : decode cX7_count 16 = .ok (.iload_n 2, 1) := by decide +kernel
theorem dX7_count_17 : decode cX7_count 17 = .ok (.aload_n 0, 1) := by decide +kernel
theorem dX7_count_18 : decode cX7_count 18 = .ok (.getfield 7, 3) := by decide +kernel
theorem dX7_count_21 : decode cX7_count 21 = .ok (.bipush 12, 2) := by decide +kernel
theorem dX7_count_23 : decode cX7_count 23 = .ok (.iconst 4, 1) := by decide +kernel
theorem dX7_count_24 : decode cX7_count 24 = .ok (.iload 4, 2) := by decide +kernel
theorem dX7_count_26 : decode cX7_count 26 = .ok (.imul, 1) := by decide +kernel
theorem dX7_count_27 : decode cX7_count 27 = .ok (.iadd, 1) := by decide +kernel
theorem dX7_count_28 : decode cX7_count 28 = .ok (.iconst 2, 1) := by decide +kernel
theorem dX7_count_29 : decode cX7_count 29 = .ok (.iadd, 1) := by decide +kernel
theorem dX7_count_30 : decode cX7_count 30 = .ok (.iaload, 1) := by decide +kernel
theorem dX7_count_31 : decode cX7_count 31 = .ok (.iadd, 1) := by decide +kernel
theorem dX7_count_32 : decode cX7_count 32 = .ok (.istore_n 2, 1) := by decide +kernel
theorem dX7_count_33 : decode cX7_count 33 = .ok (.iinc 4 1, 3) := by decide +kernel
theorem dX7_count_36 : decode cX7_count 36 = .ok (.goto (-29), 3) := by decide +kernel
theorem dX7_count_39 : decode cX7_count 39 = .ok (.iconst 0, 1) := by decide +kernel
theorem dX7_count_40 : decode cX7_count 40 = .ok (.istore 4, 2) := by decide +kernel
theorem dX7_count_42 : decode cX7_count 42 = .ok (.iload 4, 2) := by decide +kernel
theorem dX7_count_44 : decode cX7_count 44 = .ok (.bipush 12, 2) := by decide +kernel
theorem dX7_count_46 : decode cX7_count 46 = .ok (.if_icmp .ge 19, 3) := by decide +kernel
theorem dX7_count_49 : decode cX7_count 49 = .ok (.iload_n 3, 1) := by decide +kernel
theorem dX7_count_50 : decode cX7_count 50 = .ok (.aload_n 0, 1) := by decide +kernel
theorem dX7_count_51 : decode cX7_count 51 = .ok (.getfield 7, 3) := by decide +kernel
theorem dX7_count_54 : decode cX7_count 54 = .ok (.iload 4, 2) := by decide +kernel
theorem dX7_count_56 : decode cX7_count 56 = .ok (.iaload, 1) := by decide +kernel
theorem dX7_count_57 : decode cX7_count 57 = .ok (.iadd, 1) := by decide +kernel
theorem dX7_count_58 : decode cX7_count 58 = .ok (.istore_n 3, 1) := by decide +kernel
theorem dX7_count_59 : decode cX7_count 59 = .ok (.iinc 4 1, 3) := by decide +kernel
theorem dX7_count_62 : decode cX7_count 62 = .ok (.goto (-20), 3) := by decide +kernel
theorem dX7_count_65 : decode cX7_count 65 = .ok (.iload_n 1, 1) := by decide +kernel
theorem dX7_count_66 : decode cX7_count 66 = .ok (.tableswitch 98 0 5 #[38, 46, 66, 71, 94, 96], 38) := by decide +kernel
theorem dX7_count_104 : decode cX7_count 104 = .ok (.aload_n 0, 1) := by decide +kernel
theorem dX7_count_105 : decode cX7_count 105 = .ok (.getfield 7, 3) := by decide +kernel
theorem dX7_count_108 : decode cX7_count 108 = .ok (.bipush 38, 2) := by decide +kernel
theorem dX7_count_110 : decode cX7_count 110 = .ok (.iaload, 1) := by decide +kernel
theorem dX7_count_111 : decode cX7_count 111 = .ok (.ireturn, 1) := by decide +kernel
theorem dX7_count_112 : decode cX7_count 112 = .ok (.aload_n 0, 1) := by decide +kernel
theorem dX7_count_113 : decode cX7_count 113 = .ok (.getfield 16, 3) := by decide +kernel
theorem dX7_count_116 : decode cX7_count 116 = .ok (.iconst 0, 1) := by decide +kernel
theorem dX7_count_117 : decode cX7_count 117 = .ok (.baload, 1) := by decide +kernel
theorem dX7_count_118 : decode cX7_count 118 = .ok (.invokestatic 194, 3) := by decide +kernel
theorem dX7_count_121 : decode cX7_count 121 = .ok (.aload_n 0, 1) := by decide +kernel
theorem dX7_count_122 : decode cX7_count 122 = .ok (.getfield 16, 3) := by decide +kernel
theorem dX7_count_125 : decode cX7_count 125 = .ok (.iconst 1, 1) := by decide +kernel
theorem dX7_count_126 : decode cX7_count 126 = .ok (.baload, 1) := by decide +kernel
theorem dX7_count_127 : decode cX7_count 127 = .ok (.invokestatic 194, 3) := by decide +kernel
theorem dX7_count_130 : decode cX7_count 130 = .ok (.iadd, 1) := by decide +kernel
theorem dX7_count_131 : decode cX7_count 131 = .ok (.ireturn, 1) := by decide +kernel
theorem dX7_count_132 : decode cX7_count 132 = .ok (.aload_n 0, 1) := by decide +kernel
theorem dX7_count_133 : decode cX7_count 133 = .ok (.getfield 76, 3) := by decide +kernel
theorem dX7_count_136 : decode cX7_count 136 = .ok (.ireturn, 1) := by decide +kernel
theorem dX7_count_137 : decode cX7_count 137 = .ok (.aload_n 0, 1) := by decide +kernel
theorem dX7_count_138 : decode cX7_count 138 = .ok (.getfield 32, 3) := by decide +kernel
theorem dX7_count_141 : decode cX7_count 141 = .ok (.iconst 0, 1) := by decide +kernel
theorem dX7_count_142 : decode cX7_count 142 = .ok (.iaload, 1) := by decide +kernel
theorem dX7_count_143 : decode cX7_count 143 = .ok (.bipush (-4), 2) := by decide +kernel
theorem dX7_count_145 : decode cX7_count 145 = .ok (.if_icmp .ne 8, 3) := by decide +kernel
theorem dX7_count_148 : decode cX7_count 148 = .ok (.bipush (-4), 2) := by decide +kernel
theorem dX7_count_150 : decode cX7_count 150 = .ok (.goto 9, 3) := by decide +kernel
theorem dX7_count_153 : decode cX7_count 153 = .ok (.aload_n 0, 1) := by decide +kernel
theorem dX7_count_154 : decode cX7_count 154 = .ok (.getfield 35, 3) := by decide +kernel
theorem dX7_count_157 : decode cX7_count 157 = .ok (.iconst 0, 1) := by decide +kernel
theorem dX7_count_158 : decode cX7_count 158 = .ok (.iaload, 1) := by decide +kernel
theorem dX7_count_159 : decode cX7_count 159 = .ok (.ireturn, 1) := by decide +kernel
theorem dX7_count_160 : decode cX7_count 160 = .ok (.iload_n 2, 1) := by decide +kernel
theorem dX7_count_161 : decode cX7_count 161 = .ok (.ireturn, 1) := by decide +kernel
theorem dX7_count_162 : decode cX7_count 162 = .ok (.iload_n 3, 1) := by decide +kernel
theorem dX7_count_163 : decode cX7_count 163 = .ok (.ireturn, 1) := by decide +kernel
theorem dX7_count_164 : decode cX7_count 164 = .ok (.iconst (-1), 1) := by decide +kernel
theorem dX7_count_165 : decode cX7_count 165 = .ok (.ireturn, 1) := by decide +kernel
