theorem dX0_init_0 : decode cX0_init 0 = .ok (.aload_n 0, 1) := by decide +kernel
theorem dX0_init_1 : decode cX0_init 1 = .ok (.invokespecial 1, 3) := by decide +kernel
theorem dX0_init_4 : decode cX0_init 4 = .ok (.aload_n 0, 1) := by decide +kernel
theorem dX0_init_5 : decode cX0_init 5 = .ok (.new 7, 3) := by decide +kernel
theorem dX0_init_8 : decode cX0_init 8 = .ok (.dup, 1) := by decide +kernel
theorem dX0_init_9 : decode cX0_init 9 = .ok (.invokespecial 9, 3) := by decide +kernel
theorem dX0_init_12 : decode cX0_init 12 = .ok (.putfield 10, 3) := by decide +kernel
theorem dX0_init_15 : decode cX0_init 15 = .ok (.aload_n 0, 1) := by decide +kernel
theorem dX0_init_16 : decode cX0_init 16 = .ok (.new 16, 3) := by decide +kernel
theorem dX0_init_19 : decode cX0_init 19 = .ok (.dup, 1) := by decide +kernel
theorem dX0_init_20 : decode cX0_init 20 = .ok (.invokespecial 18, 3) := by decide +kernel
theorem dX0_init_23 : decode cX0_init 23 = .ok (.putfield 19, 3) := by decide +kernel
theorem dX0_init_26 : decode cX0_init 26 = .ok (.return_, 1) := by decide +kernel
theorem dX1_init_0 : decode cX1_init 0 = .ok (.aload_n 0, 1) := by decide +kernel
theorem dX1_init_1 : decode cX1_init 1 = .ok (.invokespecial 3, 3) := by decide +kernel
theorem dX1_init_4 : decode cX1_init 4 = .ok (.aload_n 0, 1) := by decide +kernel
theorem dX1_init_5 : decode cX1_init 5 = .ok (.bipush 40, 2) := by decide +kernel
theorem dX1_init_7 : decode cX1_init 7 = .ok (.newarray .int, 2) := by decide +kernel
theorem dX1_init_9 : decode cX1_init 9 = .ok (.putfield 9, 3) := by decide +kernel
theorem dX1_init_12 : decode cX1_init 12 = .ok (.aload_n 0, 1) := by decide +kernel
theorem dX1_init_13 : decode cX1_init 13 = .ok (.iconst (-1), 1) := by decide +kernel
theorem dX1_init_14 : decode cX1_init 14 = .ok (.putfield 15, 3) := by decide +kernel
theorem dX1_init_17 : decode cX1_init 17 = .ok (.return_, 1) := by decide +kernel
theorem dX1_makeNew_0 : decode cX1_makeNew 0 = .ok (.aload_n 0, 1) := by decide +kernel
theorem dX1_makeNew_1 : decode cX1_makeNew 1 = .ok (.getfield 9, 3) := by decide +kernel
theorem dX1_makeNew_4 : decode cX1_makeNew 4 = .ok (.iconst 0, 1) := by decide +kernel
theorem dX1_makeNew_5 : decode cX1_makeNew 5 = .ok (.invokestatic 19, 3) := by decide +kernel
theorem dX1_makeNew_8 : decode cX1_makeNew 8 = .ok (.aload_n 0, 1) := by decide +kernel
theorem dX1_makeNew_9 : decode cX1_makeNew 9 = .ok (.iload_n 1, 1) := by decide +kernel
theorem dX1_makeNew_10 : decode cX1_makeNew 10 = .ok (.putfield 15, 3) := by decide +kernel
theorem dX1_makeNew_13 : decode cX1_makeNew 13 = .ok (.aload_n 0, 1) := by decide +kernel
theorem dX1_makeNew_14 : decode cX1_makeNew 14 = .ok (.iload_n 2, 1) := by decide +kernel
theorem dX1_makeNew_15 : decode cX1_makeNew 15 = .ok (.putfield 25, 3) := by decide +kernel
theorem dX1_makeNew_18 : decode cX1_makeNew 18 = .ok (.return_, 1) := by decide +kernel
theorem dX1_isNothing_0 : decode cX1_isNothing 0 = .ok (.aload_n 0, 1) := by decide +kernel
theorem dX1_isNothing_1 : decode cX1_isNothing 1 = .ok (.getfield 15, 3) := by decide +kernel
theorem dX1_isNothing_4 : decode cX1_isNothing 4 = .ok (.iconst (-1), 1) := by decide +kernel
theorem dX1_isNothing_5 : decode cX1_isNothing 5 = .ok (.if_icmp .ne 7, 3) := by decide +kernel
theorem dX1_isNothing_8 : decode cX1_isNothing 8 = .ok (.iconst 1, 1) := by decide +kernel
theorem dX1_isNothing_9 : decode cX1_isNothing 9 = .ok (.goto 4, 3) := by decide +kernel
theorem dX1_isNothing_12 : decode cX1_isNothing 12 = .ok (.iconst 0, 1) := by decide +kernel
theorem dX1_isNothing_13 : decode cX1_isNothing 13 = .ok (.ireturn, 1) := by decide +kernel
theorem dX1_faultAt_0 : decode cX1_faultAt 0 = .ok (.aload_n 0, 1) := by decide +kernel
theorem dX1_faultAt_1 : decode cX1_faultAt 1 = .ok (.invokevirtual 28, 3) := by decide +kernel
theorem dX1_faultAt_4 : decode cX1_faultAt 4 = .ok (.ifCond .eq 5, 3) := by decide +kernel
theorem dX1_faultAt_7 : decode cX1_faultAt 7 = .ok (.iconst 1, 1) := by decide +kernel
theorem dX1_faultAt_8 : decode cX1_faultAt 8 = .ok (.ireturn, 1) := by decide +kernel
theorem dX1_faultAt_9 : decode cX1_faultAt 9 = .ok (.iload_n 1, 1) := by decide +kernel
theorem dX1_faultAt_10 : decode cX1_faultAt 10 = .ok (.aload_n 0, 1) := by decide +kernel
theorem dX1_faultAt_11 : decode cX1_faultAt 11 = .ok (.getfield 25, 3) := by decide +kernel
theorem dX1_faultAt_14 : decode cX1_faultAt 14 = .ok (.iconst 1, 1) := by decide +kernel
theorem dX1_faultAt_15 : decode cX1_faultAt 15 = .ok (.isub, 1) := by decide +kernel
theorem dX1_faultAt_16 : decode cX1_faultAt 16 = .ok (.invokestatic 32, 3) := by decide +kernel
theorem dX1_faultAt_19 : decode cX1_faultAt 19 = .ok (.ifCond .eq 7, 3) := by decide +kernel
theorem dX1_faultAt_22 : decode cX1_faultAt 22 = .ok (.iconst 0, 1) := by decide +kernel
theorem dX1_faultAt_23 : decode cX1_faultAt 23 = .ok (.goto 4, 3) := by decide +kernel
theorem dX1_faultAt_26 : decode cX1_faultAt 26 = .ok (.iconst 2, 1) := by decide +kernel
theorem dX1_faultAt_27 : decode cX1_faultAt 27 = .ok (.ireturn, 1) := by decide +kernel
theorem dX1_faultAtPair_0 : decode cX1_faultAtPair 0 = .ok (.aload_n 0, 1) := by decide +kernel
theorem dX1_faultAtPair_1 : decode cX1_faultAtPair 1 = .ok (.invokevirtual 28, 3) := by decide +kernel
theorem dX1_faultAtPair_4 : decode cX1_faultAtPair 4 = .ok (.ifCond .ne 13, 3) := by decide +kernel
theorem dX1_faultAtPair_7 : decode cX1_faultAtPair 7 = .ok (.aload_n 0, 1) := by decide +kernel
theorem dX1_faultAtPair_8 : decode cX1_faultAtPair 8 = .ok (.getfield 15, 3) := by decide +kernel
theorem dX1_faultAtPair_11 : decode cX1_faultAtPair 11 = .ok (.iload_n 1, 1) := by decide +kernel
theorem dX1_faultAtPair_12 : decode cX1_faultAtPair 12 = .ok (.if_icmp .eq 5, 3) := by decide +kernel
theorem dX1_faultAtPair_15 : decode cX1_faultAtPair 15 = .ok (.iconst 3, 1) := by decide +kernel
theorem dX1_faultAtPair_16 : decode cX1_faultAtPair 16 = .ok (.ireturn, 1) := by decide +kernel
theorem dX1_faultAtPair_17 : decode cX1_faultAtPair 17 = .ok (.aload_n 0, 1) := by decide +kernel
theorem dX1_faultAtPair_18 : decode cX1_faultAtPair 18 = .ok (.iload_n 2, 1) := by decide +kernel
theorem dX1_faultAtPair_19 : decode cX1_faultAtPair 19 = .ok (.invokevirtual 36, 3) := by decide +kernel
theorem dX1_faultAtPair_22 : decode cX1_faultAtPair 22 = .ok (.istore_n 3, 1) := by decide +kernel
theorem dX1_faultAtPair_23 : decode cX1_faultAtPair 23 = .ok (.iload_n 3, 1) := by decide +kernel
theorem dX1_faultAtPair_24 : decode cX1_faultAtPair 24 = .ok (.ifCond .eq 7, 3) := by decide +kernel
theorem dX1_faultAtPair_27 : decode cX1_faultAtPair 27 = .ok (.iload_n 3, 1) := by decide +kernel
theorem dX1_faultAtPair_28 : decode cX1_faultAtPair 28 = .ok (.goto 10, 3) := by decide +kernel
theorem dX1_faultAtPair_31 : decode cX1_faultAtPair 31 = .ok (.aload_n 0, 1) := by decide +kernel
theorem dX1_faultAtPair_32 : decode cX1_faultAtPair 32 = .ok (.iload_n 2, 1) := by decide +kernel
theorem dX1_faultAtPair_33 : decode cX1_faultAtPair 33 = .ok (.iconst 1, 1) := by decide +kernel
theorem dX1_faultAtPair_34 : decode cX1_faultAtPair 34 = .ok (.iadd, 1) := by decide +kernel
theorem dX1_faultAtPair_35 : decode cX1_faultAtPair 35 = .ok (.invokevirtual 36, 3) := by decide +kernel
theorem dX1_faultAtPair_38 : decode cX1_faultAtPair 38 = .ok (.ireturn, 1) := by decide +kernel
theorem dX1_lowestBits_0 : decode cX1_lowestBits 0 = .ok (.aload_n 0, 1) := by decide +kernel
theorem dX1_lowestBits_1 : decode cX1_lowestBits 1 = .ok (.getfield 15, 3) := by decide +kernel
theorem dX1_lowestBits_4 : decode cX1_lowestBits 4 = .ok (.lookupswitch 34 #[(0, 28), (1, 31)], 28) := by decide +kernel
theorem dX1_lowestBits_32 : decode cX1_lowestBits 32 = .ok (.iload_n 1, 1) := by decide +kernel
theorem dX1_lowestBits_33 : decode cX1_lowestBits 33 = .ok (.i2b, 1) := by decide +kernel
theorem dX1_lowestBits_34 : decode cX1_lowestBits 34 = .ok (.ireturn, 1) := by decide +kernel
theorem dX1_lowestBits_35 : decode cX1_lowestBits 35 = .ok (.iload_n 1, 1) := by decide +kernel
theorem dX1_lowestBits_36 : decode cX1_lowestBits 36 = .ok (.i2s, 1) := by decide +kernel
theorem dX1_lowestBits_37 : decode cX1_lowestBits 37 = .ok (.ireturn, 1) := by decide +kernel
theorem dX1_lowestBits_38 : decode cX1_lowestBits 38 = .ok (.iload_n 1, 1) := by decide +kernel
theorem dX1_lowestBits_39 : decode cX1_lowestBits 39 = .ok (.ireturn, 1) := by decide +kernel
theorem dX2_init_0 : decode cX2_init 0 = .ok (.aload_n 0, 1) := by decide +kernel
theorem dX2_init_1 : decode cX2_init 1 = .ok (.invokespecial 3, 3) := by decide +kernel
theorem dX2_init_4 : decode cX2_init 4 = .ok (.aload_n 0, 1) := by decide +kernel
theorem dX2_init_5 : decode cX2_init 5 = .ok (.bipush 6, 2) := by decide +kernel
theorem dX2_init_7 : decode cX2_init 7 = .ok (.newarray .int, 2) := by decide +kernel
theorem dX2_init_9 : decode cX2_init 9 = .ok (.putfield 9, 3) := by decide +kernel
theorem dX2_init_12 : decode cX2_init 12 = .ok (.aload_n 0, 1) := by decide +kernel
theorem dX2_init_13 : decode cX2_init 13 = .ok (.bipush 6, 2) := by decide +kernel
theorem dX2_init_15 : decode cX2_init 15 = .ok (.newarray .int, 2) := by decide +kernel
theorem dX2_init_17 : decode cX2_init 17 = .ok (.putfield 15, 3) := by decide +kernel
theorem dX2_init_20 : decode cX2_init 20 = .ok (.aload_n 0, 1) := by decide +kernel
theorem dX2_init_21 : decode cX2_init 21 = .ok (.bipush 6, 2) := by decide +kernel
theorem dX2_init_23 : decode cX2_init 23 = .ok (.newarray .int, 2) := by decide +kernel
theorem dX2_init_25 : decode cX2_init 25 = .ok (.putfield 18, 3) := by decide +kernel
theorem dX2_init_28 : decode cX2_init 28 = .ok (.return_, 1) := by decide +kernel
theorem dX2_become_0 : decode cX2_become 0 = .ok (.aload_n 1, 1) := by decide +kernel
theorem dX2_become_1 : decode cX2_become 1 = .ok (.getfield 9, 3) := by decide +kernel
theorem dX2_become_4 : decode cX2_become 4 = .ok (.iconst 0, 1) := by decide +kernel
theorem dX2_become_5 : decode cX2_become 5 = .ok (.aload_n 0, 1) := by decide +kernel
theorem dX2_become_6 : decode cX2_become 6 = .ok (.getfield 9, 3) := by decide +kernel
theorem dX2_become_9 : decode cX2_become 9 = .ok (.iconst 0, 1) := by decide +kernel
theorem dX2_become_10 : decode cX2_become 10 = .ok (.bipush 6, 2) := by decide +kernel
theorem dX2_become_12 : decode cX2_become 12 = .ok (.invokestatic 21, 3) := by decide +kernel
theorem dX2_become_15 : decode cX2_become 15 = .ok (.aload_n 1, 1) := by decide +kernel
theorem dX2_become_16 : decode cX2_become 16 = .ok (.getfield 15, 3) := by decide +kernel
theorem dX2_become_19 : decode cX2_become 19 = .ok (.iconst 0, 1) := by decide +kernel
theorem dX2_become_20 : decode cX2_become 20 = .ok (.aload_n 0, 1) := by decide +kernel
theorem dX2_become_21 : decode cX2_become 21 = .ok (.getfield 15, 3) := by decide +kernel
theorem dX2_become_24 : decode cX2_become 24 = .ok (.iconst 0, 1) := by decide +kernel
theorem dX2_become_25 : decode cX2_become 25 = .ok (.bipush 6, 2) := by decide +kernel
theorem dX2_become_27 : decode cX2_become 27 = .ok (.invokestatic 21, 3) := by decide +kernel
theorem dX2_become_30 : decode cX2_become 30 = .ok (.aload_n 1, 1) := by decide +kernel
theorem dX2_become_31 : decode cX2_become 31 = .ok (.getfield 18, 3) := by decide +kernel
theorem dX2_become_34 : decode cX2_become 34 = .ok (.iconst 0, 1) := by decide +kernel
theorem dX2_become_35 : decode cX2_become 35 = .ok (.aload_n 0, 1) := by decide +kernel
theorem dX2_become_36 : decode cX2_become 36 = .ok (.getfield 18, 3) := by decide +kernel
theorem dX2_become_39 : decode cX2_become 39 = .ok (.iconst 0, 1) := by decide +kernel
theorem dX2_become_40 : decode cX2_become 40 = .ok (.bipush 6, 2) := by decide +kernel
theorem dX2_become_42 : decode cX2_become 42 = .ok (.invokestatic 21, 3) := by decide +kernel
theorem dX2_become_45 : decode cX2_become 45 = .ok (.aload_n 0, 1) := by decide +kernel
theorem dX2_become_46 : decode cX2_become 46 = .ok (.aload_n 1, 1) := by decide +kernel
theorem dX2_become_47 : decode cX2_become 47 = .ok (.getfield 27, 3) := by decide +kernel
theorem dX2_become_50 : decode cX2_become 50 = .ok (.putfield 27, 3) := by decide +kernel
theorem dX2_become_53 : decode cX2_become 53 = .ok (.return_, 1) := by decide +kernel
theorem dX2_add_0 : decode cX2_add 0 = .ok (.aload_n 0, 1) := by decide +kernel
theorem dX2_add_1 : decode cX2_add 1 = .ok (.getfield 9, 3) := by decide +kernel
theorem dX2_add_4 : decode cX2_add 4 = .ok (.aload_n 0, 1) := by decide +kernel
theorem dX2_add_5 : decode cX2_add 5 = .ok (.getfield 27, 3) := by decide +kernel
theorem dX2_add_8 : decode cX2_add 8 = .ok (.iload_n 1, 1) := by decide +kernel
theorem dX2_add_9 : decode cX2_add 9 = .ok (.iastore, 1) := by decide +kernel
theorem dX2_add_10 : decode cX2_add 10 = .ok (.aload_n 0, 1) := by decide +kernel
theorem dX2_add_11 : decode cX2_add 11 = .ok (.getfield 15, 3) := by decide +kernel
theorem dX2_add_14 : decode cX2_add 14 = .ok (.aload_n 0, 1) := by decide +kernel
theorem dX2_add_15 : decode cX2_add 15 = .ok (.getfield 27, 3) := by decide +kernel
theorem dX2_add_18 : decode cX2_add 18 = .ok (.iload_n 2, 1) := by decide +kernel
theorem dX2_add_19 : decode cX2_add 19 = .ok (.iastore, 1) := by decide +kernel
theorem dX2_add_20 : decode cX2_add 20 = .ok (.aload_n 0, 1) := by decide +kernel
theorem dX2_add_21 : decode cX2_add 21 = .ok (.getfield 18, 3) := by decide +kernel
theorem dX2_add_24 : decode cX2_add 24 = .ok (.aload_n 0, 1) := by decide +kernel
theorem dX2_add_25 : decode cX2_add 25 = .ok (.getfield 27, 3) := by decide +kernel
theorem dX2_add_28 : decode cX2_add 28 = .ok (.iload_n 3, 1) := by decide +kernel
theorem dX2_add_29 : decode cX2_add 29 = .ok (.iastore, 1) := by decide +kernel
theorem dX2_add_30 : decode cX2_add 30 = .ok (.aload_n 0, 1) := by decide +kernel
theorem dX2_add_31 : decode cX2_add 31 = .ok (.dup, 1) := by decide +kernel
theorem dX2_add_32 : decode cX2_add 32 = .ok (.getfield 27, 3) := by decide +kernel
theorem dX2_add_35 : decode cX2_add 35 = .ok (.iconst 1, 1) := by decide +kernel
theorem dX2_add_36 : decode cX2_add 36 = .ok (.iadd, 1) := by decide +kernel
theorem dX2_add_37 : decode cX2_add 37 = .ok (.putfield 27, 3) := by decide +kernel
theorem dX2_add_40 : decode cX2_add 40 = .ok (.return_, 1) := by decide +kernel
theorem dX2_lastDay_0 : decode cX2_lastDay 0 = .ok (.iconst (-1), 1) := by decide +kernel
theorem dX2_lastDay_1 : decode cX2_lastDay 1 = .ok (.istore_n 1, 1) := by decide +kernel
theorem dX2_lastDay_2 : decode cX2_lastDay 2 = .ok (.iconst 0, 1) := by decide +kernel
theorem dX2_lastDay_3 : decode cX2_lastDay 3 = .ok (.istore_n 2, 1) := by decide +kernel
theorem dX2_lastDay_4 : decode cX2_lastDay 4 = .ok (.iload_n 2, 1) := by decide +kernel
theorem dX2_lastDay_5 : decode cX2_lastDay 5 = .ok (.aload_n 0, 1) := by decide +kernel
theorem dX2_lastDay_6 : decode cX2_lastDay 6 = .ok (.getfield 27, 3) := by decide +kernel
theorem dX2_lastDay_9 : decode cX2_lastDay 9 = .ok (.if_icmp .ge 20, 3) := by decide +kernel
theorem dX2_lastDay_12 : decode cX2_lastDay 12 = .ok (.iload_n 1, 1) := by decide +kernel
theorem dX2_lastDay_13 : decode cX2_lastDay 13 = .ok (.aload_n 0, 1) := by decide +kernel
theorem dX2_lastDay_14 : decode cX2_lastDay 14 = .ok (.getfield 9, 3) := by decide +kernel
theorem dX2_lastDay_17 : decode cX2_lastDay 17 = .ok (.iload_n 2, 1) := by decide +kernel
theorem dX2_lastDay_18 : decode cX2_lastDay 18 = .ok (.iaload, 1) := by decide +kernel
theorem dX2_lastDay_19 : decode cX2_lastDay 19 = .ok (.invokestatic 31, 3) := by decide +kernel
theorem dX2_lastDay_22 : decode cX2_lastDay 22 = .ok (.istore_n 1, 1) := by decide +kernel
theorem dX2_lastDay_23 : decode cX2_lastDay 23 = .ok (.iinc 2 1, 3) := by decide +kernel
theorem dX2_lastDay_26 : decode cX2_lastDay 26 = .ok (.goto (-22), 3) := by decide +kernel
theorem dX2_lastDay_29 : decode cX2_lastDay 29 = .ok (.iload_n 1, 1) := by decide +kernel
theorem dX2_lastDay_30 : decode cX2_lastDay 30 = .ok (.ireturn, 1) := by decide +kernel
theorem dX2_fits_0 : decode cX2_fits 0 = .ok (.iconst 0, 1) := by decide +kernel
theorem dX2_fits_1 : decode cX2_fits 1 = .ok (.istore_n 3, 1) := by decide +kernel
theorem dX2_fits_2 : decode cX2_fits 2 = .ok (.iload_n 3, 1) := by decide +kernel
theorem dX2_fits_3 : decode cX2_fits 3 = .ok (.aload_n 0, 1) := by decide +kernel
theorem dX2_fits_4 : decode cX2_fits 4 = .ok (.getfield 27, 3) := by decide +kernel
theorem dX2_fits_7 : decode cX2_fits 7 = .ok (.if_icmp .ge 41, 3) := by decide +kernel
theorem dX2_fits_10 : decode cX2_fits 10 = .ok (.aload_n 0, 1) := by decide +kernel
theorem dX2_fits_11 : decode cX2_fits 11 = .ok (.getfield 9, 3) := by decide +kernel
theorem dX2_fits_14 : decode cX2_fits 14 = .ok (.iload_n 3, 1) := by decide +kernel
theorem dX2_fits_15 : decode cX2_fits 15 = .ok (.iaload, 1) := by decide +kernel
theorem dX2_fits_16 : decode cX2_fits 16 = .ok (.iload_n 1, 1) := by decide +kernel
theorem dX2_fits_17 : decode cX2_fits 17 = .ok (.if_icmp .ne 25, 3) := by decide +kernel
theorem dX2_fits_20 : decode cX2_fits 20 = .ok (.aload_n 2, 1) := by decide +kernel
theorem dX2_fits_21 : decode cX2_fits 21 = .ok (.getfield 37, 3) := by decide +kernel
theorem dX2_fits_24 : decode cX2_fits 24 = .ok (.aload_n 0, 1) := by decide +kernel
theorem dX2_fits_25 : decode cX2_fits 25 = .ok (.getfield 15, 3) := by decide +kernel
theorem dX2_fits_28 : decode cX2_fits 28 = .ok (.iload_n 3, 1) := by decide +kernel
theorem dX2_fits_29 : decode cX2_fits 29 = .ok (.iaload, 1) := by decide +kernel
theorem dX2_fits_30 : decode cX2_fits 30 = .ok (.iaload, 1) := by decide +kernel
theorem dX2_fits_31 : decode cX2_fits 31 = .ok (.aload_n 0, 1) := by decide +kernel
theorem dX2_fits_32 : decode cX2_fits 32 = .ok (.getfield 18, 3) := by decide +kernel
theorem dX2_fits_35 : decode cX2_fits 35 = .ok (.iload_n 3, 1) := by decide +kernel
theorem dX2_fits_36 : decode cX2_fits 36 = .ok (.iaload, 1) := by decide +kernel
theorem dX2_fits_37 : decode cX2_fits 37 = .ok (.if_icmp .eq 5, 3) := by decide +kernel
theorem dX2_fits_40 : decode cX2_fits 40 = .ok (.iconst 0, 1) := by decide +kernel
theorem dX2_fits_41 : decode cX2_fits 41 = .ok (.ireturn, 1) := by decide +kernel
theorem dX2_fits_42 : decode cX2_fits 42 = .ok (.iinc 3 1, 3) := by decide +kernel
theorem dX2_fits_45 : decode cX2_fits 45 = .ok (.goto (-43), 3) := by decide +kernel
theorem dX2_fits_48 : decode cX2_fits 48 = .ok (.iconst 1, 1) := by decide +kernel
theorem dX2_fits_49 : decode cX2_fits 49 = .ok (.ireturn, 1) := by decide +kernel
theorem dX3_init_0 : decode cX3_init 0 = .ok (.aload_n 0, 1) := by decide +kernel
theorem dX3_init_1 : decode cX3_init 1 = .ok (.invokespecial 3, 3) := by decide +kernel
theorem dX3_init_4 : decode cX3_init 4 = .ok (.aload_n 0, 1) := by decide +kernel
theorem dX3_init_5 : decode cX3_init 5 = .ok (.sipush 160, 3) := by decide +kernel
theorem dX3_init_8 : decode cX3_init 8 = .ok (.newarray .byte, 2) := by decide +kernel
theorem dX3_init_10 : decode cX3_init 10 = .ok (.putfield 9, 3) := by decide +kernel
theorem dX3_init_13 : decode cX3_init 13 = .ok (.return_, 1) := by decide +kernel
theorem dX4_init_0 : decode cX4_init 0 = .ok (.aload_n 0, 1) := by decide +kernel
theorem dX4_init_1 : decode cX4_init 1 = .ok (.invokespecial 3, 3) := by decide +kernel
theorem dX4_init_4 : decode cX4_init 4 = .ok (.aload_n 0, 1) := by decide +kernel
theorem dX4_init_5 : decode cX4_init 5 = .ok (.new 9, 3) := by decide +kernel
theorem dX4_init_8 : decode cX4_init 8 = .ok (.dup, 1) := by decide +kernel
theorem dX4_init_9 : decode cX4_init 9 = .ok (.invokespecial 11, 3) := by decide +kernel
theorem dX4_init_12 : decode cX4_init 12 = .ok (.putfield 12, 3) := by decide +kernel
theorem dX4_init_15 : decode cX4_init 15 = .ok (.aload_n 0, 1) := by decide +kernel
theorem dX4_init_16 : decode cX4_init 16 = .ok (.new 18, 3) := by decide +kernel
theorem dX4_init_19 : decode cX4_init 19 = .ok (.dup, 1) := by decide +kernel
theorem dX4_init_20 : decode cX4_init 20 = .ok (.invokespecial 20, 3) := by decide +kernel
theorem dX4_init_23 : decode cX4_init 23 = .ok (.putfield 21, 3) := by decide +kernel
theorem dX4_init_26 : decode cX4_init 26 = .ok (.return_, 1) := by decide +kernel
theorem dX4_takesAll_0 : decode cX4_takesAll 0 = .ok (.aload_n 0, 1) := by decide +kernel
theorem dX4_takesAll_1 : decode cX4_takesAll 1 = .ok (.getfield 21, 3) := by decide +kernel
theorem dX4_takesAll_4 : decode cX4_takesAll 4 = .ok (.invokevirtual 25, 3) := by decide +kernel
theorem dX4_takesAll_7 : decode cX4_takesAll 7 = .ok (.aload_n 0, 1) := by decide +kernel
theorem dX4_takesAll_8 : decode cX4_takesAll 8 = .ok (.iconst 0, 1) := by decide +kernel
theorem dX4_takesAll_9 : decode cX4_takesAll 9 = .ok (.putfield 28, 3) := by decide +kernel
theorem dX4_takesAll_12 : decode cX4_takesAll 12 = .ok (.aload_n 0, 1) := by decide +kernel
theorem dX4_takesAll_13 : decode cX4_takesAll 13 = .ok (.iconst 0, 1) := by decide +kernel
theorem dX4_takesAll_14 : decode cX4_takesAll 14 = .ok (.putfield 32, 3) := by decide +kernel
theorem dX4_takesAll_17 : decode cX4_takesAll 17 = .ok (.aload_n 0, 1) := by decide +kernel
theorem dX4_takesAll_18 : decode cX4_takesAll 18 = .ok (.iconst 0, 1) := by decide +kernel
theorem dX4_takesAll_19 : decode cX4_takesAll 19 = .ok (.putfield 35, 3) := by decide +kernel
theorem dX4_takesAll_22 : decode cX4_takesAll 22 = .ok (.aload_n 0, 1) := by decide +kernel
theorem dX4_takesAll_23 : decode cX4_takesAll 23 = .ok (.iconst 0, 1) := by decide +kernel
theorem dX4_takesAll_24 : decode cX4_takesAll 24 = .ok (.putfield 38, 3) := by decide +kernel
theorem dX4_takesAll_27 : decode cX4_takesAll 27 = .ok (.aload_n 0, 1) := by decide +kernel
theorem dX4_takesAll_28 : decode cX4_takesAll 28 = .ok (.getfield 38, 3) := by decide +kernel
theorem dX4_takesAll_31 : decode cX4_takesAll 31 = .ok (.sipush 160, 3) := by decide +kernel
theorem dX4_takesAll_34 : decode cX4_takesAll 34 = .ok (.if_icmp .gt 43, 3) := by decide +kernel
theorem dX4_takesAll_37 : decode cX4_takesAll 37 = .ok (.aload_n 0, 1) := by decide +kernel
theorem dX4_takesAll_38 : decode cX4_takesAll 38 = .ok (.invokevirtual 41, 3) := by decide +kernel
theorem dX4_takesAll_41 : decode cX4_takesAll 41 = .ok (.ifCond .ne 5, 3) := by decide +kernel
theorem dX4_takesAll_44 : decode cX4_takesAll 44 = .ok (.iconst 0, 1) := by decide +kernel
theorem dX4_takesAll_45 : decode cX4_takesAll 45 = .ok (.ireturn, 1) := by decide +kernel
theorem dX4_takesAll_46 : decode cX4_takesAll 46 = .ok (.aload_n 0, 1) := by decide +kernel
theorem dX4_takesAll_47 : decode cX4_takesAll 47 = .ok (.getfield 45, 3) := by decide +kernel
theorem dX4_takesAll_50 : decode cX4_takesAll 50 = .ok (.ifCond .ne 5, 3) := by decide +kernel
theorem dX4_takesAll_53 : decode cX4_takesAll 53 = .ok (.iconst 1, 1) := by decide +kernel
theorem dX4_takesAll_54 : decode cX4_takesAll 54 = .ok (.ireturn, 1) := by decide +kernel
theorem dX4_takesAll_55 : decode cX4_takesAll 55 = .ok (.aload_n 0, 1) := by decide +kernel
theorem dX4_takesAll_56 : decode cX4_takesAll 56 = .ok (.invokevirtual 48, 3) := by decide +kernel
theorem dX4_takesAll_59 : decode cX4_takesAll 59 = .ok (.ifCond .ne 5, 3) := by decide +kernel
theorem dX4_takesAll_62 : decode cX4_takesAll 62 = .ok (.iconst 0, 1) := by decide +kernel
theorem dX4_takesAll_63 : decode cX4_takesAll 63 = .ok (.ireturn, 1) := by decide +kernel
theorem dX4_takesAll_64 : decode cX4_takesAll 64 = .ok (.aload_n 0, 1) := by decide +kernel
theorem dX4_takesAll_65 : decode cX4_takesAll 65 = .ok (.dup, 1) := by decide +kernel
theorem dX4_takesAll_66 : decode cX4_takesAll 66 = .ok (.getfield 38, 3) := by decide +kernel
theorem dX4_takesAll_69 : decode cX4_takesAll 69 = .ok (.iconst 1, 1) := by decide +kernel
theorem dX4_takesAll_70 : decode cX4_takesAll 70 = .ok (.iadd, 1) := by decide +kernel
theorem dX4_takesAll_71 : decode cX4_takesAll 71 = .ok (.putfield 38, 3) := by decide +kernel
theorem dX4_takesAll_74 : decode cX4_takesAll 74 = .ok (.goto (-47), 3) := by decide +kernel
theorem dX4_takesAll_77 : decode cX4_takesAll 77 = .ok (.iconst 1, 1) := by decide +kernel
theorem dX4_takesAll_78 : decode cX4_takesAll 78 = .ok (.ireturn, 1) := by decide +kernel
theorem dX4_refuses_0 : decode cX4_refuses 0 = .ok (.aload_n 0, 1) := by decide +kernel
theorem dX4_refuses_1 : decode cX4_refuses 1 = .ok (.iload_n 1, 1) := by decide +kernel
theorem dX4_refuses_2 : decode cX4_refuses 2 = .ok (.putfield 35, 3) := by decide +kernel
theorem dX4_refuses_5 : decode cX4_refuses 5 = .ok (.iconst 0, 1) := by decide +kernel
theorem dX4_refuses_6 : decode cX4_refuses 6 = .ok (.ireturn, 1) := by decide +kernel
theorem dX4_takesLine_0 : decode cX4_takesLine 0 = .ok (.aload_n 0, 1) := by decide +kernel
theorem dX4_takesLine_1 : decode cX4_takesLine 1 = .ok (.getfield 45, 3) := by decide +kernel
theorem dX4_takesLine_4 : decode cX4_takesLine 4 = .ok (.iconst 1, 1) := by decide +kernel
theorem dX4_takesLine_5 : decode cX4_takesLine 5 = .ok (.if_icmp .ne 10, 3) := by decide +kernel
theorem dX4_takesLine_8 : decode cX4_takesLine 8 = .ok (.aload_n 0, 1) := by decide +kernel
theorem dX4_takesLine_9 : decode cX4_takesLine 9 = .ok (.invokevirtual 51, 3) := by decide +kernel
theorem dX4_takesLine_12 : decode cX4_takesLine 12 = .ok (.goto 5, 3) := by decide +kernel
theorem dX4_takesLine_15 : decode cX4_takesLine 15 = .ok (.bipush 7, 2) := by decide +kernel
theorem dX4_takesLine_17 : decode cX4_takesLine 17 = .ok (.istore_n 1, 1) := by decide +kernel
theorem dX4_takesLine_18 : decode cX4_takesLine 18 = .ok (.iload_n 1, 1) := by decide +kernel
theorem dX4_takesLine_19 : decode cX4_takesLine 19 = .ok (.bipush 7, 2) := by decide +kernel
theorem dX4_takesLine_21 : decode cX4_takesLine 21 = .ok (.if_icmp .lt 9, 3) := by decide +kernel
theorem dX4_takesLine_24 : decode cX4_takesLine 24 = .ok (.aload_n 0, 1) := by decide +kernel
theorem dX4_takesLine_25 : decode cX4_takesLine 25 = .ok (.iconst 2, 1) := by decide +kernel
theorem dX4_takesLine_26 : decode cX4_takesLine 26 = .ok (.invokevirtual 55, 3) := by decide +kernel
theorem dX4_takesLine_29 : decode cX4_takesLine 29 = .ok (.ireturn, 1) := by decide +kernel
theorem dX4_takesLine_30 : decode cX4_takesLine 30 = .ok (.iload_n 1, 1) := by decide +kernel
theorem dX4_takesLine_31 : decode cX4_takesLine 31 = .ok (.iconst 4, 1) := by decide +kernel
theorem dX4_takesLine_32 : decode cX4_takesLine 32 = .ok (.if_icmp .ge 9, 3) := by decide +kernel
theorem dX4_takesLine_35 : decode cX4_takesLine 35 = .ok (.aload_n 0, 1) := by decide +kernel
theorem dX4_takesLine_36 : decode cX4_takesLine 36 = .ok (.iload_n 1, 1) := by decide +kernel
theorem dX4_takesLine_37 : decode cX4_takesLine 37 = .ok (.invokevirtual 59, 3) := by decide +kernel
theorem dX4_takesLine_40 : decode cX4_takesLine 40 = .ok (.ireturn, 1) := by decide +kernel
theorem dX4_takesLine_41 : decode cX4_takesLine 41 = .ok (.aload_n 0, 1) := by decide +kernel
theorem dX4_takesLine_42 : decode cX4_takesLine 42 = .ok (.getfield 32, 3) := by decide +kernel
theorem dX4_takesLine_45 : decode cX4_takesLine 45 = .ok (.iload_n 1, 1) := by decide +kernel
theorem dX4_takesLine_46 : decode cX4_takesLine 46 = .ok (.ishr, 1) := by decide +kernel
theorem dX4_takesLine_47 : decode cX4_takesLine 47 = .ok (.iconst 1, 1) := by decide +kernel
theorem dX4_takesLine_48 : decode cX4_takesLine 48 = .ok (.iand, 1) := by decide +kernel
theorem dX4_takesLine_49 : decode cX4_takesLine 49 = .ok (.iconst 1, 1) := by decide +kernel
theorem dX4_takesLine_50 : decode cX4_takesLine 50 = .ok (.if_icmp .ne 9, 3) := by decide +kernel
theorem dX4_takesLine_53 : decode cX4_takesLine 53 = .ok (.aload_n 0, 1) := by decide +kernel
theorem dX4_takesLine_54 : decode cX4_takesLine 54 = .ok (.iconst 4, 1) := by decide +kernel
theorem dX4_takesLine_55 : decode cX4_takesLine 55 = .ok (.invokevirtual 55, 3) := by decide +kernel
theorem dX4_takesLine_58 : decode cX4_takesLine 58 = .ok (.ireturn, 1) := by decide +kernel
theorem dX4_takesLine_59 : decode cX4_takesLine 59 = .ok (.aload_n 0, 1) := by decide +kernel
theorem dX4_takesLine_60 : decode cX4_takesLine 60 = .ok (.dup, 1) := by decide +kernel
theorem dX4_takesLine_61 : decode cX4_takesLine 61 = .ok (.getfield 32, 3) := by decide +kernel
theorem dX4_takesLine_64 : decode cX4_takesLine 64 = .ok (.iconst 1, 1) := by decide +kernel
theorem dX4_takesLine_65 : decode cX4_takesLine 65 = .ok (.iload_n 1, 1) := by decide +kernel
theorem dX4_takesLine_66 : decode cX4_takesLine 66 = .ok (.ishl, 1) := by decide +kernel
theorem dX4_takesLine_67 : decode cX4_takesLine 67 = .ok (.ior, 1) := by decide +kernel
theorem dX4_takesLine_68 : decode cX4_takesLine 68 = .ok (.putfield 32, 3) := by decide +kernel
theorem dX4_takesLine_71 : decode cX4_takesLine 71 = .ok (.iload_n 1, 1) := by decide +kernel
theorem dX4_takesLine_72 : decode cX4_takesLine 72 = .ok (.lookupswitch 47 #[(4, 28), (5, 42)], 28) := by decide +kernel
theorem dX4_takesLine_100 : decode cX4_takesLine 100 = .ok (.aload_n 0, 1) := by decide +kernel
theorem dX4_takesLine_101 : decode cX4_takesLine 101 = .ok (.aload_n 0, 1) := by decide +kernel
theorem dX4_takesLine_102 : decode cX4_takesLine 102 = .ok (.getfield 21, 3) := by decide +kernel
theorem dX4_takesLine_105 : decode cX4_takesLine 105 = .ok (.getfield 62, 3) := by decide +kernel
theorem dX4_takesLine_108 : decode cX4_takesLine 108 = .ok (.bipush 9, 2) := by decide +kernel
theorem dX4_takesLine_110 : decode cX4_takesLine 110 = .ok (.invokevirtual 66, 3) := by decide +kernel
theorem dX4_takesLine_113 : decode cX4_takesLine 113 = .ok (.ireturn, 1) := by decide +kernel
theorem dX4_takesLine_114 : decode cX4_takesLine 114 = .ok (.aload_n 0, 1) := by decide +kernel
theorem dX4_takesLine_115 : decode cX4_takesLine 115 = .ok (.invokevirtual 70, 3) := by decide +kernel
theorem dX4_takesLine_118 : decode cX4_takesLine 118 = .ok (.ireturn, 1) := by decide +kernel
theorem dX4_takesLine_119 : decode cX4_takesLine 119 = .ok (.aload_n 0, 1) := by decide +kernel
theorem dX4_takesLine_120 : decode cX4_takesLine 120 = .ok (.invokevirtual 73, 3) := by decide +kernel
theorem dX4_takesLine_123 : decode cX4_takesLine 123 = .ok (.ireturn, 1) := by decide +kernel
theorem dX4_takesGlove_0 : decode cX4_takesGlove 0 = .ok (.aload_n 0, 1) := by decide +kernel
theorem dX4_takesGlove_1 : decode cX4_takesGlove 1 = .ok (.getfield 21, 3) := by decide +kernel
theorem dX4_takesGlove_4 : decode cX4_takesGlove 4 = .ok (.getfield 76, 3) := by decide +kernel
theorem dX4_takesGlove_7 : decode cX4_takesGlove 7 = .ok (.istore_n 2, 1) := by decide +kernel
theorem dX4_takesGlove_8 : decode cX4_takesGlove 8 = .ok (.iload_n 2, 1) := by decide +kernel
theorem dX4_takesGlove_9 : decode cX4_takesGlove 9 = .ok (.iconst 4, 1) := by decide +kernel
theorem dX4_takesGlove_10 : decode cX4_takesGlove 10 = .ok (.if_icmp .lt 9, 3) := by decide +kernel
theorem dX4_takesGlove_13 : decode cX4_takesGlove 13 = .ok (.aload_n 0, 1) := by decide +kernel
theorem dX4_takesGlove_14 : decode cX4_takesGlove 14 = .ok (.iconst 5, 1) := by decide +kernel
theorem dX4_takesGlove_15 : decode cX4_takesGlove 15 = .ok (.invokevirtual 55, 3) := by decide +kernel
theorem dX4_takesGlove_18 : decode cX4_takesGlove 18 = .ok (.ireturn, 1) := by decide +kernel
theorem dX4_takesGlove_19 : decode cX4_takesGlove 19 = .ok (.aload_n 0, 1) := by decide +kernel
theorem dX4_takesGlove_20 : decode cX4_takesGlove 20 = .ok (.getfield 21, 3) := by decide +kernel
theorem dX4_takesGlove_23 : decode cX4_takesGlove 23 = .ok (.getfield 79, 3) := by decide +kernel
theorem dX4_takesGlove_26 : decode cX4_takesGlove 26 = .ok (.iload_n 2, 1) := by decide +kernel
theorem dX4_takesGlove_27 : decode cX4_takesGlove 27 = .ok (.iload_n 1, 1) := by decide +kernel
theorem dX4_takesGlove_28 : decode cX4_takesGlove 28 = .ok (.iastore, 1) := by decide +kernel
theorem dX4_takesGlove_29 : decode cX4_takesGlove 29 = .ok (.aload_n 0, 1) := by decide +kernel
theorem dX4_takesGlove_30 : decode cX4_takesGlove 30 = .ok (.bipush 11, 2) := by decide +kernel
theorem dX4_takesGlove_32 : decode cX4_takesGlove 32 = .ok (.invokevirtual 82, 3) := by decide +kernel
theorem dX4_takesGlove_35 : decode cX4_takesGlove 35 = .ok (.ifCond .ne 5, 3) := by decide +kernel
theorem dX4_takesGlove_38 : decode cX4_takesGlove 38 = .ok (.iconst 0, 1) := by decide +kernel
theorem dX4_takesGlove_39 : decode cX4_takesGlove 39 = .ok (.ireturn, 1) := by decide +kernel
theorem dX4_takesGlove_40 : decode cX4_takesGlove 40 = .ok (.aload_n 0, 1) := by decide +kernel
theorem dX4_takesGlove_41 : decode cX4_takesGlove 41 = .ok (.getfield 21, 3) := by decide +kernel
theorem dX4_takesGlove_44 : decode cX4_takesGlove 44 = .ok (.getfield 85, 3) := by decide +kernel
theorem dX4_takesGlove_47 : decode cX4_takesGlove 47 = .ok (.iload_n 2, 1) := by decide +kernel
theorem dX4_takesGlove_48 : decode cX4_takesGlove 48 = .ok (.aload_n 0, 1) := by decide +kernel
theorem dX4_takesGlove_49 : decode cX4_takesGlove 49 = .ok (.getfield 88, 3) := by decide +kernel
theorem dX4_takesGlove_52 : decode cX4_takesGlove 52 = .ok (.iastore, 1) := by decide +kernel
theorem dX4_takesGlove_53 : decode cX4_takesGlove 53 = .ok (.aload_n 0, 1) := by decide +kernel
theorem dX4_takesGlove_54 : decode cX4_takesGlove 54 = .ok (.bipush 20, 2) := by decide +kernel
theorem dX4_takesGlove_56 : decode cX4_takesGlove 56 = .ok (.invokevirtual 82, 3) := by decide +kernel
theorem dX4_takesGlove_59 : decode cX4_takesGlove 59 = .ok (.ifCond .ne 5, 3) := by decide +kernel
theorem dX4_takesGlove_62 : decode cX4_takesGlove 62 = .ok (.iconst 0, 1) := by decide +kernel
theorem dX4_takesGlove_63 : decode cX4_takesGlove 63 = .ok (.ireturn, 1) := by decide +kernel
theorem dX4_takesGlove_64 : decode cX4_takesGlove 64 = .ok (.aload_n 0, 1) := by decide +kernel
theorem dX4_takesGlove_65 : decode cX4_takesGlove 65 = .ok (.getfield 21, 3) := by decide +kernel
theorem dX4_takesGlove_68 : decode cX4_takesGlove 68 = .ok (.getfield 91, 3) := by decide +kernel
theorem dX4_takesGlove_71 : decode cX4_takesGlove 71 = .ok (.iload_n 2, 1) := by decide +kernel
theorem dX4_takesGlove_72 : decode cX4_takesGlove 72 = .ok (.aload_n 0, 1) := by decide +kernel
theorem dX4_takesGlove_73 : decode cX4_takesGlove 73 = .ok (.getfield 88, 3) := by decide +kernel
theorem dX4_takesGlove_76 : decode cX4_takesGlove 76 = .ok (.iastore, 1) := by decide +kernel
theorem dX4_takesGlove_77 : decode cX4_takesGlove 77 = .ok (.aload_n 0, 1) := by decide +kernel
theorem dX4_takesGlove_78 : decode cX4_takesGlove 78 = .ok (.getfield 21, 3) := by decide +kernel
theorem dX4_takesGlove_81 : decode cX4_takesGlove 81 = .ok (.dup, 1) := by decide +kernel
theorem dX4_takesGlove_82 : decode cX4_takesGlove 82 = .ok (.getfield 76, 3) := by decide +kernel
theorem dX4_takesGlove_85 : decode cX4_takesGlove 85 = .ok (.iconst 1, 1) := by decide +kernel
theorem dX4_takesGlove_86 : decode cX4_takesGlove 86 = .ok (.iadd, 1) := by decide +kernel
theorem dX4_takesGlove_87 : decode cX4_takesGlove 87 = .ok (.putfield 76, 3) := by decide +kernel
theorem dX4_takesGlove_90 : decode cX4_takesGlove 90 = .ok (.aload_n 0, 1) := by decide +kernel
theorem dX4_takesGlove_91 : decode cX4_takesGlove 91 = .ok (.invokevirtual 94, 3) := by decide +kernel
theorem dX4_takesGlove_94 : decode cX4_takesGlove 94 = .ok (.ireturn, 1) := by decide +kernel
theorem dX4_takesRoute_0 : decode cX4_takesRoute 0 = .ok (.aload_n 0, 1) := by decide +kernel
theorem dX4_takesRoute_1 : decode cX4_takesRoute 1 = .ok (.aload_n 0, 1) := by decide +kernel
theorem dX4_takesRoute_2 : decode cX4_takesRoute 2 = .ok (.getfield 21, 3) := by decide +kernel
theorem dX4_takesRoute_5 : decode cX4_takesRoute 5 = .ok (.getfield 97, 3) := by decide +kernel
theorem dX4_takesRoute_8 : decode cX4_takesRoute 8 = .ok (.bipush 11, 2) := by decide +kernel
theorem dX4_takesRoute_10 : decode cX4_takesRoute 10 = .ok (.invokevirtual 66, 3) := by decide +kernel
theorem dX4_takesRoute_13 : decode cX4_takesRoute 13 = .ok (.istore_n 1, 1) := by decide +kernel
theorem dX4_takesRoute_14 : decode cX4_takesRoute 14 = .ok (.aload_n 0, 1) := by decide +kernel
theorem dX4_takesRoute_15 : decode cX4_takesRoute 15 = .ok (.getfield 21, 3) := by decide +kernel
theorem dX4_takesRoute_18 : decode cX4_takesRoute 18 = .ok (.aload_n 0, 1) := by decide +kernel
theorem dX4_takesRoute_19 : decode cX4_takesRoute 19 = .ok (.getfield 100, 3) := by decide +kernel
theorem dX4_takesRoute_22 : decode cX4_takesRoute 22 = .ok (.putfield 103, 3) := by decide +kernel
theorem dX4_takesRoute_25 : decode cX4_takesRoute 25 = .ok (.iload_n 1, 1) := by decide +kernel
theorem dX4_takesRoute_26 : decode cX4_takesRoute 26 = .ok (.ireturn, 1) := by decide +kernel
theorem dX4_takesMan_0 : decode cX4_takesMan 0 = .ok (.aload_n 0, 1) := by decide +kernel
theorem dX4_takesMan_1 : decode cX4_takesMan 1 = .ok (.bipush 11, 2) := by decide +kernel
theorem dX4_takesMan_3 : decode cX4_takesMan 3 = .ok (.invokevirtual 82, 3) := by decide +kernel
theorem dX4_takesMan_6 : decode cX4_takesMan 6 = .ok (.ifCond .ne 5, 3) := by decide +kernel
theorem dX4_takesMan_9 : decode cX4_takesMan 9 = .ok (.iconst 0, 1) := by decide +kernel
theorem dX4_takesMan_10 : decode cX4_takesMan 10 = .ok (.ireturn, 1) := by decide +kernel
theorem dX4_takesMan_11 : decode cX4_takesMan 11 = .ok (.aload_n 0, 1) := by decide +kernel
theorem dX4_takesMan_12 : decode cX4_takesMan 12 = .ok (.getfield 21, 3) := by decide +kernel
theorem dX4_takesMan_15 : decode cX4_takesMan 15 = .ok (.aload_n 0, 1) := by decide +kernel
theorem dX4_takesMan_16 : decode cX4_takesMan 16 = .ok (.getfield 88, 3) := by decide +kernel
theorem dX4_takesMan_19 : decode cX4_takesMan 19 = .ok (.putfield 106, 3) := by decide +kernel
theorem dX4_takesMan_22 : decode cX4_takesMan 22 = .ok (.aload_n 0, 1) := by decide +kernel
theorem dX4_takesMan_23 : decode cX4_takesMan 23 = .ok (.invokevirtual 94, 3) := by decide +kernel
theorem dX4_takesMan_26 : decode cX4_takesMan 26 = .ok (.ireturn, 1) := by decide +kernel
theorem dX4_takesRow_0 : decode cX4_takesRow 0 = .ok (.aload_n 0, 1) := by decide +kernel
theorem dX4_takesRow_1 : decode cX4_takesRow 1 = .ok (.iconst 0, 1) := by decide +kernel
theorem dX4_takesRow_2 : decode cX4_takesRow 2 = .ok (.putfield 100, 3) := by decide +kernel
theorem dX4_takesRow_5 : decode cX4_takesRow 5 = .ok (.aload_n 0, 1) := by decide +kernel
theorem dX4_takesRow_6 : decode cX4_takesRow 6 = .ok (.getfield 100, 3) := by decide +kernel
theorem dX4_takesRow_9 : decode cX4_takesRow 9 = .ok (.aload_n 1, 1) := by decide +kernel
theorem dX4_takesRow_10 : decode cX4_takesRow 10 = .ok (.arraylength, 1) := by decide +kernel
theorem dX4_takesRow_11 : decode cX4_takesRow 11 = .ok (.if_icmp .gt 88, 3) := by decide +kernel
theorem dX4_takesRow_14 : decode cX4_takesRow 14 = .ok (.aload_n 0, 1) := by decide +kernel
theorem dX4_takesRow_15 : decode cX4_takesRow 15 = .ok (.invokevirtual 41, 3) := by decide +kernel
theorem dX4_takesRow_18 : decode cX4_takesRow 18 = .ok (.ifCond .ne 5, 3) := by decide +kernel
theorem dX4_takesRow_21 : decode cX4_takesRow 21 = .ok (.iconst 0, 1) := by decide +kernel
theorem dX4_takesRow_22 : decode cX4_takesRow 22 = .ok (.ireturn, 1) := by decide +kernel
theorem dX4_takesRow_23 : decode cX4_takesRow 23 = .ok (.aload_n 0, 1) := by decide +kernel
theorem dX4_takesRow_24 : decode cX4_takesRow 24 = .ok (.getfield 45, 3) := by decide +kernel
theorem dX4_takesRow_27 : decode cX4_takesRow 27 = .ok (.iconst 3, 1) := by decide +kernel
theorem dX4_takesRow_28 : decode cX4_takesRow 28 = .ok (.if_icmp .ne 5, 3) := by decide +kernel
theorem dX4_takesRow_31 : decode cX4_takesRow 31 = .ok (.iconst 1, 1) := by decide +kernel
theorem dX4_takesRow_32 : decode cX4_takesRow 32 = .ok (.ireturn, 1) := by decide +kernel
theorem dX4_takesRow_33 : decode cX4_takesRow 33 = .ok (.aload_n 0, 1) := by decide +kernel
theorem dX4_takesRow_34 : decode cX4_takesRow 34 = .ok (.getfield 45, 3) := by decide +kernel
theorem dX4_takesRow_37 : decode cX4_takesRow 37 = .ok (.iconst 2, 1) := by decide +kernel
theorem dX4_takesRow_38 : decode cX4_takesRow 38 = .ok (.if_icmp .eq 9, 3) := by decide +kernel
theorem dX4_takesRow_41 : decode cX4_takesRow 41 = .ok (.aload_n 0, 1) := by decide +kernel
theorem dX4_takesRow_42 : decode cX4_takesRow 42 = .ok (.iconst 2, 1) := by decide +kernel
theorem dX4_takesRow_43 : decode cX4_takesRow 43 = .ok (.invokevirtual 55, 3) := by decide +kernel
theorem dX4_takesRow_46 : decode cX4_takesRow 46 = .ok (.ireturn, 1) := by decide +kernel
theorem dX4_takesRow_47 : decode cX4_takesRow 47 = .ok (.aload_n 0, 1) := by decide +kernel
theorem dX4_takesRow_48 : decode cX4_takesRow 48 = .ok (.getfield 100, 3) := by decide +kernel
theorem dX4_takesRow_51 : decode cX4_takesRow 51 = .ok (.aload_n 1, 1) := by decide +kernel
theorem dX4_takesRow_52 : decode cX4_takesRow 52 = .ok (.arraylength, 1) := by decide +kernel
theorem dX4_takesRow_53 : decode cX4_takesRow 53 = .ok (.if_icmp .ne 9, 3) := by decide +kernel
theorem dX4_takesRow_56 : decode cX4_takesRow 56 = .ok (.aload_n 0, 1) := by decide +kernel
theorem dX4_takesRow_57 : decode cX4_takesRow 57 = .ok (.iconst 5, 1) := by decide +kernel
theorem dX4_takesRow_58 : decode cX4_takesRow 58 = .ok (.invokevirtual 55, 3) := by decide +kernel
theorem dX4_takesRow_61 : decode cX4_takesRow 61 = .ok (.ireturn, 1) := by decide +kernel
theorem dX4_takesRow_62 : decode cX4_takesRow 62 = .ok (.aload_n 0, 1) := by decide +kernel
theorem dX4_takesRow_63 : decode cX4_takesRow 63 = .ok (.getfield 88, 3) := by decide +kernel
theorem dX4_takesRow_66 : decode cX4_takesRow 66 = .ok (.iload_n 2, 1) := by decide +kernel
theorem dX4_takesRow_67 : decode cX4_takesRow 67 = .ok (.if_icmp .le 9, 3) := by decide +kernel
theorem dX4_takesRow_70 : decode cX4_takesRow 70 = .ok (.aload_n 0, 1) := by decide +kernel
theorem dX4_takesRow_71 : decode cX4_takesRow 71 = .ok (.iconst 3, 1) := by decide +kernel
theorem dX4_takesRow_72 : decode cX4_takesRow 72 = .ok (.invokevirtual 55, 3) := by decide +kernel
theorem dX4_takesRow_75 : decode cX4_takesRow 75 = .ok (.ireturn, 1) := by decide +kernel
theorem dX4_takesRow_76 : decode cX4_takesRow 76 = .ok (.aload_n 1, 1) := by decide +kernel
theorem dX4_takesRow_77 : decode cX4_takesRow 77 = .ok (.aload_n 0, 1) := by decide +kernel
theorem dX4_takesRow_78 : decode cX4_takesRow 78 = .ok (.getfield 100, 3) := by decide +kernel
theorem dX4_takesRow_81 : decode cX4_takesRow 81 = .ok (.aload_n 0, 1) := by decide +kernel
theorem dX4_takesRow_82 : decode cX4_takesRow 82 = .ok (.getfield 88, 3) := by decide +kernel
theorem dX4_takesRow_85 : decode cX4_takesRow 85 = .ok (.iastore, 1) := by decide +kernel
theorem dX4_takesRow_86 : decode cX4_takesRow 86 = .ok (.aload_n 0, 1) := by decide +kernel
theorem dX4_takesRow_87 : decode cX4_takesRow 87 = .ok (.dup, 1) := by decide +kernel
theorem dX4_takesRow_88 : decode cX4_takesRow 88 = .ok (.getfield 100, 3) := by decide +kernel
theorem dX4_takesRow_91 : decode cX4_takesRow 91 = .ok (.iconst 1, 1) := by decide +kernel
theorem dX4_takesRow_92 : decode cX4_takesRow 92 = .ok (.iadd, 1) := by decide +kernel
theorem dX4_takesRow_93 : decode cX4_takesRow 93 = .ok (.putfield 100, 3) := by decide +kernel
theorem dX4_takesRow_96 : decode cX4_takesRow 96 = .ok (.goto (-91), 3) := by decide +kernel
theorem dX4_takesRow_99 : decode cX4_takesRow 99 = .ok (.iconst 0, 1) := by decide +kernel
theorem dX4_takesRow_100 : decode cX4_takesRow 100 = .ok (.ireturn, 1) := by decide +kernel
theorem dX4_takesNumber_0 : decode cX4_takesNumber 0 = .ok (.aload_n 0, 1) := by decide +kernel
theorem dX4_takesNumber_1 : decode cX4_takesNumber 1 = .ok (.invokevirtual 41, 3) := by decide +kernel
theorem dX4_takesNumber_4 : decode cX4_takesNumber 4 = .ok (.ifCond .ne 5, 3) := by decide +kernel
theorem dX4_takesNumber_7 : decode cX4_takesNumber 7 = .ok (.iconst 0, 1) := by decide +kernel
theorem dX4_takesNumber_8 : decode cX4_takesNumber 8 = .ok (.ireturn, 1) := by decide +kernel
theorem dX4_takesNumber_9 : decode cX4_takesNumber 9 = .ok (.aload_n 0, 1) := by decide +kernel
theorem dX4_takesNumber_10 : decode cX4_takesNumber 10 = .ok (.getfield 45, 3) := by decide +kernel
theorem dX4_takesNumber_13 : decode cX4_takesNumber 13 = .ok (.iconst 2, 1) := by decide +kernel
theorem dX4_takesNumber_14 : decode cX4_takesNumber 14 = .ok (.if_icmp .eq 9, 3) := by decide +kernel
theorem dX4_takesNumber_17 : decode cX4_takesNumber 17 = .ok (.aload_n 0, 1) := by decide +kernel
theorem dX4_takesNumber_18 : decode cX4_takesNumber 18 = .ok (.iconst 2, 1) := by decide +kernel
theorem dX4_takesNumber_19 : decode cX4_takesNumber 19 = .ok (.invokevirtual 55, 3) := by decide +kernel
theorem dX4_takesNumber_22 : decode cX4_takesNumber 22 = .ok (.ireturn, 1) := by decide +kernel
theorem dX4_takesNumber_23 : decode cX4_takesNumber 23 = .ok (.aload_n 0, 1) := by decide +kernel
theorem dX4_takesNumber_24 : decode cX4_takesNumber 24 = .ok (.getfield 88, 3) := by decide +kernel
theorem dX4_takesNumber_27 : decode cX4_takesNumber 27 = .ok (.iload_n 1, 1) := by decide +kernel
theorem dX4_takesNumber_28 : decode cX4_takesNumber 28 = .ok (.if_icmp .le 11, 3) := by decide +kernel
theorem dX4_takesNumber_31 : decode cX4_takesNumber 31 = .ok (.aload_n 0, 1) := by decide +kernel
theorem dX4_takesNumber_32 : decode cX4_takesNumber 32 = .ok (.iconst 3, 1) := by decide +kernel
theorem dX4_takesNumber_33 : decode cX4_takesNumber 33 = .ok (.invokevirtual 55, 3) := by decide +kernel
theorem dX4_takesNumber_36 : decode cX4_takesNumber 36 = .ok (.ifCond .eq 7, 3) := by decide +kernel
theorem dX4_takesNumber_39 : decode cX4_takesNumber 39 = .ok (.iconst 1, 1) := by decide +kernel
theorem dX4_takesNumber_40 : decode cX4_takesNumber 40 = .ok (.goto 4, 3) := by decide +kernel
theorem dX4_takesNumber_43 : decode cX4_takesNumber 43 = .ok (.iconst 0, 1) := by decide +kernel
theorem dX4_takesNumber_44 : decode cX4_takesNumber 44 = .ok (.ireturn, 1) := by decide +kernel
theorem dX4_takesMark_0 : decode cX4_takesMark 0 = .ok (.aload_n 0, 1) := by decide +kernel
theorem dX4_takesMark_1 : decode cX4_takesMark 1 = .ok (.invokevirtual 41, 3) := by decide +kernel
theorem dX4_takesMark_4 : decode cX4_takesMark 4 = .ok (.ifCond .eq 23, 3) := by decide +kernel
theorem dX4_takesMark_7 : decode cX4_takesMark 7 = .ok (.aload_n 0, 1) := by decide +kernel
theorem dX4_takesMark_8 : decode cX4_takesMark 8 = .ok (.getfield 45, 3) := by decide +kernel
theorem dX4_takesMark_11 : decode cX4_takesMark 11 = .ok (.iconst 3, 1) := by decide +kernel
theorem dX4_takesMark_12 : decode cX4_takesMark 12 = .ok (.if_icmp .eq 11, 3) := by decide +kernel
theorem dX4_takesMark_15 : decode cX4_takesMark 15 = .ok (.aload_n 0, 1) := by decide +kernel
theorem dX4_takesMark_16 : decode cX4_takesMark 16 = .ok (.iconst 2, 1) := by decide +kernel
theorem dX4_takesMark_17 : decode cX4_takesMark 17 = .ok (.invokevirtual 55, 3) := by decide +kernel
theorem dX4_takesMark_20 : decode cX4_takesMark 20 = .ok (.ifCond .eq 7, 3) := by decide +kernel
theorem dX4_takesMark_23 : decode cX4_takesMark 23 = .ok (.iconst 1, 1) := by decide +kernel
theorem dX4_takesMark_24 : decode cX4_takesMark 24 = .ok (.goto 4, 3) := by decide +kernel
theorem dX4_takesMark_27 : decode cX4_takesMark 27 = .ok (.iconst 0, 1) := by decide +kernel
theorem dX4_takesMark_28 : decode cX4_takesMark 28 = .ok (.ireturn, 1) := by decide +kernel
theorem dX4_readsToken_0 : decode cX4_readsToken 0 = .ok (.aload_n 0, 1) := by decide +kernel
theorem dX4_readsToken_1 : decode cX4_readsToken 1 = .ok (.getfield 28, 3) := by decide +kernel
theorem dX4_readsToken_4 : decode cX4_readsToken 4 = .ok (.aload_n 0, 1) := by decide +kernel
theorem dX4_readsToken_5 : decode cX4_readsToken 5 = .ok (.getfield 12, 3) := by decide +kernel
theorem dX4_readsToken_8 : decode cX4_readsToken 8 = .ok (.getfield 109, 3) := by decide +kernel
theorem dX4_readsToken_11 : decode cX4_readsToken 11 = .ok (.if_icmp .ge 33, 3) := by decide +kernel
theorem dX4_readsToken_14 : decode cX4_readsToken 14 = .ok (.aload_n 0, 1) := by decide +kernel
theorem dX4_readsToken_15 : decode cX4_readsToken 15 = .ok (.getfield 12, 3) := by decide +kernel
theorem dX4_readsToken_18 : decode cX4_readsToken 18 = .ok (.getfield 112, 3) := by decide +kernel
theorem dX4_readsToken_21 : decode cX4_readsToken 21 = .ok (.aload_n 0, 1) := by decide +kernel
theorem dX4_readsToken_22 : decode cX4_readsToken 22 = .ok (.getfield 28, 3) := by decide +kernel
theorem dX4_readsToken_25 : decode cX4_readsToken 25 = .ok (.baload, 1) := by decide +kernel
theorem dX4_readsToken_26 : decode cX4_readsToken 26 = .ok (.bipush 32, 2) := by decide +kernel
theorem dX4_readsToken_28 : decode cX4_readsToken 28 = .ok (.if_icmp .ne 16, 3) := by decide +kernel
theorem dX4_readsToken_31 : decode cX4_readsToken 31 = .ok (.aload_n 0, 1) := by decide +kernel
theorem dX4_readsToken_32 : decode cX4_readsToken 32 = .ok (.dup, 1) := by decide +kernel
theorem dX4_readsToken_33 : decode cX4_readsToken 33 = .ok (.getfield 28, 3) := by decide +kernel
theorem dX4_readsToken_36 : decode cX4_readsToken 36 = .ok (.iconst 1, 1) := by decide +kernel
theorem dX4_readsToken_37 : decode cX4_readsToken 37 = .ok (.iadd, 1) := by decide +kernel
theorem dX4_readsToken_38 : decode cX4_readsToken 38 = .ok (.putfield 28, 3) := by decide +kernel
theorem dX4_readsToken_41 : decode cX4_readsToken 41 = .ok (.goto (-41), 3) := by decide +kernel
theorem dX4_readsToken_44 : decode cX4_readsToken 44 = .ok (.aload_n 0, 1) := by decide +kernel
theorem dX4_readsToken_45 : decode cX4_readsToken 45 = .ok (.aload_n 0, 1) := by decide +kernel
theorem dX4_readsToken_46 : decode cX4_readsToken 46 = .ok (.getfield 28, 3) := by decide +kernel
theorem dX4_readsToken_49 : decode cX4_readsToken 49 = .ok (.putfield 116, 3) := by decide +kernel
theorem dX4_readsToken_52 : decode cX4_readsToken 52 = .ok (.aload_n 0, 1) := by decide +kernel
theorem dX4_readsToken_53 : decode cX4_readsToken 53 = .ok (.getfield 28, 3) := by decide +kernel
theorem dX4_readsToken_56 : decode cX4_readsToken 56 = .ok (.aload_n 0, 1) := by decide +kernel
theorem dX4_readsToken_57 : decode cX4_readsToken 57 = .ok (.getfield 12, 3) := by decide +kernel
theorem dX4_readsToken_60 : decode cX4_readsToken 60 = .ok (.getfield 109, 3) := by decide +kernel
theorem dX4_readsToken_63 : decode cX4_readsToken 63 = .ok (.if_icmp .lt 10, 3) := by decide +kernel
theorem dX4_readsToken_66 : decode cX4_readsToken 66 = .ok (.aload_n 0, 1) := by decide +kernel
theorem dX4_readsToken_67 : decode cX4_readsToken 67 = .ok (.iconst 0, 1) := by decide +kernel
theorem dX4_readsToken_68 : decode cX4_readsToken 68 = .ok (.putfield 45, 3) := by decide +kernel
theorem dX4_readsToken_71 : decode cX4_readsToken 71 = .ok (.iconst 1, 1) := by decide +kernel
theorem dX4_readsToken_72 : decode cX4_readsToken 72 = .ok (.ireturn, 1) := by decide +kernel
theorem dX4_readsToken_73 : decode cX4_readsToken 73 = .ok (.aload_n 0, 1) := by decide +kernel
theorem dX4_readsToken_74 : decode cX4_readsToken 74 = .ok (.getfield 12, 3) := by decide +kernel
theorem dX4_readsToken_77 : decode cX4_readsToken 77 = .ok (.getfield 112, 3) := by decide +kernel
theorem dX4_readsToken_80 : decode cX4_readsToken 80 = .ok (.aload_n 0, 1) := by decide +kernel
theorem dX4_readsToken_81 : decode cX4_readsToken 81 = .ok (.getfield 28, 3) := by decide +kernel
theorem dX4_readsToken_84 : decode cX4_readsToken 84 = .ok (.baload, 1) := by decide +kernel
theorem dX4_readsToken_85 : decode cX4_readsToken 85 = .ok (.istore_n 1, 1) := by decide +kernel
theorem dX4_readsToken_86 : decode cX4_readsToken 86 = .ok (.iload_n 1, 1) := by decide +kernel
theorem dX4_readsToken_87 : decode cX4_readsToken 87 = .ok (.bipush 59, 2) := by decide +kernel
theorem dX4_readsToken_89 : decode cX4_readsToken 89 = .ok (.if_icmp .ne 20, 3) := by decide +kernel
theorem dX4_readsToken_92 : decode cX4_readsToken 92 = .ok (.aload_n 0, 1) := by decide +kernel
theorem dX4_readsToken_93 : decode cX4_readsToken 93 = .ok (.iconst 3, 1) := by decide +kernel
theorem dX4_readsToken_94 : decode cX4_readsToken 94 = .ok (.putfield 45, 3) := by decide +kernel
theorem dX4_readsToken_97 : decode cX4_readsToken 97 = .ok (.aload_n 0, 1) := by decide +kernel
theorem dX4_readsToken_98 : decode cX4_readsToken 98 = .ok (.dup, 1) := by decide +kernel
theorem dX4_readsToken_99 : decode cX4_readsToken 99 = .ok (.getfield 28, 3) := by decide +kernel
theorem dX4_readsToken_102 : decode cX4_readsToken 102 = .ok (.iconst 1, 1) := by decide +kernel
theorem dX4_readsToken_103 : decode cX4_readsToken 103 = .ok (.iadd, 1) := by decide +kernel
theorem dX4_readsToken_104 : decode cX4_readsToken 104 = .ok (.putfield 28, 3) := by decide +kernel
theorem dX4_readsToken_107 : decode cX4_readsToken 107 = .ok (.iconst 1, 1) := by decide +kernel
theorem dX4_readsToken_108 : decode cX4_readsToken 108 = .ok (.ireturn, 1) := by decide +kernel
theorem dX4_readsToken_109 : decode cX4_readsToken 109 = .ok (.iload_n 1, 1) := by decide +kernel
theorem dX4_readsToken_110 : decode cX4_readsToken 110 = .ok (.invokestatic 119, 3) := by decide +kernel
theorem dX4_readsToken_113 : decode cX4_readsToken 113 = .ok (.ifCond .eq 8, 3) := by decide +kernel
theorem dX4_readsToken_116 : decode cX4_readsToken 116 = .ok (.aload_n 0, 1) := by decide +kernel
theorem dX4_readsToken_117 : decode cX4_readsToken 117 = .ok (.invokevirtual 122, 3) := by decide +kernel
theorem dX4_readsToken_120 : decode cX4_readsToken 120 = .ok (.ireturn, 1) := by decide +kernel
theorem dX4_readsToken_121 : decode cX4_readsToken 121 = .ok (.iload_n 1, 1) := by decide +kernel
theorem dX4_readsToken_122 : decode cX4_readsToken 122 = .ok (.invokestatic 125, 3) := by decide +kernel
theorem dX4_readsToken_125 : decode cX4_readsToken 125 = .ok (.ifCond .eq 10, 3) := by decide +kernel
theorem dX4_readsToken_128 : decode cX4_readsToken 128 = .ok (.aload_n 0, 1) := by decide +kernel
theorem dX4_readsToken_129 : decode cX4_readsToken 129 = .ok (.invokevirtual 128, 3) := by decide +kernel
theorem dX4_readsToken_132 : decode cX4_readsToken 132 = .ok (.goto 8, 3) := by decide +kernel
theorem dX4_readsToken_135 : decode cX4_readsToken 135 = .ok (.aload_n 0, 1) := by decide +kernel
theorem dX4_readsToken_136 : decode cX4_readsToken 136 = .ok (.iconst 1, 1) := by decide +kernel
theorem dX4_readsToken_137 : decode cX4_readsToken 137 = .ok (.invokevirtual 55, 3) := by decide +kernel
theorem dX4_readsToken_140 : decode cX4_readsToken 140 = .ok (.ireturn, 1) := by decide +kernel
theorem dX4_readsWord_0 : decode cX4_readsWord 0 = .ok (.aload_n 0, 1) := by decide +kernel
theorem dX4_readsWord_1 : decode cX4_readsWord 1 = .ok (.iconst 1, 1) := by decide +kernel
theorem dX4_readsWord_2 : decode cX4_readsWord 2 = .ok (.putfield 45, 3) := by decide +kernel
theorem dX4_readsWord_5 : decode cX4_readsWord 5 = .ok (.aload_n 0, 1) := by decide +kernel
theorem dX4_readsWord_6 : decode cX4_readsWord 6 = .ok (.getfield 28, 3) := by decide +kernel
theorem dX4_readsWord_9 : decode cX4_readsWord 9 = .ok (.aload_n 0, 1) := by decide +kernel
theorem dX4_readsWord_10 : decode cX4_readsWord 10 = .ok (.getfield 12, 3) := by decide +kernel
theorem dX4_readsWord_13 : decode cX4_readsWord 13 = .ok (.getfield 109, 3) := by decide +kernel
theorem dX4_readsWord_16 : decode cX4_readsWord 16 = .ok (.if_icmp .ge 34, 3) := by decide +kernel
theorem dX4_readsWord_19 : decode cX4_readsWord 19 = .ok (.aload_n 0, 1) := by decide +kernel
theorem dX4_readsWord_20 : decode cX4_readsWord 20 = .ok (.getfield 12, 3) := by decide +kernel
theorem dX4_readsWord_23 : decode cX4_readsWord 23 = .ok (.getfield 112, 3) := by decide +kernel
theorem dX4_readsWord_26 : decode cX4_readsWord 26 = .ok (.aload_n 0, 1) := by decide +kernel
theorem dX4_readsWord_27 : decode cX4_readsWord 27 = .ok (.getfield 28, 3) := by decide +kernel
theorem dX4_readsWord_30 : decode cX4_readsWord 30 = .ok (.baload, 1) := by decide +kernel
theorem dX4_readsWord_31 : decode cX4_readsWord 31 = .ok (.invokestatic 119, 3) := by decide +kernel
theorem dX4_readsWord_34 : decode cX4_readsWord 34 = .ok (.ifCond .eq 16, 3) := by decide +kernel
theorem dX4_readsWord_37 : decode cX4_readsWord 37 = .ok (.aload_n 0, 1) := by decide +kernel
theorem dX4_readsWord_38 : decode cX4_readsWord 38 = .ok (.dup, 1) := by decide +kernel
theorem dX4_readsWord_39 : decode cX4_readsWord 39 = .ok (.getfield 28, 3) := by decide +kernel
theorem dX4_readsWord_42 : decode cX4_readsWord 42 = .ok (.iconst 1, 1) := by decide +kernel
theorem dX4_readsWord_43 : decode cX4_readsWord 43 = .ok (.iadd, 1) := by decide +kernel
theorem dX4_readsWord_44 : decode cX4_readsWord 44 = .ok (.putfield 28, 3) := by decide +kernel
theorem dX4_readsWord_47 : decode cX4_readsWord 47 = .ok (.goto (-42), 3) := by decide +kernel
theorem dX4_readsWord_50 : decode cX4_readsWord 50 = .ok (.iconst 1, 1) := by decide +kernel
theorem dX4_readsWord_51 : decode cX4_readsWord 51 = .ok (.ireturn, 1) := by decide +kernel
theorem dX4_readsNumber_0 : decode cX4_readsNumber 0 = .ok (.aload_n 0, 1) := by decide +kernel
theorem dX4_readsNumber_1 : decode cX4_readsNumber 1 = .ok (.iconst 2, 1) := by decide +kernel
theorem dX4_readsNumber_2 : decode cX4_readsNumber 2 = .ok (.putfield 45, 3) := by decide +kernel
theorem dX4_readsNumber_5 : decode cX4_readsNumber 5 = .ok (.aload_n 0, 1) := by decide +kernel
theorem dX4_readsNumber_6 : decode cX4_readsNumber 6 = .ok (.iconst 0, 1) := by decide +kernel
theorem dX4_readsNumber_7 : decode cX4_readsNumber 7 = .ok (.putfield 88, 3) := by decide +kernel
theorem dX4_readsNumber_10 : decode cX4_readsNumber 10 = .ok (.aload_n 0, 1) := by decide +kernel
theorem dX4_readsNumber_11 : decode cX4_readsNumber 11 = .ok (.getfield 28, 3) := by decide +kernel
theorem dX4_readsNumber_14 : decode cX4_readsNumber 14 = .ok (.aload_n 0, 1) := by decide +kernel
theorem dX4_readsNumber_15 : decode cX4_readsNumber 15 = .ok (.getfield 12, 3) := by decide +kernel
theorem dX4_readsNumber_18 : decode cX4_readsNumber 18 = .ok (.getfield 109, 3) := by decide +kernel
theorem dX4_readsNumber_21 : decode cX4_readsNumber 21 = .ok (.if_icmp .ge 61, 3) := by decide +kernel
theorem dX4_readsNumber_24 : decode cX4_readsNumber 24 = .ok (.aload_n 0, 1) := by decide +kernel
theorem dX4_readsNumber_25 : decode cX4_readsNumber 25 = .ok (.getfield 12, 3) := by decide +kernel
theorem dX4_readsNumber_28 : decode cX4_readsNumber 28 = .ok (.getfield 112, 3) := by decide +kernel
theorem dX4_readsNumber_31 : decode cX4_readsNumber 31 = .ok (.aload_n 0, 1) := by decide +kernel
theorem dX4_readsNumber_32 : decode cX4_readsNumber 32 = .ok (.getfield 28, 3) := by decide +kernel
theorem dX4_readsNumber_35 : decode cX4_readsNumber 35 = .ok (.baload, 1) := by decide +kernel
theorem dX4_readsNumber_36 : decode cX4_readsNumber 36 = .ok (.invokestatic 125, 3) := by decide +kernel
theorem dX4_readsNumber_39 : decode cX4_readsNumber 39 = .ok (.ifCond .eq 43, 3) := by decide +kernel
theorem dX4_readsNumber_42 : decode cX4_readsNumber 42 = .ok (.aload_n 0, 1) := by decide +kernel
theorem dX4_readsNumber_43 : decode cX4_readsNumber 43 = .ok (.aload_n 0, 1) := by decide +kernel
theorem dX4_readsNumber_44 : decode cX4_readsNumber 44 = .ok (.getfield 88, 3) := by decide +kernel
theorem dX4_readsNumber_47 : decode cX4_readsNumber 47 = .ok (.bipush 10, 2) := by decide +kernel
theorem dX4_readsNumber_49 : decode cX4_readsNumber 49 = .ok (.imul, 1) := by decide +kernel
theorem dX4_readsNumber_50 : decode cX4_readsNumber 50 = .ok (.aload_n 0, 1) := by decide +kernel
theorem dX4_readsNumber_51 : decode cX4_readsNumber 51 = .ok (.getfield 12, 3) := by decide +kernel
theorem dX4_readsNumber_54 : decode cX4_readsNumber 54 = .ok (.getfield 112, 3) := by decide +kernel
theorem dX4_readsNumber_57 : decode cX4_readsNumber 57 = .ok (.aload_n 0, 1) := by decide +kernel
theorem dX4_readsNumber_58 : decode cX4_readsNumber 58 = .ok (.getfield 28, 3) := by decide +kernel
theorem dX4_readsNumber_61 : decode cX4_readsNumber 61 = .ok (.baload, 1) := by decide +kernel
theorem dX4_readsNumber_62 : decode cX4_readsNumber 62 = .ok (.iadd, 1) := by decide +kernel
theorem dX4_readsNumber_63 : decode cX4_readsNumber 63 = .ok (.bipush 48, 2) := by decide +kernel
theorem dX4_readsNumber_65 : decode cX4_readsNumber 65 = .ok (.isub, 1) := by decide +kernel
theorem dX4_readsNumber_66 : decode cX4_readsNumber 66 = .ok (.putfield 88, 3) := by decide +kernel
theorem dX4_readsNumber_69 : decode cX4_readsNumber 69 = .ok (.aload_n 0, 1) := by decide +kernel
theorem dX4_readsNumber_70 : decode cX4_readsNumber 70 = .ok (.dup, 1) := by decide +kernel
theorem dX4_readsNumber_71 : decode cX4_readsNumber 71 = .ok (.getfield 28, 3) := by decide +kernel
theorem dX4_readsNumber_74 : decode cX4_readsNumber 74 = .ok (.iconst 1, 1) := by decide +kernel
theorem dX4_readsNumber_75 : decode cX4_readsNumber 75 = .ok (.iadd, 1) := by decide +kernel
theorem dX4_readsNumber_76 : decode cX4_readsNumber 76 = .ok (.putfield 28, 3) := by decide +kernel
theorem dX4_readsNumber_79 : decode cX4_readsNumber 79 = .ok (.goto (-69), 3) := by decide +kernel
theorem dX4_readsNumber_82 : decode cX4_readsNumber 82 = .ok (.aload_n 0, 1) := by decide +kernel
theorem dX4_readsNumber_83 : decode cX4_readsNumber 83 = .ok (.getfield 28, 3) := by decide +kernel
theorem dX4_readsNumber_86 : decode cX4_readsNumber 86 = .ok (.aload_n 0, 1) := by decide +kernel
theorem dX4_readsNumber_87 : decode cX4_readsNumber 87 = .ok (.getfield 116, 3) := by decide +kernel
theorem dX4_readsNumber_90 : decode cX4_readsNumber 90 = .ok (.isub, 1) := by decide +kernel
theorem dX4_readsNumber_91 : decode cX4_readsNumber 91 = .ok (.iconst 2, 1) := by decide +kernel
theorem dX4_readsNumber_92 : decode cX4_readsNumber 92 = .ok (.if_icmp .le 11, 3) := by decide +kernel
theorem dX4_readsNumber_95 : decode cX4_readsNumber 95 = .ok (.aload_n 0, 1) := by decide +kernel
theorem dX4_readsNumber_96 : decode cX4_readsNumber 96 = .ok (.iconst 1, 1) := by decide +kernel
theorem dX4_readsNumber_97 : decode cX4_readsNumber 97 = .ok (.invokevirtual 55, 3) := by decide +kernel
theorem dX4_readsNumber_100 : decode cX4_readsNumber 100 = .ok (.ifCond .eq 7, 3) := by decide +kernel
theorem dX4_readsNumber_103 : decode cX4_readsNumber 103 = .ok (.iconst 1, 1) := by decide +kernel
theorem dX4_readsNumber_104 : decode cX4_readsNumber 104 = .ok (.goto 4, 3) := by decide +kernel
theorem dX4_readsNumber_107 : decode cX4_readsNumber 107 = .ok (.iconst 0, 1) := by decide +kernel
theorem dX4_readsNumber_108 : decode cX4_readsNumber 108 = .ok (.ireturn, 1) := by decide +kernel
theorem dX4_isLetter_0 : decode cX4_isLetter 0 = .ok (.iload_n 0, 1) := by decide +kernel
theorem dX4_isLetter_1 : decode cX4_isLetter 1 = .ok (.bipush 97, 2) := by decide +kernel
theorem dX4_isLetter_3 : decode cX4_isLetter 3 = .ok (.if_icmp .lt 13, 3) := by decide +kernel
theorem dX4_isLetter_6 : decode cX4_isLetter 6 = .ok (.iload_n 0, 1) := by decide +kernel
theorem dX4_isLetter_7 : decode cX4_isLetter 7 = .ok (.bipush 122, 2) := by decide +kernel
theorem dX4_isLetter_9 : decode cX4_isLetter 9 = .ok (.if_icmp .gt 7, 3) := by decide +kernel
theorem dX4_isLetter_12 : decode cX4_isLetter 12 = .ok (.iconst 1, 1) := by decide +kernel
theorem dX4_isLetter_13 : decode cX4_isLetter 13 = .ok (.goto 4, 3) := by decide +kernel
theorem dX4_isLetter_16 : decode cX4_isLetter 16 = .ok (.iconst 0, 1) := by decide +kernel
theorem dX4_isLetter_17 : decode cX4_isLetter 17 = .ok (.ireturn, 1) := by decide +kernel
theorem dX4_isFigure_0 : decode cX4_isFigure 0 = .ok (.iload_n 0, 1) := by decide +kernel
theorem dX4_isFigure_1 : decode cX4_isFigure 1 = .ok (.bipush 48, 2) := by decide +kernel
theorem dX4_isFigure_3 : decode cX4_isFigure 3 = .ok (.if_icmp .lt 13, 3) := by decide +kernel
theorem dX4_isFigure_6 : decode cX4_isFigure 6 = .ok (.iload_n 0, 1) := by decide +kernel
theorem dX4_isFigure_7 : decode cX4_isFigure 7 = .ok (.bipush 57, 2) := by decide +kernel
theorem dX4_isFigure_9 : decode cX4_isFigure 9 = .ok (.if_icmp .gt 7, 3) := by decide +kernel
theorem dX4_isFigure_12 : decode cX4_isFigure 12 = .ok (.iconst 1, 1) := by decide +kernel
theorem dX4_isFigure_13 : decode cX4_isFigure 13 = .ok (.goto 4, 3) := by decide +kernel
theorem dX4_isFigure_16 : decode cX4_isFigure 16 = .ok (.iconst 0, 1) := by decide +kernel
theorem dX4_isFigure_17 : decode cX4_isFigure 17 = .ok (.ireturn, 1) := by decide +kernel
theorem dX4_wordRead_0 : decode cX4_wordRead 0 = .ok (.iconst 0, 1) := by decide +kernel
theorem dX4_wordRead_1 : decode cX4_wordRead 1 = .ok (.istore_n 1, 1) := by decide +kernel
theorem dX4_wordRead_2 : decode cX4_wordRead 2 = .ok (.iload_n 1, 1) := by decide +kernel
theorem dX4_wordRead_3 : decode cX4_wordRead 3 = .ok (.bipush 7, 2) := by decide +kernel
theorem dX4_wordRead_5 : decode cX4_wordRead 5 = .ok (.if_icmp .ge 22, 3) := by decide +kernel
theorem dX4_wordRead_8 : decode cX4_wordRead 8 = .ok (.aload_n 0, 1) := by decide +kernel
theorem dX4_wordRead_9 : decode cX4_wordRead 9 = .ok (.iload_n 1, 1) := by decide +kernel
theorem dX4_wordRead_10 : decode cX4_wordRead 10 = .ok (.invokestatic 131, 3) := by decide +kernel
theorem dX4_wordRead_13 : decode cX4_wordRead 13 = .ok (.invokevirtual 135, 3) := by decide +kernel
theorem dX4_wordRead_16 : decode cX4_wordRead 16 = .ok (.ifCond .eq 5, 3) := by decide +kernel
theorem dX4_wordRead_19 : decode cX4_wordRead 19 = .ok (.iload_n 1, 1) := by decide +kernel
theorem dX4_wordRead_20 : decode cX4_wordRead 20 = .ok (.ireturn, 1) := by decide +kernel
theorem dX4_wordRead_21 : decode cX4_wordRead 21 = .ok (.iinc 1 1, 3) := by decide +kernel
theorem dX4_wordRead_24 : decode cX4_wordRead 24 = .ok (.goto (-22), 3) := by decide +kernel
theorem dX4_wordRead_27 : decode cX4_wordRead 27 = .ok (.bipush 7, 2) := by decide +kernel
theorem dX4_wordRead_29 : decode cX4_wordRead 29 = .ok (.ireturn, 1) := by decide +kernel
theorem dX4_isSpelled_0 : decode cX4_isSpelled 0 = .ok (.aload_n 0, 1) := by decide +kernel
theorem dX4_isSpelled_1 : decode cX4_isSpelled 1 = .ok (.getfield 28, 3) := by decide +kernel
theorem dX4_isSpelled_4 : decode cX4_isSpelled 4 = .ok (.aload_n 0, 1) := by decide +kernel
theorem dX4_isSpelled_5 : decode cX4_isSpelled 5 = .ok (.getfield 116, 3) := by decide +kernel
theorem dX4_isSpelled_8 : decode cX4_isSpelled 8 = .ok (.isub, 1) := by decide +kernel
theorem dX4_isSpelled_9 : decode cX4_isSpelled 9 = .ok (.aload_n 1, 1) := by decide +kernel
theorem dX4_isSpelled_10 : decode cX4_isSpelled 10 = .ok (.invokevirtual 139, 3) := by decide +kernel
theorem dX4_isSpelled_13 : decode cX4_isSpelled 13 = .ok (.if_icmp .eq 5, 3) := by decide +kernel
theorem dX4_isSpelled_16 : decode cX4_isSpelled 16 = .ok (.iconst 0, 1) := by decide +kernel
theorem dX4_isSpelled_17 : decode cX4_isSpelled 17 = .ok (.ireturn, 1) := by decide +kernel
theorem dX4_isSpelled_18 : decode cX4_isSpelled 18 = .ok (.iconst 0, 1) := by decide +kernel
theorem dX4_isSpelled_19 : decode cX4_isSpelled 19 = .ok (.istore_n 2, 1) := by decide +kernel
theorem dX4_isSpelled_20 : decode cX4_isSpelled 20 = .ok (.iload_n 2, 1) := by decide +kernel
theorem dX4_isSpelled_21 : decode cX4_isSpelled 21 = .ok (.aload_n 1, 1) := by decide +kernel
theorem dX4_isSpelled_22 : decode cX4_isSpelled 22 = .ok (.invokevirtual 139, 3) := by decide +kernel
theorem dX4_isSpelled_25 : decode cX4_isSpelled 25 = .ok (.if_icmp .ge 33, 3) := by decide +kernel
theorem dX4_isSpelled_28 : decode cX4_isSpelled 28 = .ok (.aload_n 0, 1) := by decide +kernel
theorem dX4_isSpelled_29 : decode cX4_isSpelled 29 = .ok (.getfield 12, 3) := by decide +kernel
theorem dX4_isSpelled_32 : decode cX4_isSpelled 32 = .ok (.getfield 112, 3) := by decide +kernel
theorem dX4_isSpelled_35 : decode cX4_isSpelled 35 = .ok (.aload_n 0, 1) := by decide +kernel
theorem dX4_isSpelled_36 : decode cX4_isSpelled 36 = .ok (.getfield 116, 3) := by decide +kernel
theorem dX4_isSpelled_39 : decode cX4_isSpelled 39 = .ok (.iload_n 2, 1) := by decide +kernel
theorem dX4_isSpelled_40 : decode cX4_isSpelled 40 = .ok (.iadd, 1) := by decide +kernel
theorem dX4_isSpelled_41 : decode cX4_isSpelled 41 = .ok (.baload, 1) := by decide +kernel
theorem dX4_isSpelled_42 : decode cX4_isSpelled 42 = .ok (.aload_n 1, 1) := by decide +kernel
theorem dX4_isSpelled_43 : decode cX4_isSpelled 43 = .ok (.iload_n 2, 1) := by decide +kernel
theorem dX4_isSpelled_44 : decode cX4_isSpelled 44 = .ok (.invokevirtual 143, 3) := by decide +kernel
theorem dX4_isSpelled_47 : decode cX4_isSpelled 47 = .ok (.if_icmp .eq 5, 3) := by decide +kernel
theorem dX4_isSpelled_50 : decode cX4_isSpelled 50 = .ok (.iconst 0, 1) := by decide +kernel
theorem dX4_isSpelled_51 : decode cX4_isSpelled 51 = .ok (.ireturn, 1) := by decide +kernel
theorem dX4_isSpelled_52 : decode cX4_isSpelled 52 = .ok (.iinc 2 1, 3) := by decide +kernel
theorem dX4_isSpelled_55 : decode cX4_isSpelled 55 = .ok (.goto (-35), 3) := by decide +kernel
theorem dX4_isSpelled_58 : decode cX4_isSpelled 58 = .ok (.iconst 1, 1) := by decide +kernel
theorem dX4_isSpelled_59 : decode cX4_isSpelled 59 = .ok (.ireturn, 1) := by decide +kernel
theorem dX4_spellingOf_0 : decode cX4_spellingOf 0 = .ok (.iload_n 0, 1) := by decide +kernel
theorem dX4_spellingOf_1 : decode cX4_spellingOf 1 = .ok (.tableswitch 61 0 6 #[43, 46, 49, 61, 52, 55, 58], 43) := by decide +kernel
theorem dX4_spellingOf_44 : decode cX4_spellingOf 44 = .ok (.ldc 147, 2) := by decide +kernel
theorem dX4_spellingOf_46 : decode cX4_spellingOf 46 = .ok (.areturn, 1) := by decide +kernel
theorem dX4_spellingOf_47 : decode cX4_spellingOf 47 = .ok (.ldc 149, 2) := by decide +kernel
theorem dX4_spellingOf_49 : decode cX4_spellingOf 49 = .ok (.areturn, 1) := by decide +kernel
theorem dX4_spellingOf_50 : decode cX4_spellingOf 50 = .ok (.ldc 151, 2) := by decide +kernel
theorem dX4_spellingOf_52 : decode cX4_spellingOf 52 = .ok (.areturn, 1) := by decide +kernel
theorem dX4_spellingOf_53 : decode cX4_spellingOf 53 = .ok (.ldc 153, 2) := by decide +kernel
theorem dX4_spellingOf_55 : decode cX4_spellingOf 55 = .ok (.areturn, 1) := by decide +kernel
theorem dX4_spellingOf_56 : decode cX4_spellingOf 56 = .ok (.ldc 155, 2) := by decide +kernel
theorem dX4_spellingOf_58 : decode cX4_spellingOf 58 = .ok (.areturn, 1) := by decide +kernel
theorem dX4_spellingOf_59 : decode cX4_spellingOf 59 = .ok (.ldc 156, 2) := by decide +kernel
theorem dX4_spellingOf_61 : decode cX4_spellingOf 61 = .ok (.areturn, 1) := by decide +kernel
theorem dX4_spellingOf_62 : decode cX4_spellingOf 62 = .ok (.ldc 157, 2) := by decide +kernel
theorem dX4_spellingOf_64 : decode cX4_spellingOf 64 = .ok (.areturn, 1) := by decide +kernel
theorem dX5_init_0 : decode cX5_init 0 = .ok (.aload_n 0, 1) := by decide +kernel
theorem dX5_init_1 : decode cX5_init 1 = .ok (.invokespecial 3, 3) := by decide +kernel
theorem dX5_init_4 : decode cX5_init 4 = .ok (.aload_n 0, 1) := by decide +kernel
theorem dX5_init_5 : decode cX5_init 5 = .ok (.bipush 12, 2) := by decide +kernel
theorem dX5_init_7 : decode cX5_init 7 = .ok (.newarray .int, 2) := by decide +kernel
theorem dX5_init_9 : decode cX5_init 9 = .ok (.putfield 9, 3) := by decide +kernel
theorem dX5_init_12 : decode cX5_init 12 = .ok (.aload_n 0, 1) := by decide +kernel
theorem dX5_init_13 : decode cX5_init 13 = .ok (.iconst 4, 1) := by decide +kernel
theorem dX5_init_14 : decode cX5_init 14 = .ok (.newarray .int, 2) := by decide +kernel
theorem dX5_init_16 : decode cX5_init 16 = .ok (.putfield 15, 3) := by decide +kernel
theorem dX5_init_19 : decode cX5_init 19 = .ok (.aload_n 0, 1) := by decide +kernel
theorem dX5_init_20 : decode cX5_init 20 = .ok (.iconst 4, 1) := by decide +kernel
theorem dX5_init_21 : decode cX5_init 21 = .ok (.newarray .int, 2) := by decide +kernel
theorem dX5_init_23 : decode cX5_init 23 = .ok (.putfield 18, 3) := by decide +kernel
theorem dX5_init_26 : decode cX5_init 26 = .ok (.aload_n 0, 1) := by decide +kernel
theorem dX5_init_27 : decode cX5_init 27 = .ok (.iconst 4, 1) := by decide +kernel
theorem dX5_init_28 : decode cX5_init 28 = .ok (.newarray .int, 2) := by decide +kernel
theorem dX5_init_30 : decode cX5_init 30 = .ok (.putfield 21, 3) := by decide +kernel
theorem dX5_init_33 : decode cX5_init 33 = .ok (.aload_n 0, 1) := by decide +kernel
theorem dX5_init_34 : decode cX5_init 34 = .ok (.bipush 6, 2) := by decide +kernel
theorem dX5_init_36 : decode cX5_init 36 = .ok (.newarray .int, 2) := by decide +kernel
theorem dX5_init_38 : decode cX5_init 38 = .ok (.putfield 24, 3) := by decide +kernel
theorem dX5_init_41 : decode cX5_init 41 = .ok (.return_, 1) := by decide +kernel
theorem dX5_makeEmpty_0 : decode cX5_makeEmpty 0 = .ok (.aload_n 0, 1) := by decide +kernel
theorem dX5_makeEmpty_1 : decode cX5_makeEmpty 1 = .ok (.getfield 9, 3) := by decide +kernel
theorem dX5_makeEmpty_4 : decode cX5_makeEmpty 4 = .ok (.iconst 0, 1) := by decide +kernel
theorem dX5_makeEmpty_5 : decode cX5_makeEmpty 5 = .ok (.invokestatic 27, 3) := by decide +kernel
theorem dX5_makeEmpty_8 : decode cX5_makeEmpty 8 = .ok (.aload_n 0, 1) := by decide +kernel
theorem dX5_makeEmpty_9 : decode cX5_makeEmpty 9 = .ok (.iconst 0, 1) := by decide +kernel
theorem dX5_makeEmpty_10 : decode cX5_makeEmpty 10 = .ok (.putfield 33, 3) := by decide +kernel
theorem dX5_makeEmpty_13 : decode cX5_makeEmpty 13 = .ok (.aload_n 0, 1) := by decide +kernel
theorem dX5_makeEmpty_14 : decode cX5_makeEmpty 14 = .ok (.iconst 0, 1) := by decide +kernel
theorem dX5_makeEmpty_15 : decode cX5_makeEmpty 15 = .ok (.putfield 37, 3) := by decide +kernel
theorem dX5_makeEmpty_18 : decode cX5_makeEmpty 18 = .ok (.aload_n 0, 1) := by decide +kernel
theorem dX5_makeEmpty_19 : decode cX5_makeEmpty 19 = .ok (.iconst 0, 1) := by decide +kernel
theorem dX5_makeEmpty_20 : decode cX5_makeEmpty 20 = .ok (.putfield 40, 3) := by decide +kernel
theorem dX5_makeEmpty_23 : decode cX5_makeEmpty 23 = .ok (.aload_n 0, 1) := by decide +kernel
theorem dX5_makeEmpty_24 : decode cX5_makeEmpty 24 = .ok (.iconst 0, 1) := by decide +kernel
theorem dX5_makeEmpty_25 : decode cX5_makeEmpty 25 = .ok (.putfield 43, 3) := by decide +kernel
theorem dX5_makeEmpty_28 : decode cX5_makeEmpty 28 = .ok (.aload_n 0, 1) := by decide +kernel
theorem dX5_makeEmpty_29 : decode cX5_makeEmpty 29 = .ok (.iconst 0, 1) := by decide +kernel
theorem dX5_makeEmpty_30 : decode cX5_makeEmpty 30 = .ok (.putfield 46, 3) := by decide +kernel
theorem dX5_makeEmpty_33 : decode cX5_makeEmpty 33 = .ok (.aload_n 0, 1) := by decide +kernel
theorem dX5_makeEmpty_34 : decode cX5_makeEmpty 34 = .ok (.iconst 0, 1) := by decide +kernel
theorem dX5_makeEmpty_35 : decode cX5_makeEmpty 35 = .ok (.putfield 49, 3) := by decide +kernel
theorem dX5_makeEmpty_38 : decode cX5_makeEmpty 38 = .ok (.return_, 1) := by decide +kernel
theorem dX5_become_0 : decode cX5_become 0 = .ok (.aload_n 1, 1) := by decide +kernel
theorem dX5_become_1 : decode cX5_become 1 = .ok (.getfield 9, 3) := by decide +kernel
theorem dX5_become_4 : decode cX5_become 4 = .ok (.iconst 0, 1) := by decide +kernel
theorem dX5_become_5 : decode cX5_become 5 = .ok (.aload_n 0, 1) := by decide +kernel
theorem dX5_become_6 : decode cX5_become 6 = .ok (.getfield 9, 3) := by decide +kernel
theorem dX5_become_9 : decode cX5_become 9 = .ok (.iconst 0, 1) := by decide +kernel
theorem dX5_become_10 : decode cX5_become 10 = .ok (.bipush 12, 2) := by decide +kernel
theorem dX5_become_12 : decode cX5_become 12 = .ok (.invokestatic 52, 3) := by decide +kernel
theorem dX5_become_15 : decode cX5_become 15 = .ok (.aload_n 1, 1) := by decide +kernel
theorem dX5_become_16 : decode cX5_become 16 = .ok (.getfield 15, 3) := by decide +kernel
theorem dX5_become_19 : decode cX5_become 19 = .ok (.iconst 0, 1) := by decide +kernel
theorem dX5_become_20 : decode cX5_become 20 = .ok (.aload_n 0, 1) := by decide +kernel
theorem dX5_become_21 : decode cX5_become 21 = .ok (.getfield 15, 3) := by decide +kernel
theorem dX5_become_24 : decode cX5_become 24 = .ok (.iconst 0, 1) := by decide +kernel
theorem dX5_become_25 : decode cX5_become 25 = .ok (.iconst 4, 1) := by decide +kernel
theorem dX5_become_26 : decode cX5_become 26 = .ok (.invokestatic 52, 3) := by decide +kernel
theorem dX5_become_29 : decode cX5_become 29 = .ok (.aload_n 1, 1) := by decide +kernel
theorem dX5_become_30 : decode cX5_become 30 = .ok (.getfield 18, 3) := by decide +kernel
theorem dX5_become_33 : decode cX5_become 33 = .ok (.iconst 0, 1) := by decide +kernel
theorem dX5_become_34 : decode cX5_become 34 = .ok (.aload_n 0, 1) := by decide +kernel
theorem dX5_become_35 : decode cX5_become 35 = .ok (.getfield 18, 3) := by decide +kernel
theorem dX5_become_38 : decode cX5_become 38 = .ok (.iconst 0, 1) := by decide +kernel
theorem dX5_become_39 : decode cX5_become 39 = .ok (.iconst 4, 1) := by decide +kernel
theorem dX5_become_40 : decode cX5_become 40 = .ok (.invokestatic 52, 3) := by decide +kernel
theorem dX5_become_43 : decode cX5_become 43 = .ok (.aload_n 1, 1) := by decide +kernel
theorem dX5_become_44 : decode cX5_become 44 = .ok (.getfield 21, 3) := by decide +kernel
theorem dX5_become_47 : decode cX5_become 47 = .ok (.iconst 0, 1) := by decide +kernel
theorem dX5_become_48 : decode cX5_become 48 = .ok (.aload_n 0, 1) := by decide +kernel
theorem dX5_become_49 : decode cX5_become 49 = .ok (.getfield 21, 3) := by decide +kernel
theorem dX5_become_52 : decode cX5_become 52 = .ok (.iconst 0, 1) := by decide +kernel
theorem dX5_become_53 : decode cX5_become 53 = .ok (.iconst 4, 1) := by decide +kernel
theorem dX5_become_54 : decode cX5_become 54 = .ok (.invokestatic 52, 3) := by decide +kernel
theorem dX5_become_57 : decode cX5_become 57 = .ok (.aload_n 1, 1) := by decide +kernel
theorem dX5_become_58 : decode cX5_become 58 = .ok (.getfield 24, 3) := by decide +kernel
theorem dX5_become_61 : decode cX5_become 61 = .ok (.iconst 0, 1) := by decide +kernel
theorem dX5_become_62 : decode cX5_become 62 = .ok (.aload_n 0, 1) := by decide +kernel
theorem dX5_become_63 : decode cX5_become 63 = .ok (.getfield 24, 3) := by decide +kernel
theorem dX5_become_66 : decode cX5_become 66 = .ok (.iconst 0, 1) := by decide +kernel
theorem dX5_become_67 : decode cX5_become 67 = .ok (.bipush 6, 2) := by decide +kernel
theorem dX5_become_69 : decode cX5_become 69 = .ok (.invokestatic 52, 3) := by decide +kernel
theorem dX5_become_72 : decode cX5_become 72 = .ok (.aload_n 0, 1) := by decide +kernel
theorem dX5_become_73 : decode cX5_become 73 = .ok (.aload_n 1, 1) := by decide +kernel
theorem dX5_become_74 : decode cX5_become 74 = .ok (.getfield 33, 3) := by decide +kernel
theorem dX5_become_77 : decode cX5_become 77 = .ok (.putfield 33, 3) := by decide +kernel
theorem dX5_become_80 : decode cX5_become 80 = .ok (.aload_n 0, 1) := by decide +kernel
theorem dX5_become_81 : decode cX5_become 81 = .ok (.aload_n 1, 1) := by decide +kernel
theorem dX5_become_82 : decode cX5_become 82 = .ok (.getfield 37, 3) := by decide +kernel
theorem dX5_become_85 : decode cX5_become 85 = .ok (.putfield 37, 3) := by decide +kernel
theorem dX5_become_88 : decode cX5_become 88 = .ok (.aload_n 0, 1) := by decide +kernel
theorem dX5_become_89 : decode cX5_become 89 = .ok (.aload_n 1, 1) := by decide +kernel
theorem dX5_become_90 : decode cX5_become 90 = .ok (.getfield 40, 3) := by decide +kernel
theorem dX5_become_93 : decode cX5_become 93 = .ok (.putfield 40, 3) := by decide +kernel
theorem dX5_become_96 : decode cX5_become 96 = .ok (.aload_n 0, 1) := by decide +kernel
theorem dX5_become_97 : decode cX5_become 97 = .ok (.aload_n 1, 1) := by decide +kernel
theorem dX5_become_98 : decode cX5_become 98 = .ok (.getfield 43, 3) := by decide +kernel
theorem dX5_become_101 : decode cX5_become 101 = .ok (.putfield 43, 3) := by decide +kernel
theorem dX5_become_104 : decode cX5_become 104 = .ok (.aload_n 0, 1) := by decide +kernel
theorem dX5_become_105 : decode cX5_become 105 = .ok (.aload_n 1, 1) := by decide +kernel
theorem dX5_become_106 : decode cX5_become 106 = .ok (.getfield 46, 3) := by decide +kernel
theorem dX5_become_109 : decode cX5_become 109 = .ok (.putfield 46, 3) := by decide +kernel
theorem dX5_become_112 : decode cX5_become 112 = .ok (.aload_n 0, 1) := by decide +kernel
theorem dX5_become_113 : decode cX5_become 113 = .ok (.aload_n 1, 1) := by decide +kernel
theorem dX5_become_114 : decode cX5_become 114 = .ok (.getfield 49, 3) := by decide +kernel
theorem dX5_become_117 : decode cX5_become 117 = .ok (.putfield 49, 3) := by decide +kernel
theorem dX5_become_120 : decode cX5_become 120 = .ok (.return_, 1) := by decide +kernel
theorem dX5_partOf_0 : decode cX5_partOf 0 = .ok (.iload_n 2, 1) := by decide +kernel
theorem dX5_partOf_1 : decode cX5_partOf 1 = .ok (.lookupswitch 41 #[(0, 27), (1, 34)], 27) := by decide +kernel
theorem dX5_partOf_28 : decode cX5_partOf 28 = .ok (.aload_n 0, 1) := by decide +kernel
theorem dX5_partOf_29 : decode cX5_partOf 29 = .ok (.getfield 15, 3) := by decide +kernel
theorem dX5_partOf_32 : decode cX5_partOf 32 = .ok (.iload_n 1, 1) := by decide +kernel
theorem dX5_partOf_33 : decode cX5_partOf 33 = .ok (.iaload, 1) := by decide +kernel
theorem dX5_partOf_34 : decode cX5_partOf 34 = .ok (.ireturn, 1) := by decide +kernel
theorem dX5_partOf_35 : decode cX5_partOf 35 = .ok (.aload_n 0, 1) := by decide +kernel
theorem dX5_partOf_36 : decode cX5_partOf 36 = .ok (.getfield 18, 3) := by decide +kernel
theorem dX5_partOf_39 : decode cX5_partOf 39 = .ok (.iload_n 1, 1) := by decide +kernel
theorem dX5_partOf_40 : decode cX5_partOf 40 = .ok (.iaload, 1) := by decide +kernel
theorem dX5_partOf_41 : decode cX5_partOf 41 = .ok (.ireturn, 1) := by decide +kernel
theorem dX5_partOf_42 : decode cX5_partOf 42 = .ok (.aload_n 0, 1) := by decide +kernel
theorem dX5_partOf_43 : decode cX5_partOf 43 = .ok (.getfield 21, 3) := by decide +kernel
theorem dX5_partOf_46 : decode cX5_partOf 46 = .ok (.iload_n 1, 1) := by decide +kernel
theorem dX5_partOf_47 : decode cX5_partOf 47 = .ok (.iaload, 1) := by decide +kernel
theorem dX5_partOf_48 : decode cX5_partOf 48 = .ok (.ireturn, 1) := by decide +kernel
theorem dX5_putPart_0 : decode cX5_putPart 0 = .ok (.iload_n 2, 1) := by decide +kernel
theorem dX5_putPart_1 : decode cX5_putPart 1 = .ok (.lookupswitch 47 #[(0, 27), (1, 37)], 27) := by decide +kernel
theorem dX5_putPart_28 : decode cX5_putPart 28 = .ok (.aload_n 0, 1) := by decide +kernel
theorem dX5_putPart_29 : decode cX5_putPart 29 = .ok (.getfield 15, 3) := by decide +kernel
theorem dX5_putPart_32 : decode cX5_putPart 32 = .ok (.iload_n 1, 1) := by decide +kernel
theorem dX5_putPart_33 : decode cX5_putPart 33 = .ok (.iload_n 3, 1) := by decide +kernel
theorem dX5_putPart_34 : decode cX5_putPart 34 = .ok (.iastore, 1) := by decide +kernel
theorem dX5_putPart_35 : decode cX5_putPart 35 = .ok (.goto 20, 3) := by decide +kernel
theorem dX5_putPart_38 : decode cX5_putPart 38 = .ok (.aload_n 0, 1) := by decide +kernel
theorem dX5_putPart_39 : decode cX5_putPart 39 = .ok (.getfield 18, 3) := by decide +kernel
theorem dX5_putPart_42 : decode cX5_putPart 42 = .ok (.iload_n 1, 1) := by decide +kernel
theorem dX5_putPart_43 : decode cX5_putPart 43 = .ok (.iload_n 3, 1) := by decide +kernel
theorem dX5_putPart_44 : decode cX5_putPart 44 = .ok (.iastore, 1) := by decide +kernel
theorem dX5_putPart_45 : decode cX5_putPart 45 = .ok (.goto 10, 3) := by decide +kernel
theorem dX5_putPart_48 : decode cX5_putPart 48 = .ok (.aload_n 0, 1) := by decide +kernel
theorem dX5_putPart_49 : decode cX5_putPart 49 = .ok (.getfield 21, 3) := by decide +kernel
theorem dX5_putPart_52 : decode cX5_putPart 52 = .ok (.iload_n 1, 1) := by decide +kernel
theorem dX5_putPart_53 : decode cX5_putPart 53 = .ok (.iload_n 3, 1) := by decide +kernel
theorem dX5_putPart_54 : decode cX5_putPart 54 = .ok (.iastore, 1) := by decide +kernel
theorem dX5_putPart_55 : decode cX5_putPart 55 = .ok (.return_, 1) := by decide +kernel
theorem dX5_isPaired_0 : decode cX5_isPaired 0 = .ok (.aload_n 0, 1) := by decide +kernel
theorem dX5_isPaired_1 : decode cX5_isPaired 1 = .ok (.getfield 33, 3) := by decide +kernel
theorem dX5_isPaired_4 : decode cX5_isPaired 4 = .ok (.iload_n 1, 1) := by decide +kernel
theorem dX5_isPaired_5 : decode cX5_isPaired 5 = .ok (.ishr, 1) := by decide +kernel
theorem dX5_isPaired_6 : decode cX5_isPaired 6 = .ok (.iconst 1, 1) := by decide +kernel
theorem dX5_isPaired_7 : decode cX5_isPaired 7 = .ok (.iand, 1) := by decide +kernel
theorem dX5_isPaired_8 : decode cX5_isPaired 8 = .ok (.iconst 1, 1) := by decide +kernel
theorem dX5_isPaired_9 : decode cX5_isPaired 9 = .ok (.if_icmp .ne 7, 3) := by decide +kernel
theorem dX5_isPaired_12 : decode cX5_isPaired 12 = .ok (.iconst 1, 1) := by decide +kernel
theorem dX5_isPaired_13 : decode cX5_isPaired 13 = .ok (.goto 4, 3) := by decide +kernel
theorem dX5_isPaired_16 : decode cX5_isPaired 16 = .ok (.iconst 0, 1) := by decide +kernel
theorem dX5_isPaired_17 : decode cX5_isPaired 17 = .ok (.ireturn, 1) := by decide +kernel
theorem dX5_isCold_0 : decode cX5_isCold 0 = .ok (.aload_n 0, 1) := by decide +kernel
theorem dX5_isCold_1 : decode cX5_isCold 1 = .ok (.getfield 21, 3) := by decide +kernel
theorem dX5_isCold_4 : decode cX5_isCold 4 = .ok (.iload_n 1, 1) := by decide +kernel
theorem dX5_isCold_5 : decode cX5_isCold 5 = .ok (.iaload, 1) := by decide +kernel
theorem dX5_isCold_6 : decode cX5_isCold 6 = .ok (.ifCond .ne 15, 3) := by decide +kernel
theorem dX5_isCold_9 : decode cX5_isCold 9 = .ok (.aload_n 0, 1) := by decide +kernel
theorem dX5_isCold_10 : decode cX5_isCold 10 = .ok (.iload_n 1, 1) := by decide +kernel
theorem dX5_isCold_11 : decode cX5_isCold 11 = .ok (.invokevirtual 58, 3) := by decide +kernel
theorem dX5_isCold_14 : decode cX5_isCold 14 = .ok (.ifCond .ne 7, 3) := by decide +kernel
theorem dX5_isCold_17 : decode cX5_isCold 17 = .ok (.iconst 1, 1) := by decide +kernel
theorem dX5_isCold_18 : decode cX5_isCold 18 = .ok (.goto 4, 3) := by decide +kernel
theorem dX5_isCold_21 : decode cX5_isCold 21 = .ok (.iconst 0, 1) := by decide +kernel
theorem dX5_isCold_22 : decode cX5_isCold 22 = .ok (.ireturn, 1) := by decide +kernel
theorem dX5_coldOnes_0 : decode cX5_coldOnes 0 = .ok (.iconst 0, 1) := by decide +kernel
theorem dX5_coldOnes_1 : decode cX5_coldOnes 1 = .ok (.istore_n 1, 1) := by decide +kernel
theorem dX5_coldOnes_2 : decode cX5_coldOnes 2 = .ok (.iconst 0, 1) := by decide +kernel
theorem dX5_coldOnes_3 : decode cX5_coldOnes 3 = .ok (.istore_n 2, 1) := by decide +kernel
theorem dX5_coldOnes_4 : decode cX5_coldOnes 4 = .ok (.iload_n 2, 1) := by decide +kernel
theorem dX5_coldOnes_5 : decode cX5_coldOnes 5 = .ok (.aload_n 0, 1) := by decide +kernel
theorem dX5_coldOnes_6 : decode cX5_coldOnes 6 = .ok (.getfield 37, 3) := by decide +kernel
theorem dX5_coldOnes_9 : decode cX5_coldOnes 9 = .ok (.if_icmp .ge 23, 3) := by decide +kernel
theorem dX5_coldOnes_12 : decode cX5_coldOnes 12 = .ok (.aload_n 0, 1) := by decide +kernel
theorem dX5_coldOnes_13 : decode cX5_coldOnes 13 = .ok (.iload_n 2, 1) := by decide +kernel
theorem dX5_coldOnes_14 : decode cX5_coldOnes 14 = .ok (.invokevirtual 62, 3) := by decide +kernel
theorem dX5_coldOnes_17 : decode cX5_coldOnes 17 = .ok (.ifCond .eq 9, 3) := by decide +kernel
theorem dX5_coldOnes_20 : decode cX5_coldOnes 20 = .ok (.iload_n 1, 1) := by decide +kernel
theorem dX5_coldOnes_21 : decode cX5_coldOnes 21 = .ok (.iconst 1, 1) := by decide +kernel
theorem dX5_coldOnes_22 : decode cX5_coldOnes 22 = .ok (.iload_n 2, 1) := by decide +kernel
theorem dX5_coldOnes_23 : decode cX5_coldOnes 23 = .ok (.ishl, 1) := by decide +kernel
theorem dX5_coldOnes_24 : decode cX5_coldOnes 24 = .ok (.ior, 1) := by decide +kernel
theorem dX5_coldOnes_25 : decode cX5_coldOnes 25 = .ok (.istore_n 1, 1) := by decide +kernel
theorem dX5_coldOnes_26 : decode cX5_coldOnes 26 = .ok (.iinc 2 1, 3) := by decide +kernel
theorem dX5_coldOnes_29 : decode cX5_coldOnes 29 = .ok (.goto (-25), 3) := by decide +kernel
theorem dX5_coldOnes_32 : decode cX5_coldOnes 32 = .ok (.iload_n 1, 1) := by decide +kernel
theorem dX5_coldOnes_33 : decode cX5_coldOnes 33 = .ok (.ireturn, 1) := by decide +kernel
theorem dX5_glovesAt_0 : decode cX5_glovesAt 0 = .ok (.iconst 0, 1) := by decide +kernel
theorem dX5_glovesAt_1 : decode cX5_glovesAt 1 = .ok (.istore_n 2, 1) := by decide +kernel
theorem dX5_glovesAt_2 : decode cX5_glovesAt 2 = .ok (.iconst 0, 1) := by decide +kernel
theorem dX5_glovesAt_3 : decode cX5_glovesAt 3 = .ok (.istore_n 3, 1) := by decide +kernel
theorem dX5_glovesAt_4 : decode cX5_glovesAt 4 = .ok (.iload_n 3, 1) := by decide +kernel
theorem dX5_glovesAt_5 : decode cX5_glovesAt 5 = .ok (.aload_n 0, 1) := by decide +kernel
theorem dX5_glovesAt_6 : decode cX5_glovesAt 6 = .ok (.getfield 37, 3) := by decide +kernel
theorem dX5_glovesAt_9 : decode cX5_glovesAt 9 = .ok (.if_icmp .ge 25, 3) := by decide +kernel
theorem dX5_glovesAt_12 : decode cX5_glovesAt 12 = .ok (.aload_n 0, 1) := by decide +kernel
theorem dX5_glovesAt_13 : decode cX5_glovesAt 13 = .ok (.getfield 18, 3) := by decide +kernel
theorem dX5_glovesAt_16 : decode cX5_glovesAt 16 = .ok (.iload_n 3, 1) := by decide +kernel
theorem dX5_glovesAt_17 : decode cX5_glovesAt 17 = .ok (.iaload, 1) := by decide +kernel
theorem dX5_glovesAt_18 : decode cX5_glovesAt 18 = .ok (.iload_n 1, 1) := by decide +kernel
theorem dX5_glovesAt_19 : decode cX5_glovesAt 19 = .ok (.if_icmp .ne 9, 3) := by decide +kernel
theorem dX5_glovesAt_22 : decode cX5_glovesAt 22 = .ok (.iload_n 2, 1) := by decide +kernel
theorem dX5_glovesAt_23 : decode cX5_glovesAt 23 = .ok (.iconst 1, 1) := by decide +kernel
theorem dX5_glovesAt_24 : decode cX5_glovesAt 24 = .ok (.iload_n 3, 1) := by decide +kernel
theorem dX5_glovesAt_25 : decode cX5_glovesAt 25 = .ok (.ishl, 1) := by decide +kernel
theorem dX5_glovesAt_26 : decode cX5_glovesAt 26 = .ok (.ior, 1) := by decide +kernel
theorem dX5_glovesAt_27 : decode cX5_glovesAt 27 = .ok (.istore_n 2, 1) := by decide +kernel
theorem dX5_glovesAt_28 : decode cX5_glovesAt 28 = .ok (.iinc 3 1, 3) := by decide +kernel
theorem dX5_glovesAt_31 : decode cX5_glovesAt 31 = .ok (.goto (-27), 3) := by decide +kernel
theorem dX5_glovesAt_34 : decode cX5_glovesAt 34 = .ok (.iload_n 2, 1) := by decide +kernel
theorem dX5_glovesAt_35 : decode cX5_glovesAt 35 = .ok (.ireturn, 1) := by decide +kernel
theorem dX5_metCount_0 : decode cX5_metCount 0 = .ok (.aload_n 0, 1) := by decide +kernel
theorem dX5_metCount_1 : decode cX5_metCount 1 = .ok (.getfield 33, 3) := by decide +kernel
theorem dX5_metCount_4 : decode cX5_metCount 4 = .ok (.invokestatic 65, 3) := by decide +kernel
theorem dX5_metCount_7 : decode cX5_metCount 7 = .ok (.ireturn, 1) := by decide +kernel
theorem dX5_leaveOutCall_0 : decode cX5_leaveOutCall 0 = .ok (.iload_n 1, 1) := by decide +kernel
theorem dX5_leaveOutCall_1 : decode cX5_leaveOutCall 1 = .ok (.istore_n 2, 1) := by decide +kernel
theorem dX5_leaveOutCall_2 : decode cX5_leaveOutCall 2 = .ok (.iload_n 2, 1) := by decide +kernel
theorem dX5_leaveOutCall_3 : decode cX5_leaveOutCall 3 = .ok (.iconst 1, 1) := by decide +kernel
theorem dX5_leaveOutCall_4 : decode cX5_leaveOutCall 4 = .ok (.iadd, 1) := by decide +kernel
theorem dX5_leaveOutCall_5 : decode cX5_leaveOutCall 5 = .ok (.aload_n 0, 1) := by decide +kernel
theorem dX5_leaveOutCall_6 : decode cX5_leaveOutCall 6 = .ok (.getfield 40, 3) := by decide +kernel
theorem dX5_leaveOutCall_9 : decode cX5_leaveOutCall 9 = .ok (.if_icmp .ge 23, 3) := by decide +kernel
theorem dX5_leaveOutCall_12 : decode cX5_leaveOutCall 12 = .ok (.aload_n 0, 1) := by decide +kernel
theorem dX5_leaveOutCall_13 : decode cX5_leaveOutCall 13 = .ok (.getfield 24, 3) := by decide +kernel
theorem dX5_leaveOutCall_16 : decode cX5_leaveOutCall 16 = .ok (.iload_n 2, 1) := by decide +kernel
theorem dX5_leaveOutCall_17 : decode cX5_leaveOutCall 17 = .ok (.aload_n 0, 1) := by decide +kernel
theorem dX5_leaveOutCall_18 : decode cX5_leaveOutCall 18 = .ok (.getfield 24, 3) := by decide +kernel
theorem dX5_leaveOutCall_21 : decode cX5_leaveOutCall 21 = .ok (.iload_n 2, 1) := by decide +kernel
theorem dX5_leaveOutCall_22 : decode cX5_leaveOutCall 22 = .ok (.iconst 1, 1) := by decide +kernel
theorem dX5_leaveOutCall_23 : decode cX5_leaveOutCall 23 = .ok (.iadd, 1) := by decide +kernel
theorem dX5_leaveOutCall_24 : decode cX5_leaveOutCall 24 = .ok (.iaload, 1) := by decide +kernel
theorem dX5_leaveOutCall_25 : decode cX5_leaveOutCall 25 = .ok (.iastore, 1) := by decide +kernel
theorem dX5_leaveOutCall_26 : decode cX5_leaveOutCall 26 = .ok (.iinc 2 1, 3) := by decide +kernel
theorem dX5_leaveOutCall_29 : decode cX5_leaveOutCall 29 = .ok (.goto (-27), 3) := by decide +kernel
theorem dX5_leaveOutCall_32 : decode cX5_leaveOutCall 32 = .ok (.aload_n 0, 1) := by decide +kernel
theorem dX5_leaveOutCall_33 : decode cX5_leaveOutCall 33 = .ok (.dup, 1) := by decide +kernel
theorem dX5_leaveOutCall_34 : decode cX5_leaveOutCall 34 = .ok (.getfield 40, 3) := by decide +kernel
theorem dX5_leaveOutCall_37 : decode cX5_leaveOutCall 37 = .ok (.iconst 1, 1) := by decide +kernel
theorem dX5_leaveOutCall_38 : decode cX5_leaveOutCall 38 = .ok (.isub, 1) := by decide +kernel
theorem dX5_leaveOutCall_39 : decode cX5_leaveOutCall 39 = .ok (.putfield 40, 3) := by decide +kernel
theorem dX5_leaveOutCall_42 : decode cX5_leaveOutCall 42 = .ok (.return_, 1) := by decide +kernel
theorem dX5_stepOf_0 : decode cX5_stepOf 0 = .ok (.aload_n 0, 1) := by decide +kernel
theorem dX5_stepOf_1 : decode cX5_stepOf 1 = .ok (.getfield 18, 3) := by decide +kernel
theorem dX5_stepOf_4 : decode cX5_stepOf 4 = .ok (.iload_n 1, 1) := by decide +kernel
theorem dX5_stepOf_5 : decode cX5_stepOf 5 = .ok (.iaload, 1) := by decide +kernel
theorem dX5_stepOf_6 : decode cX5_stepOf 6 = .ok (.iconst 1, 1) := by decide +kernel
theorem dX5_stepOf_7 : decode cX5_stepOf 7 = .ok (.iadd, 1) := by decide +kernel
theorem dX5_stepOf_8 : decode cX5_stepOf 8 = .ok (.bipush 12, 2) := by decide +kernel
theorem dX5_stepOf_10 : decode cX5_stepOf 10 = .ok (.irem, 1) := by decide +kernel
theorem dX5_stepOf_11 : decode cX5_stepOf 11 = .ok (.istore_n 2, 1) := by decide +kernel
theorem dX5_stepOf_12 : decode cX5_stepOf 12 = .ok (.aload_n 0, 1) := by decide +kernel
theorem dX5_stepOf_13 : decode cX5_stepOf 13 = .ok (.getfield 18, 3) := by decide +kernel
theorem dX5_stepOf_16 : decode cX5_stepOf 16 = .ok (.iload_n 1, 1) := by decide +kernel
theorem dX5_stepOf_17 : decode cX5_stepOf 17 = .ok (.iaload, 1) := by decide +kernel
theorem dX5_stepOf_18 : decode cX5_stepOf 18 = .ok (.bipush 12, 2) := by decide +kernel
theorem dX5_stepOf_20 : decode cX5_stepOf 20 = .ok (.iadd, 1) := by decide +kernel
theorem dX5_stepOf_21 : decode cX5_stepOf 21 = .ok (.iconst 1, 1) := by decide +kernel
theorem dX5_stepOf_22 : decode cX5_stepOf 22 = .ok (.isub, 1) := by decide +kernel
theorem dX5_stepOf_23 : decode cX5_stepOf 23 = .ok (.bipush 12, 2) := by decide +kernel
theorem dX5_stepOf_25 : decode cX5_stepOf 25 = .ok (.irem, 1) := by decide +kernel
theorem dX5_stepOf_26 : decode cX5_stepOf 26 = .ok (.istore_n 3, 1) := by decide +kernel
theorem dX5_stepOf_27 : decode cX5_stepOf 27 = .ok (.aload_n 0, 1) := by decide +kernel
theorem dX5_stepOf_28 : decode cX5_stepOf 28 = .ok (.getfield 15, 3) := by decide +kernel
theorem dX5_stepOf_31 : decode cX5_stepOf 31 = .ok (.iload_n 1, 1) := by decide +kernel
theorem dX5_stepOf_32 : decode cX5_stepOf 32 = .ok (.iaload, 1) := by decide +kernel
theorem dX5_stepOf_33 : decode cX5_stepOf 33 = .ok (.tableswitch 61 0 2 #[27, 29, 36], 27) := by decide +kernel
theorem dX5_stepOf_60 : decode cX5_stepOf 60 = .ok (.iload_n 2, 1) := by decide +kernel
theorem dX5_stepOf_61 : decode cX5_stepOf 61 = .ok (.ireturn, 1) := by decide +kernel
theorem dX5_stepOf_62 : decode cX5_stepOf 62 = .ok (.iload_n 2, 1) := by decide +kernel
theorem dX5_stepOf_63 : decode cX5_stepOf 63 = .ok (.iconst 1, 1) := by decide +kernel
theorem dX5_stepOf_64 : decode cX5_stepOf 64 = .ok (.iadd, 1) := by decide +kernel
theorem dX5_stepOf_65 : decode cX5_stepOf 65 = .ok (.bipush 12, 2) := by decide +kernel
theorem dX5_stepOf_67 : decode cX5_stepOf 67 = .ok (.irem, 1) := by decide +kernel
theorem dX5_stepOf_68 : decode cX5_stepOf 68 = .ok (.ireturn, 1) := by decide +kernel
theorem dX5_stepOf_69 : decode cX5_stepOf 69 = .ok (.iload_n 3, 1) := by decide +kernel
theorem dX5_stepOf_70 : decode cX5_stepOf 70 = .ok (.aload_n 0, 1) := by decide +kernel
theorem dX5_stepOf_71 : decode cX5_stepOf 71 = .ok (.getfield 43, 3) := by decide +kernel
theorem dX5_stepOf_74 : decode cX5_stepOf 74 = .ok (.invokestatic 71, 3) := by decide +kernel
theorem dX5_stepOf_77 : decode cX5_stepOf 77 = .ok (.iload_n 2, 1) := by decide +kernel
theorem dX5_stepOf_78 : decode cX5_stepOf 78 = .ok (.aload_n 0, 1) := by decide +kernel
theorem dX5_stepOf_79 : decode cX5_stepOf 79 = .ok (.getfield 43, 3) := by decide +kernel
theorem dX5_stepOf_82 : decode cX5_stepOf 82 = .ok (.invokestatic 71, 3) := by decide +kernel
theorem dX5_stepOf_85 : decode cX5_stepOf 85 = .ok (.if_icmp .le 7, 3) := by decide +kernel
theorem dX5_stepOf_88 : decode cX5_stepOf 88 = .ok (.iload_n 3, 1) := by decide +kernel
theorem dX5_stepOf_89 : decode cX5_stepOf 89 = .ok (.goto 4, 3) := by decide +kernel
theorem dX5_stepOf_92 : decode cX5_stepOf 92 = .ok (.iload_n 2, 1) := by decide +kernel
theorem dX5_stepOf_93 : decode cX5_stepOf 93 = .ok (.ireturn, 1) := by decide +kernel
theorem dX5_stepOf_94 : decode cX5_stepOf 94 = .ok (.iload_n 3, 1) := by decide +kernel
theorem dX5_stepOf_95 : decode cX5_stepOf 95 = .ok (.aload_n 0, 1) := by decide +kernel
theorem dX5_stepOf_96 : decode cX5_stepOf 96 = .ok (.getfield 43, 3) := by decide +kernel
theorem dX5_stepOf_99 : decode cX5_stepOf 99 = .ok (.invokestatic 71, 3) := by decide +kernel
theorem dX5_stepOf_102 : decode cX5_stepOf 102 = .ok (.iload_n 2, 1) := by decide +kernel
theorem dX5_stepOf_103 : decode cX5_stepOf 103 = .ok (.aload_n 0, 1) := by decide +kernel
theorem dX5_stepOf_104 : decode cX5_stepOf 104 = .ok (.getfield 43, 3) := by decide +kernel
theorem dX5_stepOf_107 : decode cX5_stepOf 107 = .ok (.invokestatic 71, 3) := by decide +kernel
theorem dX5_stepOf_110 : decode cX5_stepOf 110 = .ok (.if_icmp .ge 7, 3) := by decide +kernel
theorem dX5_stepOf_113 : decode cX5_stepOf 113 = .ok (.iload_n 3, 1) := by decide +kernel
theorem dX5_stepOf_114 : decode cX5_stepOf 114 = .ok (.goto 4, 3) := by decide +kernel
theorem dX5_stepOf_117 : decode cX5_stepOf 117 = .ok (.iload_n 2, 1) := by decide +kernel
theorem dX5_stepOf_118 : decode cX5_stepOf 118 = .ok (.ireturn, 1) := by decide +kernel
theorem dX5_moveMan_0 : decode cX5_moveMan 0 = .ok (.aload_n 0, 1) := by decide +kernel
theorem dX5_moveMan_1 : decode cX5_moveMan 1 = .ok (.iload_n 1, 1) := by decide +kernel
theorem dX5_moveMan_2 : decode cX5_moveMan 2 = .ok (.putfield 43, 3) := by decide +kernel
theorem dX5_moveMan_5 : decode cX5_moveMan 5 = .ok (.iconst 0, 1) := by decide +kernel
theorem dX5_moveMan_6 : decode cX5_moveMan 6 = .ok (.istore_n 2, 1) := by decide +kernel
theorem dX5_moveMan_7 : decode cX5_moveMan 7 = .ok (.iload_n 2, 1) := by decide +kernel
theorem dX5_moveMan_8 : decode cX5_moveMan 8 = .ok (.aload_n 0, 1) := by decide +kernel
theorem dX5_moveMan_9 : decode cX5_moveMan 9 = .ok (.getfield 37, 3) := by decide +kernel
theorem dX5_moveMan_12 : decode cX5_moveMan 12 = .ok (.if_icmp .ge 24, 3) := by decide +kernel
theorem dX5_moveMan_15 : decode cX5_moveMan 15 = .ok (.aload_n 0, 1) := by decide +kernel
theorem dX5_moveMan_16 : decode cX5_moveMan 16 = .ok (.iload_n 2, 1) := by decide +kernel
theorem dX5_moveMan_17 : decode cX5_moveMan 17 = .ok (.invokevirtual 58, 3) := by decide +kernel
theorem dX5_moveMan_20 : decode cX5_moveMan 20 = .ok (.ifCond .eq 10, 3) := by decide +kernel
theorem dX5_moveMan_23 : decode cX5_moveMan 23 = .ok (.aload_n 0, 1) := by decide +kernel
theorem dX5_moveMan_24 : decode cX5_moveMan 24 = .ok (.getfield 18, 3) := by decide +kernel
theorem dX5_moveMan_27 : decode cX5_moveMan 27 = .ok (.iload_n 2, 1) := by decide +kernel
theorem dX5_moveMan_28 : decode cX5_moveMan 28 = .ok (.iload_n 1, 1) := by decide +kernel
theorem dX5_moveMan_29 : decode cX5_moveMan 29 = .ok (.iastore, 1) := by decide +kernel
theorem dX5_moveMan_30 : decode cX5_moveMan 30 = .ok (.iinc 2 1, 3) := by decide +kernel
theorem dX5_moveMan_33 : decode cX5_moveMan 33 = .ok (.goto (-26), 3) := by decide +kernel
theorem dX5_moveMan_36 : decode cX5_moveMan 36 = .ok (.return_, 1) := by decide +kernel
theorem dX5_passDays_0 : decode cX5_passDays 0 = .ok (.iconst 0, 1) := by decide +kernel
theorem dX5_passDays_1 : decode cX5_passDays 1 = .ok (.istore_n 2, 1) := by decide +kernel
theorem dX5_passDays_2 : decode cX5_passDays 2 = .ok (.iload_n 2, 1) := by decide +kernel
theorem dX5_passDays_3 : decode cX5_passDays 3 = .ok (.iload_n 1, 1) := by decide +kernel
theorem dX5_passDays_4 : decode cX5_passDays 4 = .ok (.if_icmp .ge 41, 3) := by decide +kernel
theorem dX5_passDays_7 : decode cX5_passDays 7 = .ok (.aload_n 0, 1) := by decide +kernel
theorem dX5_passDays_8 : decode cX5_passDays 8 = .ok (.aload_n 0, 1) := by decide +kernel
theorem dX5_passDays_9 : decode cX5_passDays 9 = .ok (.getfield 40, 3) := by decide +kernel
theorem dX5_passDays_12 : decode cX5_passDays 12 = .ok (.ifCond .le 20, 3) := by decide +kernel
theorem dX5_passDays_15 : decode cX5_passDays 15 = .ok (.aload_n 0, 1) := by decide +kernel
theorem dX5_passDays_16 : decode cX5_passDays 16 = .ok (.getfield 24, 3) := by decide +kernel
theorem dX5_passDays_19 : decode cX5_passDays 19 = .ok (.aload_n 0, 1) := by decide +kernel
theorem dX5_passDays_20 : decode cX5_passDays 20 = .ok (.getfield 49, 3) := by decide +kernel
theorem dX5_passDays_23 : decode cX5_passDays 23 = .ok (.aload_n 0, 1) := by decide +kernel
theorem dX5_passDays_24 : decode cX5_passDays 24 = .ok (.getfield 40, 3) := by decide +kernel
theorem dX5_passDays_27 : decode cX5_passDays 27 = .ok (.irem, 1) := by decide +kernel
theorem dX5_passDays_28 : decode cX5_passDays 28 = .ok (.iaload, 1) := by decide +kernel
theorem dX5_passDays_29 : decode cX5_passDays 29 = .ok (.goto 7, 3) := by decide +kernel
theorem dX5_passDays_32 : decode cX5_passDays 32 = .ok (.aload_n 0, 1) := by decide +kernel
theorem dX5_passDays_33 : decode cX5_passDays 33 = .ok (.getfield 43, 3) := by decide +kernel
theorem dX5_passDays_36 : decode cX5_passDays 36 = .ok (.invokevirtual 75, 3) := by decide +kernel
theorem dX5_passDays_39 : decode cX5_passDays 39 = .ok (.iinc 2 1, 3) := by decide +kernel
theorem dX5_passDays_42 : decode cX5_passDays 42 = .ok (.goto (-40), 3) := by decide +kernel
theorem dX5_passDays_45 : decode cX5_passDays 45 = .ok (.return_, 1) := by decide +kernel
theorem dX5_passDay_0 : decode cX5_passDay 0 = .ok (.aload_n 0, 1) := by decide +kernel
theorem dX5_passDay_1 : decode cX5_passDay 1 = .ok (.iload_n 1, 1) := by decide +kernel
theorem dX5_passDay_2 : decode cX5_passDay 2 = .ok (.putfield 43, 3) := by decide +kernel
theorem dX5_passDay_5 : decode cX5_passDay 5 = .ok (.iconst 0, 1) := by decide +kernel
theorem dX5_passDay_6 : decode cX5_passDay 6 = .ok (.istore_n 2, 1) := by decide +kernel
theorem dX5_passDay_7 : decode cX5_passDay 7 = .ok (.iload_n 2, 1) := by decide +kernel
theorem dX5_passDay_8 : decode cX5_passDay 8 = .ok (.aload_n 0, 1) := by decide +kernel
theorem dX5_passDay_9 : decode cX5_passDay 9 = .ok (.getfield 37, 3) := by decide +kernel
theorem dX5_passDay_12 : decode cX5_passDay 12 = .ok (.if_icmp .ge 14, 3) := by decide +kernel
theorem dX5_passDay_15 : decode cX5_passDay 15 = .ok (.aload_n 0, 1) := by decide +kernel
theorem dX5_passDay_16 : decode cX5_passDay 16 = .ok (.iload_n 2, 1) := by decide +kernel
theorem dX5_passDay_17 : decode cX5_passDay 17 = .ok (.invokevirtual 79, 3) := by decide +kernel
theorem dX5_passDay_20 : decode cX5_passDay 20 = .ok (.iinc 2 1, 3) := by decide +kernel
theorem dX5_passDay_23 : decode cX5_passDay 23 = .ok (.goto (-16), 3) := by decide +kernel
theorem dX5_passDay_26 : decode cX5_passDay 26 = .ok (.aload_n 0, 1) := by decide +kernel
theorem dX5_passDay_27 : decode cX5_passDay 27 = .ok (.dup, 1) := by decide +kernel
theorem dX5_passDay_28 : decode cX5_passDay 28 = .ok (.getfield 49, 3) := by decide +kernel
theorem dX5_passDay_31 : decode cX5_passDay 31 = .ok (.iconst 1, 1) := by decide +kernel
theorem dX5_passDay_32 : decode cX5_passDay 32 = .ok (.iadd, 1) := by decide +kernel
theorem dX5_passDay_33 : decode cX5_passDay 33 = .ok (.putfield 49, 3) := by decide +kernel
theorem dX5_passDay_36 : decode cX5_passDay 36 = .ok (.return_, 1) := by decide +kernel
theorem dX5_passDayOfGlove_0 : decode cX5_passDayOfGlove 0 = .ok (.aload_n 0, 1) := by decide +kernel
theorem dX5_passDayOfGlove_1 : decode cX5_passDayOfGlove 1 = .ok (.iload_n 1, 1) := by decide +kernel
theorem dX5_passDayOfGlove_2 : decode cX5_passDayOfGlove 2 = .ok (.invokevirtual 58, 3) := by decide +kernel
theorem dX5_passDayOfGlove_5 : decode cX5_passDayOfGlove 5 = .ok (.ifCond .eq 33, 3) := by decide +kernel
theorem dX5_passDayOfGlove_8 : decode cX5_passDayOfGlove 8 = .ok (.aload_n 0, 1) := by decide +kernel
theorem dX5_passDayOfGlove_9 : decode cX5_passDayOfGlove 9 = .ok (.getfield 18, 3) := by decide +kernel
theorem dX5_passDayOfGlove_12 : decode cX5_passDayOfGlove 12 = .ok (.iload_n 1, 1) := by decide +kernel
theorem dX5_passDayOfGlove_13 : decode cX5_passDayOfGlove 13 = .ok (.aload_n 0, 1) := by decide +kernel
theorem dX5_passDayOfGlove_14 : decode cX5_passDayOfGlove 14 = .ok (.getfield 43, 3) := by decide +kernel
theorem dX5_passDayOfGlove_17 : decode cX5_passDayOfGlove 17 = .ok (.iastore, 1) := by decide +kernel
theorem dX5_passDayOfGlove_18 : decode cX5_passDayOfGlove 18 = .ok (.aload_n 0, 1) := by decide +kernel
theorem dX5_passDayOfGlove_19 : decode cX5_passDayOfGlove 19 = .ok (.getfield 21, 3) := by decide +kernel
theorem dX5_passDayOfGlove_22 : decode cX5_passDayOfGlove 22 = .ok (.iload_n 1, 1) := by decide +kernel
theorem dX5_passDayOfGlove_23 : decode cX5_passDayOfGlove 23 = .ok (.aload_n 0, 1) := by decide +kernel
theorem dX5_passDayOfGlove_24 : decode cX5_passDayOfGlove 24 = .ok (.getfield 21, 3) := by decide +kernel
theorem dX5_passDayOfGlove_27 : decode cX5_passDayOfGlove 27 = .ok (.iload_n 1, 1) := by decide +kernel
theorem dX5_passDayOfGlove_28 : decode cX5_passDayOfGlove 28 = .ok (.iaload, 1) := by decide +kernel
theorem dX5_passDayOfGlove_29 : decode cX5_passDayOfGlove 29 = .ok (.iconst 1, 1) := by decide +kernel
theorem dX5_passDayOfGlove_30 : decode cX5_passDayOfGlove 30 = .ok (.iadd, 1) := by decide +kernel
theorem dX5_passDayOfGlove_31 : decode cX5_passDayOfGlove 31 = .ok (.bipush 20, 2) := by decide +kernel
theorem dX5_passDayOfGlove_33 : decode cX5_passDayOfGlove 33 = .ok (.invokestatic 82, 3) := by decide +kernel
theorem dX5_passDayOfGlove_36 : decode cX5_passDayOfGlove 36 = .ok (.iastore, 1) := by decide +kernel
theorem dX5_passDayOfGlove_37 : decode cX5_passDayOfGlove 37 = .ok (.return_, 1) := by decide +kernel
theorem dX5_passDayOfGlove_38 : decode cX5_passDayOfGlove 38 = .ok (.aload_n 0, 1) := by decide +kernel
theorem dX5_passDayOfGlove_39 : decode cX5_passDayOfGlove 39 = .ok (.iload_n 1, 1) := by decide +kernel
theorem dX5_passDayOfGlove_40 : decode cX5_passDayOfGlove 40 = .ok (.invokevirtual 62, 3) := by decide +kernel
theorem dX5_passDayOfGlove_43 : decode cX5_passDayOfGlove 43 = .ok (.ifCond .eq 4, 3) := by decide +kernel
theorem dX5_passDayOfGlove_46 : decode cX5_passDayOfGlove 46 = .ok (.return_, 1) := by decide +kernel
theorem dX5_passDayOfGlove_47 : decode cX5_passDayOfGlove 47 = .ok (.aload_n 0, 1) := by decide +kernel
theorem dX5_passDayOfGlove_48 : decode cX5_passDayOfGlove 48 = .ok (.getfield 18, 3) := by decide +kernel
theorem dX5_passDayOfGlove_51 : decode cX5_passDayOfGlove 51 = .ok (.iload_n 1, 1) := by decide +kernel
theorem dX5_passDayOfGlove_52 : decode cX5_passDayOfGlove 52 = .ok (.aload_n 0, 1) := by decide +kernel
theorem dX5_passDayOfGlove_53 : decode cX5_passDayOfGlove 53 = .ok (.iload_n 1, 1) := by decide +kernel
theorem dX5_passDayOfGlove_54 : decode cX5_passDayOfGlove 54 = .ok (.invokevirtual 87, 3) := by decide +kernel
theorem dX5_passDayOfGlove_57 : decode cX5_passDayOfGlove 57 = .ok (.iastore, 1) := by decide +kernel
theorem dX5_passDayOfGlove_58 : decode cX5_passDayOfGlove 58 = .ok (.aload_n 0, 1) := by decide +kernel
theorem dX5_passDayOfGlove_59 : decode cX5_passDayOfGlove 59 = .ok (.getfield 18, 3) := by decide +kernel
theorem dX5_passDayOfGlove_62 : decode cX5_passDayOfGlove 62 = .ok (.iload_n 1, 1) := by decide +kernel
theorem dX5_passDayOfGlove_63 : decode cX5_passDayOfGlove 63 = .ok (.iaload, 1) := by decide +kernel
theorem dX5_passDayOfGlove_64 : decode cX5_passDayOfGlove 64 = .ok (.aload_n 0, 1) := by decide +kernel
theorem dX5_passDayOfGlove_65 : decode cX5_passDayOfGlove 65 = .ok (.getfield 43, 3) := by decide +kernel
theorem dX5_passDayOfGlove_68 : decode cX5_passDayOfGlove 68 = .ok (.if_icmp .ne 16, 3) := by decide +kernel
theorem dX5_passDayOfGlove_71 : decode cX5_passDayOfGlove 71 = .ok (.aload_n 0, 1) := by decide +kernel
theorem dX5_passDayOfGlove_72 : decode cX5_passDayOfGlove 72 = .ok (.dup, 1) := by decide +kernel
theorem dX5_passDayOfGlove_73 : decode cX5_passDayOfGlove 73 = .ok (.getfield 33, 3) := by decide +kernel
theorem dX5_passDayOfGlove_76 : decode cX5_passDayOfGlove 76 = .ok (.iconst 1, 1) := by decide +kernel
theorem dX5_passDayOfGlove_77 : decode cX5_passDayOfGlove 77 = .ok (.iload_n 1, 1) := by decide +kernel
theorem dX5_passDayOfGlove_78 : decode cX5_passDayOfGlove 78 = .ok (.ishl, 1) := by decide +kernel
theorem dX5_passDayOfGlove_79 : decode cX5_passDayOfGlove 79 = .ok (.ior, 1) := by decide +kernel
theorem dX5_passDayOfGlove_80 : decode cX5_passDayOfGlove 80 = .ok (.putfield 33, 3) := by decide +kernel
theorem dX5_passDayOfGlove_83 : decode cX5_passDayOfGlove 83 = .ok (.return_, 1) := by decide +kernel
theorem dX5_passDayOfGlove_84 : decode cX5_passDayOfGlove 84 = .ok (.aload_n 0, 1) := by decide +kernel
theorem dX5_passDayOfGlove_85 : decode cX5_passDayOfGlove 85 = .ok (.aload_n 0, 1) := by decide +kernel
theorem dX5_passDayOfGlove_86 : decode cX5_passDayOfGlove 86 = .ok (.getfield 46, 3) := by decide +kernel
theorem dX5_passDayOfGlove_89 : decode cX5_passDayOfGlove 89 = .ok (.aload_n 0, 1) := by decide +kernel
theorem dX5_passDayOfGlove_90 : decode cX5_passDayOfGlove 90 = .ok (.getfield 9, 3) := by decide +kernel
theorem dX5_passDayOfGlove_93 : decode cX5_passDayOfGlove 93 = .ok (.aload_n 0, 1) := by decide +kernel
theorem dX5_passDayOfGlove_94 : decode cX5_passDayOfGlove 94 = .ok (.getfield 18, 3) := by decide +kernel
theorem dX5_passDayOfGlove_97 : decode cX5_passDayOfGlove 97 = .ok (.iload_n 1, 1) := by decide +kernel
theorem dX5_passDayOfGlove_98 : decode cX5_passDayOfGlove 98 = .ok (.iaload, 1) := by decide +kernel
theorem dX5_passDayOfGlove_99 : decode cX5_passDayOfGlove 99 = .ok (.iaload, 1) := by decide +kernel
theorem dX5_passDayOfGlove_100 : decode cX5_passDayOfGlove 100 = .ok (.iadd, 1) := by decide +kernel
theorem dX5_passDayOfGlove_101 : decode cX5_passDayOfGlove 101 = .ok (.sipush 9999, 3) := by decide +kernel
theorem dX5_passDayOfGlove_104 : decode cX5_passDayOfGlove 104 = .ok (.invokestatic 82, 3) := by decide +kernel
theorem dX5_passDayOfGlove_107 : decode cX5_passDayOfGlove 107 = .ok (.putfield 46, 3) := by decide +kernel
theorem dX5_passDayOfGlove_110 : decode cX5_passDayOfGlove 110 = .ok (.aload_n 0, 1) := by decide +kernel
theorem dX5_passDayOfGlove_111 : decode cX5_passDayOfGlove 111 = .ok (.getfield 21, 3) := by decide +kernel
theorem dX5_passDayOfGlove_114 : decode cX5_passDayOfGlove 114 = .ok (.iload_n 1, 1) := by decide +kernel
theorem dX5_passDayOfGlove_115 : decode cX5_passDayOfGlove 115 = .ok (.dup2, 1) := by decide +kernel
theorem dX5_passDayOfGlove_116 : decode cX5_passDayOfGlove 116 = .ok (.iaload, 1) := by decide +kernel
theorem dX5_passDayOfGlove_117 : decode cX5_passDayOfGlove 117 = .ok (.iconst 1, 1) := by decide +kernel
theorem dX5_passDayOfGlove_118 : decode cX5_passDayOfGlove 118 = .ok (.isub, 1) := by decide +kernel
theorem dX5_passDayOfGlove_119 : decode cX5_passDayOfGlove 119 = .ok (.iastore, 1) := by decide +kernel
theorem dX5_passDayOfGlove_120 : decode cX5_passDayOfGlove 120 = .ok (.return_, 1) := by decide +kernel
theorem dJ6_bitCount_0f7a4_0 : decode cJ6_bitCount_0f7a4 0 = .ok (.iload_n 0, 1) := by decide +kernel
theorem dJ6_bitCount_0f7a4_1 : decode cJ6_bitCount_0f7a4 1 = .ok (.iload_n 0, 1) := by decide +kernel
theorem dJ6_bitCount_0f7a4_2 : decode cJ6_bitCount_0f7a4 2 = .ok (.iconst 1, 1) := by decide +kernel
theorem dJ6_bitCount_0f7a4_3 : decode cJ6_bitCount_0f7a4 3 = .ok (.iushr, 1) := by decide +kernel
theorem dJ6_bitCount_0f7a4_4 : decode cJ6_bitCount_0f7a4 4 = .ok (.ldc_w 265, 3) := by decide +kernel
theorem dJ6_bitCount_0f7a4_7 : decode cJ6_bitCount_0f7a4 7 = .ok (.iand, 1) := by decide +kernel
theorem dJ6_bitCount_0f7a4_8 : decode cJ6_bitCount_0f7a4 8 = .ok (.isub, 1) := by decide +kernel
theorem dJ6_bitCount_0f7a4_9 : decode cJ6_bitCount_0f7a4 9 = .ok (.istore_n 0, 1) := by decide +kernel
theorem dJ6_bitCount_0f7a4_10 : decode cJ6_bitCount_0f7a4 10 = .ok (.iload_n 0, 1) := by decide +kernel
theorem dJ6_bitCount_0f7a4_11 : decode cJ6_bitCount_0f7a4 11 = .ok (.ldc_w 266, 3) := by decide +kernel
theorem dJ6_bitCount_0f7a4_14 : decode cJ6_bitCount_0f7a4 14 = .ok (.iand, 1) := by decide +kernel
theorem dJ6_bitCount_0f7a4_15 : decode cJ6_bitCount_0f7a4 15 = .ok (.iload_n 0, 1) := by decide +kernel
theorem dJ6_bitCount_0f7a4_16 : decode cJ6_bitCount_0f7a4 16 = .ok (.iconst 2, 1) := by decide +kernel
theorem dJ6_bitCount_0f7a4_17 : decode cJ6_bitCount_0f7a4 17 = .ok (.iushr, 1) := by decide +kernel
theorem dJ6_bitCount_0f7a4_18 : decode cJ6_bitCount_0f7a4 18 = .ok (.ldc_w 266, 3) := by decide +kernel
theorem dJ6_bitCount_0f7a4_21 : decode cJ6_bitCount_0f7a4 21 = .ok (.iand, 1) := by decide +kernel
theorem dJ6_bitCount_0f7a4_22 : decode cJ6_bitCount_0f7a4 22 = .ok (.iadd, 1) := by decide +kernel
theorem dJ6_bitCount_0f7a4_23 : decode cJ6_bitCount_0f7a4 23 = .ok (.istore_n 0, 1) := by decide +kernel
theorem dJ6_bitCount_0f7a4_24 : decode cJ6_bitCount_0f7a4 24 = .ok (.iload_n 0, 1) := by decide +kernel
theorem dJ6_bitCount_0f7a4_25 : decode cJ6_bitCount_0f7a4 25 = .ok (.iload_n 0, 1) := by decide +kernel
theorem dJ6_bitCount_0f7a4_26 : decode cJ6_bitCount_0f7a4 26 = .ok (.iconst 4, 1) := by decide +kernel
theorem dJ6_bitCount_0f7a4_27 : decode cJ6_bitCount_0f7a4 27 = .ok (.iushr, 1) := by decide +kernel
theorem dJ6_bitCount_0f7a4_28 : decode cJ6_bitCount_0f7a4 28 = .ok (.iadd, 1) := by decide +kernel
theorem dJ6_bitCount_0f7a4_29 : decode cJ6_bitCount_0f7a4 29 = .ok (.ldc_w 267, 3) := by decide +kernel
theorem dJ6_bitCount_0f7a4_32 : decode cJ6_bitCount_0f7a4 32 = .ok (.iand, 1) := by decide +kernel
theorem dJ6_bitCount_0f7a4_33 : decode cJ6_bitCount_0f7a4 33 = .ok (.istore_n 0, 1) := by decide +kernel
theorem dJ6_bitCount_0f7a4_34 : decode cJ6_bitCount_0f7a4 34 = .ok (.iload_n 0, 1) := by decide +kernel
theorem dJ6_bitCount_0f7a4_35 : decode cJ6_bitCount_0f7a4 35 = .ok (.iload_n 0, 1) := by decide +kernel
theorem dJ6_bitCount_0f7a4_36 : decode cJ6_bitCount_0f7a4 36 = .ok (.bipush 8, 2) := by decide +kernel
theorem dJ6_bitCount_0f7a4_38 : decode cJ6_bitCount_0f7a4 38 = .ok (.iushr, 1) := by decide +kernel
theorem dJ6_bitCount_0f7a4_39 : decode cJ6_bitCount_0f7a4 39 = .ok (.iadd, 1) := by decide +kernel
theorem dJ6_bitCount_0f7a4_40 : decode cJ6_bitCount_0f7a4 40 = .ok (.istore_n 0, 1) := by decide +kernel
theorem dJ6_bitCount_0f7a4_41 : decode cJ6_bitCount_0f7a4 41 = .ok (.iload_n 0, 1) := by decide +kernel
theorem dJ6_bitCount_0f7a4_42 : decode cJ6_bitCount_0f7a4 42 = .ok (.iload_n 0, 1) := by decide +kernel
theorem dJ6_bitCount_0f7a4_43 : decode cJ6_bitCount_0f7a4 43 = .ok (.bipush 16, 2) := by decide +kernel
theorem dJ6_bitCount_0f7a4_45 : decode cJ6_bitCount_0f7a4 45 = .ok (.iushr, 1) := by decide +kernel
theorem dJ6_bitCount_0f7a4_46 : decode cJ6_bitCount_0f7a4 46 = .ok (.iadd, 1) := by decide +kernel
theorem dJ6_bitCount_0f7a4_47 : decode cJ6_bitCount_0f7a4 47 = .ok (.istore_n 0, 1) := by decide +kernel
theorem dJ6_bitCount_0f7a4_48 : decode cJ6_bitCount_0f7a4 48 = .ok (.iload_n 0, 1) := by decide +kernel
theorem dJ6_bitCount_0f7a4_49 : decode cJ6_bitCount_0f7a4 49 = .ok (.bipush 63, 2) := by decide +kernel
theorem dJ6_bitCount_0f7a4_51 : decode cJ6_bitCount_0f7a4 51 = .ok (.iand, 1) := by decide +kernel
theorem dJ6_bitCount_0f7a4_52 : decode cJ6_bitCount_0f7a4 52 = .ok (.ireturn, 1) := by decide +kernel
theorem dJ9_max_7cf53_0 : decode cJ9_max_7cf53 0 = .ok (.iload_n 0, 1) := by decide +kernel
theorem dJ9_max_7cf53_1 : decode cJ9_max_7cf53 1 = .ok (.iload_n 1, 1) := by decide +kernel
theorem dJ9_max_7cf53_2 : decode cJ9_max_7cf53 2 = .ok (.if_icmp .lt 7, 3) := by decide +kernel
theorem dJ9_max_7cf53_5 : decode cJ9_max_7cf53 5 = .ok (.iload_n 0, 1) := by decide +kernel
theorem dJ9_max_7cf53_6 : decode cJ9_max_7cf53 6 = .ok (.goto 4, 3) := by decide +kernel
theorem dJ9_max_7cf53_9 : decode cJ9_max_7cf53 9 = .ok (.iload_n 1, 1) := by decide +kernel
theorem dJ9_max_7cf53_10 : decode cJ9_max_7cf53 10 = .ok (.ireturn, 1) := by decide +kernel
theorem dJ9_max_f86c9_0 : decode cJ9_max_f86c9 0 = .ok (.lload_n 0, 1) := by decide +kernel
theorem dJ9_max_f86c9_1 : decode cJ9_max_f86c9 1 = .ok (.lload_n 2, 1) := by decide +kernel
theorem dJ9_max_f86c9_2 : decode cJ9_max_f86c9 2 = .ok (.lcmp, 1) := by decide +kernel
theorem dJ9_max_f86c9_3 : decode cJ9_max_f86c9 3 = .ok (.ifCond .lt 7, 3) := by decide +kernel
theorem dJ9_max_f86c9_6 : decode cJ9_max_f86c9 6 = .ok (.lload_n 0, 1) := by decide +kernel
theorem dJ9_max_f86c9_7 : decode cJ9_max_f86c9 7 = .ok (.goto 4, 3) := by decide +kernel
theorem dJ9_max_f86c9_10 : decode cJ9_max_f86c9 10 = .ok (.lload_n 2, 1) := by decide +kernel
theorem dJ9_max_f86c9_11 : decode cJ9_max_f86c9 11 = .ok (.lreturn, 1) := by decide +kernel
theorem dJ9_min_7cf53_0 : decode cJ9_min_7cf53 0 = .ok (.iload_n 0, 1) := by decide +kernel
theorem dJ9_min_7cf53_1 : decode cJ9_min_7cf53 1 = .ok (.iload_n 1, 1) := by decide +kernel
theorem dJ9_min_7cf53_2 : decode cJ9_min_7cf53 2 = .ok (.if_icmp .gt 7, 3) := by decide +kernel
theorem dJ9_min_7cf53_5 : decode cJ9_min_7cf53 5 = .ok (.iload_n 0, 1) := by decide +kernel
theorem dJ9_min_7cf53_6 : decode cJ9_min_7cf53 6 = .ok (.goto 4, 3) := by decide +kernel
theorem dJ9_min_7cf53_9 : decode cJ9_min_7cf53 9 = .ok (.iload_n 1, 1) := by decide +kernel
theorem dJ9_min_7cf53_10 : decode cJ9_min_7cf53 10 = .ok (.ireturn, 1) := by decide +kernel
theorem dJ0_length_8abf5_0 : decode cJ0_length_8abf5 0 = .ok (.aload_n 0, 1) := by decide +kernel
theorem dJ0_length_8abf5_1 : decode cJ0_length_8abf5 1 = .ok (.getfield 9, 3) := by decide +kernel
theorem dJ0_length_8abf5_4 : decode cJ0_length_8abf5 4 = .ok (.arraylength, 1) := by decide +kernel
theorem dJ0_length_8abf5_5 : decode cJ0_length_8abf5 5 = .ok (.aload_n 0, 1) := by decide +kernel
theorem dJ0_length_8abf5_6 : decode cJ0_length_8abf5 6 = .ok (.invokevirtual 335, 3) := by decide +kernel
theorem dJ0_length_8abf5_9 : decode cJ0_length_8abf5 9 = .ok (.ishr, 1) := by decide +kernel
theorem dJ0_length_8abf5_10 : decode cJ0_length_8abf5 10 = .ok (.ireturn, 1) := by decide +kernel
theorem dJ0_charAt_5068e_0 : decode cJ0_charAt_5068e 0 = .ok (.aload_n 0, 1) := by decide +kernel
theorem dJ0_charAt_5068e_1 : decode cJ0_charAt_5068e 1 = .ok (.invokevirtual 492, 3) := by decide +kernel
theorem dJ0_charAt_5068e_4 : decode cJ0_charAt_5068e 4 = .ok (.ifCond .eq 12, 3) := by decide +kernel
theorem dJ0_charAt_5068e_7 : decode cJ0_charAt_5068e 7 = .ok (.aload_n 0, 1) := by decide +kernel
theorem dJ0_charAt_5068e_8 : decode cJ0_charAt_5068e 8 = .ok (.getfield 9, 3) := by decide +kernel
theorem dJ0_charAt_5068e_11 : decode cJ0_charAt_5068e 11 = .ok (.iload_n 1, 1) := by decide +kernel
theorem dJ0_charAt_5068e_12 : decode cJ0_charAt_5068e 12 = .ok (.invokestatic 495, 3) := by decide +kernel
theorem dJ0_charAt_5068e_15 : decode cJ0_charAt_5068e 15 = .ok (.ireturn, 1) := by decide +kernel
theorem dJ0_charAt_5068e_16 : decode cJ0_charAt_5068e 16 = .ok (.aload_n 0, 1) := by decide +kernel
theorem dJ0_charAt_5068e_17 : decode cJ0_charAt_5068e 17 = .ok (.getfield 9, 3) := by decide +kernel
theorem dJ0_charAt_5068e_20 : decode cJ0_charAt_5068e 20 = .ok (.iload_n 1, 1) := by decide +kernel
theorem dJ0_charAt_5068e_21 : decode cJ0_charAt_5068e 21 = .ok (.invokestatic 498, 3) := by decide +kernel
theorem dJ0_charAt_5068e_24 : decode cJ0_charAt_5068e 24 = .ok (.ireturn, 1) := by decide +kernel
theorem dJ0_coder_7d493_0 : decode cJ0_coder_7d493 0 = .ok (.getstatic 38, 3) := by decide +kernel
theorem dJ0_coder_7d493_3 : decode cJ0_coder_7d493 3 = .ok (.ifCond .eq 10, 3) := by decide +kernel
theorem dJ0_coder_7d493_6 : decode cJ0_coder_7d493 6 = .ok (.aload_n 0, 1) := by decide +kernel
theorem dJ0_coder_7d493_7 : decode cJ0_coder_7d493 7 = .ok (.getfield 15, 3) := by decide +kernel
theorem dJ0_coder_7d493_10 : decode cJ0_coder_7d493 10 = .ok (.goto 4, 3) := by decide +kernel
theorem dJ0_coder_7d493_13 : decode cJ0_coder_7d493 13 = .ok (.iconst 1, 1) := by decide +kernel
theorem dJ0_coder_7d493_14 : decode cJ0_coder_7d493 14 = .ok (.ireturn, 1) := by decide +kernel
theorem dJ0_isLatin1_aae02_0 : decode cJ0_isLatin1_aae02 0 = .ok (.getstatic 38, 3) := by decide +kernel
theorem dJ0_isLatin1_aae02_3 : decode cJ0_isLatin1_aae02 3 = .ok (.ifCond .eq 14, 3) := by decide +kernel
theorem dJ0_isLatin1_aae02_6 : decode cJ0_isLatin1_aae02 6 = .ok (.aload_n 0, 1) := by decide +kernel
theorem dJ0_isLatin1_aae02_7 : decode cJ0_isLatin1_aae02 7 = .ok (.getfield 15, 3) := by decide +kernel
theorem dJ0_isLatin1_aae02_10 : decode cJ0_isLatin1_aae02 10 = .ok (.ifCond .ne 7, 3) := by decide +kernel
theorem dJ0_isLatin1_aae02_13 : decode cJ0_isLatin1_aae02 13 = .ok (.iconst 1, 1) := by decide +kernel
theorem dJ0_isLatin1_aae02_14 : decode cJ0_isLatin1_aae02 14 = .ok (.goto 4, 3) := by decide +kernel
theorem dJ0_isLatin1_aae02_17 : decode cJ0_isLatin1_aae02 17 = .ok (.iconst 0, 1) := by decide +kernel
theorem dJ0_isLatin1_aae02_18 : decode cJ0_isLatin1_aae02 18 = .ok (.ireturn, 1) := by decide +kernel
theorem dJ0_checkIndex_df160_0 : decode cJ0_checkIndex_df160 0 = .ok (.iload_n 0, 1) := by decide +kernel
theorem dJ0_checkIndex_df160_1 : decode cJ0_checkIndex_df160 1 = .ok (.iload_n 1, 1) := by decide +kernel
theorem dJ0_checkIndex_df160_2 : decode cJ0_checkIndex_df160 2 = .ok (.getstatic 1053, 3) := by decide +kernel
theorem dJ0_checkIndex_df160_5 : decode cJ0_checkIndex_df160 5 = .ok (.invokestatic 1059, 3) := by decide +kernel
theorem dJ0_checkIndex_df160_8 : decode cJ0_checkIndex_df160 8 = .ok (.pop, 1) := by decide +kernel
theorem dJ0_checkIndex_df160_9 : decode cJ0_checkIndex_df160 9 = .ok (.return_, 1) := by decide +kernel
theorem dJ1_charAt_3b067_0 : decode cJ1_charAt_3b067 0 = .ok (.iload_n 1, 1) := by decide +kernel
theorem dJ1_charAt_3b067_1 : decode cJ1_charAt_3b067 1 = .ok (.aload_n 0, 1) := by decide +kernel
theorem dJ1_charAt_3b067_2 : decode cJ1_charAt_3b067 2 = .ok (.arraylength, 1) := by decide +kernel
theorem dJ1_charAt_3b067_3 : decode cJ1_charAt_3b067 3 = .ok (.invokestatic 9, 3) := by decide +kernel
theorem dJ1_charAt_3b067_6 : decode cJ1_charAt_3b067 6 = .ok (.aload_n 0, 1) := by decide +kernel
theorem dJ1_charAt_3b067_7 : decode cJ1_charAt_3b067 7 = .ok (.iload_n 1, 1) := by decide +kernel
theorem dJ1_charAt_3b067_8 : decode cJ1_charAt_3b067 8 = .ok (.baload, 1) := by decide +kernel
theorem dJ1_charAt_3b067_9 : decode cJ1_charAt_3b067 9 = .ok (.sipush 255, 3) := by decide +kernel
theorem dJ1_charAt_3b067_12 : decode cJ1_charAt_3b067 12 = .ok (.iand, 1) := by decide +kernel
theorem dJ1_charAt_3b067_13 : decode cJ1_charAt_3b067 13 = .ok (.i2c, 1) := by decide +kernel
theorem dJ1_charAt_3b067_14 : decode cJ1_charAt_3b067 14 = .ok (.ireturn, 1) := by decide +kernel
theorem dJ2_getChar_3b067_0 : decode cJ2_getChar_3b067 0 = .ok (.getstatic 44, 3) := by decide +kernel
theorem dJ2_getChar_3b067_3 : decode cJ2_getChar_3b067 3 = .ok (.ifCond .ne 25, 3) := by decide +kernel
theorem dJ2_getChar_3b067_6 : decode cJ2_getChar_3b067 6 = .ok (.iload_n 1, 1) := by decide +kernel
theorem dJ2_getChar_3b067_7 : decode cJ2_getChar_3b067 7 = .ok (.ifCond .lt 11, 3) := by decide +kernel
theorem dJ2_getChar_3b067_10 : decode cJ2_getChar_3b067 10 = .ok (.iload_n 1, 1) := by decide +kernel
theorem dJ2_getChar_3b067_11 : decode cJ2_getChar_3b067 11 = .ok (.aload_n 0, 1) := by decide +kernel
theorem dJ2_getChar_3b067_12 : decode cJ2_getChar_3b067 12 = .ok (.invokestatic 48, 3) := by decide +kernel
theorem dJ2_getChar_3b067_15 : decode cJ2_getChar_3b067 15 = .ok (.if_icmp .lt 13, 3) := by decide +kernel
theorem dJ2_getChar_3b067_18 : decode cJ2_getChar_3b067 18 = .ok (.new 52, 3) := by decide +kernel
theorem dJ2_getChar_3b067_21 : decode cJ2_getChar_3b067 21 = .ok (.dup, 1) := by decide +kernel
theorem dJ2_getChar_3b067_22 : decode cJ2_getChar_3b067 22 = .ok (.ldc 54, 2) := by decide +kernel
theorem dJ2_getChar_3b067_24 : decode cJ2_getChar_3b067 24 = .ok (.invokespecial 56, 3) := by decide +kernel
theorem dJ2_getChar_3b067_27 : decode cJ2_getChar_3b067 27 = .ok (.athrow, 1) := by decide +kernel
theorem dJ2_getChar_3b067_28 : decode cJ2_getChar_3b067 28 = .ok (.iload_n 1, 1) := by decide +kernel
theorem dJ2_getChar_3b067_29 : decode cJ2_getChar_3b067 29 = .ok (.iconst 1, 1) := by decide +kernel
theorem dJ2_getChar_3b067_30 : decode cJ2_getChar_3b067 30 = .ok (.ishl, 1) := by decide +kernel
theorem dJ2_getChar_3b067_31 : decode cJ2_getChar_3b067 31 = .ok (.istore_n 1, 1) := by decide +kernel
theorem dJ2_getChar_3b067_32 : decode cJ2_getChar_3b067 32 = .ok (.aload_n 0, 1) := by decide +kernel
theorem dJ2_getChar_3b067_33 : decode cJ2_getChar_3b067 33 = .ok (.iload_n 1, 1) := by decide +kernel
theorem dJ2_getChar_3b067_34 : decode cJ2_getChar_3b067 34 = .ok (.iinc 1 1, 3) := by decide +kernel
theorem dJ2_getChar_3b067_37 : decode cJ2_getChar_3b067 37 = .ok (.baload, 1) := by decide +kernel
theorem dJ2_getChar_3b067_38 : decode cJ2_getChar_3b067 38 = .ok (.sipush 255, 3) := by decide +kernel
theorem dJ2_getChar_3b067_41 : decode cJ2_getChar_3b067 41 = .ok (.iand, 1) := by decide +kernel
theorem dJ2_getChar_3b067_42 : decode cJ2_getChar_3b067 42 = .ok (.getstatic 59, 3) := by decide +kernel
theorem dJ2_getChar_3b067_45 : decode cJ2_getChar_3b067 45 = .ok (.ishl, 1) := by decide +kernel
theorem dJ2_getChar_3b067_46 : decode cJ2_getChar_3b067 46 = .ok (.aload_n 0, 1) := by decide +kernel
theorem dJ2_getChar_3b067_47 : decode cJ2_getChar_3b067 47 = .ok (.iload_n 1, 1) := by decide +kernel
theorem dJ2_getChar_3b067_48 : decode cJ2_getChar_3b067 48 = .ok (.baload, 1) := by decide +kernel
theorem dJ2_getChar_3b067_49 : decode cJ2_getChar_3b067 49 = .ok (.sipush 255, 3) := by decide +kernel
theorem dJ2_getChar_3b067_52 : decode cJ2_getChar_3b067 52 = .ok (.iand, 1) := by decide +kernel
theorem dJ2_getChar_3b067_53 : decode cJ2_getChar_3b067 53 = .ok (.getstatic 63, 3) := by decide +kernel
theorem dJ2_getChar_3b067_56 : decode cJ2_getChar_3b067 56 = .ok (.ishl, 1) := by decide +kernel
theorem dJ2_getChar_3b067_57 : decode cJ2_getChar_3b067 57 = .ok (.ior, 1) := by decide +kernel
theorem dJ2_getChar_3b067_58 : decode cJ2_getChar_3b067 58 = .ok (.i2c, 1) := by decide +kernel
theorem dJ2_getChar_3b067_59 : decode cJ2_getChar_3b067 59 = .ok (.ireturn, 1) := by decide +kernel
theorem dJ2_length_9d52b_0 : decode cJ2_length_9d52b 0 = .ok (.aload_n 0, 1) := by decide +kernel
theorem dJ2_length_9d52b_1 : decode cJ2_length_9d52b 1 = .ok (.arraylength, 1) := by decide +kernel
theorem dJ2_length_9d52b_2 : decode cJ2_length_9d52b 2 = .ok (.iconst 1, 1) := by decide +kernel
theorem dJ2_length_9d52b_3 : decode cJ2_length_9d52b 3 = .ok (.ishr, 1) := by decide +kernel
theorem dJ2_length_9d52b_4 : decode cJ2_length_9d52b 4 = .ok (.ireturn, 1) := by decide +kernel
theorem dJ2_charAt_3b067_0 : decode cJ2_charAt_3b067 0 = .ok (.iload_n 1, 1) := by decide +kernel
theorem dJ2_charAt_3b067_1 : decode cJ2_charAt_3b067 1 = .ok (.aload_n 0, 1) := by decide +kernel
theorem dJ2_charAt_3b067_2 : decode cJ2_charAt_3b067 2 = .ok (.invokestatic 67, 3) := by decide +kernel
theorem dJ2_charAt_3b067_5 : decode cJ2_charAt_3b067 5 = .ok (.aload_n 0, 1) := by decide +kernel
theorem dJ2_charAt_3b067_6 : decode cJ2_charAt_3b067 6 = .ok (.iload_n 1, 1) := by decide +kernel
theorem dJ2_charAt_3b067_7 : decode cJ2_charAt_3b067 7 = .ok (.invokestatic 71, 3) := by decide +kernel
theorem dJ2_charAt_3b067_10 : decode cJ2_charAt_3b067 10 = .ok (.ireturn, 1) := by decide +kernel
theorem dJ2_checkIndex_2214a_0 : decode cJ2_checkIndex_2214a 0 = .ok (.iload_n 0, 1) := by decide +kernel
theorem dJ2_checkIndex_2214a_1 : decode cJ2_checkIndex_2214a 1 = .ok (.aload_n 1, 1) := by decide +kernel
theorem dJ2_checkIndex_2214a_2 : decode cJ2_checkIndex_2214a 2 = .ok (.invokestatic 48, 3) := by decide +kernel
theorem dJ2_checkIndex_2214a_5 : decode cJ2_checkIndex_2214a 5 = .ok (.invokestatic 414, 3) := by decide +kernel
theorem dJ2_checkIndex_2214a_8 : decode cJ2_checkIndex_2214a 8 = .ok (.return_, 1) := by decide +kernel
theorem dJ7_fill_53178_0 : decode cJ7_fill_53178 0 = .ok (.iconst 0, 1) := by decide +kernel
theorem dJ7_fill_53178_1 : decode cJ7_fill_53178 1 = .ok (.istore_n 2, 1) := by decide +kernel
theorem dJ7_fill_53178_2 : decode cJ7_fill_53178 2 = .ok (.aload_n 0, 1) := by decide +kernel
theorem dJ7_fill_53178_3 : decode cJ7_fill_53178 3 = .ok (.arraylength, 1) := by decide +kernel
theorem dJ7_fill_53178_4 : decode cJ7_fill_53178 4 = .ok (.istore_n 3, 1) := by decide +kernel
theorem dJ7_fill_53178_5 : decode cJ7_fill_53178 5 = .ok (.iload_n 2, 1) := by decide +kernel
theorem dJ7_fill_53178_6 : decode cJ7_fill_53178 6 = .ok (.iload_n 3, 1) := by decide +kernel
theorem dJ7_fill_53178_7 : decode cJ7_fill_53178 7 = .ok (.if_icmp .ge 13, 3) := by decide +kernel
theorem dJ7_fill_53178_10 : decode cJ7_fill_53178 10 = .ok (.aload_n 0, 1) := by decide +kernel
theorem dJ7_fill_53178_11 : decode cJ7_fill_53178 11 = .ok (.iload_n 2, 1) := by decide +kernel
theorem dJ7_fill_53178_12 : decode cJ7_fill_53178 12 = .ok (.iload_n 1, 1) := by decide +kernel
theorem dJ7_fill_53178_13 : decode cJ7_fill_53178 13 = .ok (.iastore, 1) := by decide +kernel
theorem dJ7_fill_53178_14 : decode cJ7_fill_53178 14 = .ok (.iinc 2 1, 3) := by decide +kernel
theorem dJ7_fill_53178_17 : decode cJ7_fill_53178 17 = .ok (.goto (-12), 3) := by decide +kernel
theorem dJ7_fill_53178_20 : decode cJ7_fill_53178 20 = .ok (.return_, 1) := by decide +kernel
theorem dJ3_checkIndex_8e157_0 : decode cJ3_checkIndex_8e157 0 = .ok (.iload_n 0, 1) := by decide +kernel
theorem dJ3_checkIndex_8e157_1 : decode cJ3_checkIndex_8e157 1 = .ok (.ifCond .lt 8, 3) := by decide +kernel
theorem dJ3_checkIndex_8e157_4 : decode cJ3_checkIndex_8e157 4 = .ok (.iload_n 0, 1) := by decide +kernel
theorem dJ3_checkIndex_8e157_5 : decode cJ3_checkIndex_8e157 5 = .ok (.iload_n 1, 1) := by decide +kernel
theorem dJ3_checkIndex_8e157_6 : decode cJ3_checkIndex_8e157 6 = .ok (.if_icmp .lt 10, 3) := by decide +kernel
theorem dJ3_checkIndex_8e157_9 : decode cJ3_checkIndex_8e157 9 = .ok (.aload_n 2, 1) := by decide +kernel
theorem dJ3_checkIndex_8e157_10 : decode cJ3_checkIndex_8e157 10 = .ok (.iload_n 0, 1) := by decide +kernel
theorem dJ3_checkIndex_8e157_11 : decode cJ3_checkIndex_8e157 11 = .ok (.iload_n 1, 1) := by decide +kernel
theorem dJ3_checkIndex_8e157_12 : decode cJ3_checkIndex_8e157 12 = .ok (.invokestatic 95, 3) := by decide +kernel
theorem dJ3_checkIndex_8e157_15 : decode cJ3_checkIndex_8e157 15 = .ok (.athrow, 1) := by decide +kernel
theorem dJ3_checkIndex_8e157_16 : decode cJ3_checkIndex_8e157 16 = .ok (.iload_n 0, 1) := by decide +kernel
theorem dJ3_checkIndex_8e157_17 : decode cJ3_checkIndex_8e157 17 = .ok (.ireturn, 1) := by decide +kernel
