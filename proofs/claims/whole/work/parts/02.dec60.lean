theorem dX6_init_0 : decode cX6_init 0 = .ok (.aload_n 0, 1) := by decide +kernel
theorem dX6_init_1 : decode cX6_init 1 = .ok (.invokespecial 1, 3) := by decide +kernel
theorem dX6_init_4 : decode cX6_init 4 = .ok (.aload_n 0, 1) := by decide +kernel
theorem dX6_init_5 : decode cX6_init 5 = .ok (.new 7, 3) := by decide +kernel
theorem dX6_init_8 : decode cX6_init 8 = .ok (.dup, 1) := by decide +kernel
theorem dX6_init_9 : decode cX6_init 9 = .ok (.invokespecial 9, 3) := by decide +kernel
theorem dX6_init_12 : decode cX6_init 12 = .ok (.putfield 10, 3) := by decide +kernel
theorem dX6_init_15 : decode cX6_init 15 = .ok (.aload_n 0, 1) := by decide +kernel
theorem dX6_init_16 : decode cX6_init 16 = .ok (.new 16, 3) := by decide +kernel
theorem dX6_init_19 : decode cX6_init 19 = .ok (.dup, 1) := by decide +kernel
theorem dX6_init_20 : decode cX6_init 20 = .ok (.invokespecial 18, 3) := by decide +kernel
theorem dX6_init_23 : decode cX6_init 23 = .ok (.putfield 19, 3) := by decide +kernel
theorem dX6_init_26 : decode cX6_init 26 = .ok (.aload_n 0, 1) := by decide +kernel
theorem dX6_init_27 : decode cX6_init 27 = .ok (.new 7, 3) := by decide +kernel
theorem dX6_init_30 : decode cX6_init 30 = .ok (.dup, 1) := by decide +kernel
theorem dX6_init_31 : decode cX6_init 31 = .ok (.invokespecial 9, 3) := by decide +kernel
theorem dX6_init_34 : decode cX6_init 34 = .ok (.putfield 23, 3) := by decide +kernel
theorem dX6_init_37 : decode cX6_init 37 = .ok (.aload_n 0, 1) := by decide +kernel
theorem dX6_init_38 : decode cX6_init 38 = .ok (.bipush 9, 2) := by decide +kernel
theorem dX6_init_40 : decode cX6_init 40 = .ok (.anewarray 7, 3) := by decide +kernel
theorem dX6_init_43 : decode cX6_init 43 = .ok (.putfield 26, 3) := by decide +kernel
theorem dX6_init_46 : decode cX6_init 46 = .ok (.aload_n 0, 1) := by decide +kernel
theorem dX6_init_47 : decode cX6_init 47 = .ok (.new 30, 3) := by decide +kernel
theorem dX6_init_50 : decode cX6_init 50 = .ok (.dup, 1) := by decide +kernel
theorem dX6_init_51 : decode cX6_init 51 = .ok (.invokespecial 32, 3) := by decide +kernel
theorem dX6_init_54 : decode cX6_init 54 = .ok (.putfield 33, 3) := by decide +kernel
theorem dX6_init_57 : decode cX6_init 57 = .ok (.aload_n 0, 1) := by decide +kernel
theorem dX6_init_58 : decode cX6_init 58 = .ok (.iconst 2, 1) := by decide +kernel
theorem dX6_init_59 : decode cX6_init 59 = .ok (.anewarray 37, 3) := by decide +kernel
theorem dX6_init_62 : decode cX6_init 62 = .ok (.putfield 39, 3) := by decide +kernel
theorem dX6_init_65 : decode cX6_init 65 = .ok (.aload_n 0, 1) := by decide +kernel
theorem dX6_init_66 : decode cX6_init 66 = .ok (.iconst 4, 1) := by decide +kernel
theorem dX6_init_67 : decode cX6_init 67 = .ok (.anewarray 43, 3) := by decide +kernel
theorem dX6_init_70 : decode cX6_init 70 = .ok (.putfield 45, 3) := by decide +kernel
theorem dX6_init_73 : decode cX6_init 73 = .ok (.iconst 0, 1) := by decide +kernel
theorem dX6_init_74 : decode cX6_init 74 = .ok (.istore_n 1, 1) := by decide +kernel
theorem dX6_init_75 : decode cX6_init 75 = .ok (.iload_n 1, 1) := by decide +kernel
theorem dX6_init_76 : decode cX6_init 76 = .ok (.aload_n 0, 1) := by decide +kernel
theorem dX6_init_77 : decode cX6_init 77 = .ok (.getfield 26, 3) := by decide +kernel
theorem dX6_init_80 : decode cX6_init 80 = .ok (.arraylength, 1) := by decide +kernel
theorem dX6_init_81 : decode cX6_init 81 = .ok (.if_icmp .ge 22, 3) := by decide +kernel
theorem dX6_init_84 : decode cX6_init 84 = .ok (.aload_n 0, 1) := by decide +kernel
theorem dX6_init_85 : decode cX6_init 85 = .ok (.getfield 26, 3) := by decide +kernel
theorem dX6_init_88 : decode cX6_init 88 = .ok (.iload_n 1, 1) := by decide +kernel
theorem dX6_init_89 : decode cX6_init 89 = .ok (.new 7, 3) := by decide +kernel
theorem dX6_init_92 : decode cX6_init 92 = .ok (.dup, 1) := by decide +kernel
theorem dX6_init_93 : decode cX6_init 93 = .ok (.invokespecial 9, 3) := by decide +kernel
theorem dX6_init_96 : decode cX6_init 96 = .ok (.aastore, 1) := by decide +kernel
theorem dX6_init_97 : decode cX6_init 97 = .ok (.iinc 1 1, 3) := by decide +kernel
theorem dX6_init_100 : decode cX6_init 100 = .ok (.goto (-25), 3) := by decide +kernel
theorem dX6_init_103 : decode cX6_init 103 = .ok (.iconst 0, 1) := by decide +kernel
theorem dX6_init_104 : decode cX6_init 104 = .ok (.istore_n 1, 1) := by decide +kernel
theorem dX6_init_105 : decode cX6_init 105 = .ok (.iload_n 1, 1) := by decide +kernel
theorem dX6_init_106 : decode cX6_init 106 = .ok (.aload_n 0, 1) := by decide +kernel
theorem dX6_init_107 : decode cX6_init 107 = .ok (.getfield 39, 3) := by decide +kernel
theorem dX6_init_110 : decode cX6_init 110 = .ok (.arraylength, 1) := by decide +kernel
theorem dX6_init_111 : decode cX6_init 111 = .ok (.if_icmp .ge 22, 3) := by decide +kernel
theorem dX6_init_114 : decode cX6_init 114 = .ok (.aload_n 0, 1) := by decide +kernel
theorem dX6_init_115 : decode cX6_init 115 = .ok (.getfield 39, 3) := by decide +kernel
theorem dX6_init_118 : decode cX6_init 118 = .ok (.iload_n 1, 1) := by decide +kernel
theorem dX6_init_119 : decode cX6_init 119 = .ok (.new 37, 3) := by decide +kernel
theorem dX6_init_122 : decode cX6_init 122 = .ok (.dup, 1) := by decide +kernel
theorem dX6_init_123 : decode cX6_init 123 = .ok (.invokespecial 49, 3) := by decide +kernel
theorem dX6_init_126 : decode cX6_init 126 = .ok (.aastore, 1) := by decide +kernel
theorem dX6_init_127 : decode cX6_init 127 = .ok (.iinc 1 1, 3) := by decide +kernel
theorem dX6_init_130 : decode cX6_init 130 = .ok (.goto (-25), 3) := by decide +kernel
theorem dX6_init_133 : decode cX6_init 133 = .ok (.iconst 0, 1) := by decide +kernel
theorem dX6_init_134 : decode cX6_init 134 = .ok (.istore_n 1, 1) := by decide +kernel
theorem dX6_init_135 : decode cX6_init 135 = .ok (.iload_n 1, 1) := by decide +kernel
theorem dX6_init_136 : decode cX6_init 136 = .ok (.aload_n 0, 1) := by decide +kernel
theorem dX6_init_137 : decode cX6_init 137 = .ok (.getfield 45, 3) := by decide +kernel
theorem dX6_init_140 : decode cX6_init 140 = .ok (.arraylength, 1) := by decide +kernel
theorem dX6_init_141 : decode cX6_init 141 = .ok (.if_icmp .ge 22, 3) := by decide +kernel
theorem dX6_init_144 : decode cX6_init 144 = .ok (.aload_n 0, 1) := by decide +kernel
theorem dX6_init_145 : decode cX6_init 145 = .ok (.getfield 45, 3) := by decide +kernel
theorem dX6_init_148 : decode cX6_init 148 = .ok (.iload_n 1, 1) := by decide +kernel
theorem dX6_init_149 : decode cX6_init 149 = .ok (.new 43, 3) := by decide +kernel
theorem dX6_init_152 : decode cX6_init 152 = .ok (.dup, 1) := by decide +kernel
theorem dX6_init_153 : decode cX6_init 153 = .ok (.invokespecial 50, 3) := by decide +kernel
theorem dX6_init_156 : decode cX6_init 156 = .ok (.aastore, 1) := by decide +kernel
theorem dX6_init_157 : decode cX6_init 157 = .ok (.iinc 1 1, 3) := by decide +kernel
theorem dX6_init_160 : decode cX6_init 160 = .ok (.goto (-25), 3) := by decide +kernel
theorem dX6_init_163 : decode cX6_init 163 = .ok (.return_, 1) := by decide +kernel
theorem dX6_feed_0 : decode cX6_feed 0 = .ok (.iload_n 1, 1) := by decide +kernel
theorem dX6_feed_1 : decode cX6_feed 1 = .ok (.bipush 127, 2) := by decide +kernel
theorem dX6_feed_3 : decode cX6_feed 3 = .ok (.invokestatic 51, 3) := by decide +kernel
theorem dX6_feed_6 : decode cX6_feed 6 = .ok (.ifCond .ne 5, 3) := by decide +kernel
theorem dX6_feed_9 : decode cX6_feed 9 = .ok (.iconst (-1), 1) := by decide +kernel
theorem dX6_feed_10 : decode cX6_feed 10 = .ok (.ireturn, 1) := by decide +kernel
theorem dX6_feed_11 : decode cX6_feed 11 = .ok (.aload_n 0, 1) := by decide +kernel
theorem dX6_feed_12 : decode cX6_feed 12 = .ok (.getfield 33, 3) := by decide +kernel
theorem dX6_feed_15 : decode cX6_feed 15 = .ok (.getfield 55, 3) := by decide +kernel
theorem dX6_feed_18 : decode cX6_feed 18 = .ok (.astore_n 2, 1) := by decide +kernel
theorem dX6_feed_19 : decode cX6_feed 19 = .ok (.aload_n 2, 1) := by decide +kernel
theorem dX6_feed_20 : decode cX6_feed 20 = .ok (.getfield 59, 3) := by decide +kernel
theorem dX6_feed_23 : decode cX6_feed 23 = .ok (.sipush 160, 3) := by decide +kernel
theorem dX6_feed_26 : decode cX6_feed 26 = .ok (.if_icmp .lt 6, 3) := by decide +kernel
theorem dX6_feed_29 : decode cX6_feed 29 = .ok (.bipush (-3), 2) := by decide +kernel
theorem dX6_feed_31 : decode cX6_feed 31 = .ok (.ireturn, 1) := by decide +kernel
theorem dX6_feed_32 : decode cX6_feed 32 = .ok (.aload_n 2, 1) := by decide +kernel
theorem dX6_feed_33 : decode cX6_feed 33 = .ok (.getfield 65, 3) := by decide +kernel
theorem dX6_feed_36 : decode cX6_feed 36 = .ok (.aload_n 2, 1) := by decide +kernel
theorem dX6_feed_37 : decode cX6_feed 37 = .ok (.getfield 59, 3) := by decide +kernel
theorem dX6_feed_40 : decode cX6_feed 40 = .ok (.iload_n 1, 1) := by decide +kernel
theorem dX6_feed_41 : decode cX6_feed 41 = .ok (.i2b, 1) := by decide +kernel
theorem dX6_feed_42 : decode cX6_feed 42 = .ok (.bastore, 1) := by decide +kernel
theorem dX6_feed_43 : decode cX6_feed 43 = .ok (.aload_n 2, 1) := by decide +kernel
theorem dX6_feed_44 : decode cX6_feed 44 = .ok (.dup, 1) := by decide +kernel
theorem dX6_feed_45 : decode cX6_feed 45 = .ok (.getfield 59, 3) := by decide +kernel
theorem dX6_feed_48 : decode cX6_feed 48 = .ok (.iconst 1, 1) := by decide +kernel
theorem dX6_feed_49 : decode cX6_feed 49 = .ok (.iadd, 1) := by decide +kernel
theorem dX6_feed_50 : decode cX6_feed 50 = .ok (.putfield 59, 3) := by decide +kernel
theorem dX6_feed_53 : decode cX6_feed 53 = .ok (.aload_n 2, 1) := by decide +kernel
theorem dX6_feed_54 : decode cX6_feed 54 = .ok (.getfield 59, 3) := by decide +kernel
theorem dX6_feed_57 : decode cX6_feed 57 = .ok (.ireturn, 1) := by decide +kernel
theorem dX6_end_0 : decode cX6_end 0 = .ok (.aload_n 0, 1) := by decide +kernel
theorem dX6_end_1 : decode cX6_end 1 = .ok (.getfield 33, 3) := by decide +kernel
theorem dX6_end_4 : decode cX6_end 4 = .ok (.getfield 55, 3) := by decide +kernel
theorem dX6_end_7 : decode cX6_end 7 = .ok (.astore_n 2, 1) := by decide +kernel
theorem dX6_end_8 : decode cX6_end 8 = .ok (.iload_n 1, 1) := by decide +kernel
theorem dX6_end_9 : decode cX6_end 9 = .ok (.aload_n 2, 1) := by decide +kernel
theorem dX6_end_10 : decode cX6_end 10 = .ok (.getfield 59, 3) := by decide +kernel
theorem dX6_end_13 : decode cX6_end 13 = .ok (.invokestatic 51, 3) := by decide +kernel
theorem dX6_end_16 : decode cX6_end 16 = .ok (.ifCond .ne 5, 3) := by decide +kernel
theorem dX6_end_19 : decode cX6_end 19 = .ok (.iconst (-1), 1) := by decide +kernel
theorem dX6_end_20 : decode cX6_end 20 = .ok (.ireturn, 1) := by decide +kernel
theorem dX6_end_21 : decode cX6_end 21 = .ok (.aload_n 2, 1) := by decide +kernel
theorem dX6_end_22 : decode cX6_end 22 = .ok (.getfield 59, 3) := by decide +kernel
theorem dX6_end_25 : decode cX6_end 25 = .ok (.istore_n 3, 1) := by decide +kernel
theorem dX6_end_26 : decode cX6_end 26 = .ok (.aload_n 2, 1) := by decide +kernel
theorem dX6_end_27 : decode cX6_end 27 = .ok (.iload_n 1, 1) := by decide +kernel
theorem dX6_end_28 : decode cX6_end 28 = .ok (.putfield 59, 3) := by decide +kernel
theorem dX6_end_31 : decode cX6_end 31 = .ok (.iload_n 3, 1) := by decide +kernel
theorem dX6_end_32 : decode cX6_end 32 = .ok (.ireturn, 1) := by decide +kernel
theorem dX6_text_0 : decode cX6_text 0 = .ok (.aload_n 0, 1) := by decide +kernel
theorem dX6_text_1 : decode cX6_text 1 = .ok (.getfield 33, 3) := by decide +kernel
theorem dX6_text_4 : decode cX6_text 4 = .ok (.invokevirtual 69, 3) := by decide +kernel
theorem dX6_text_7 : decode cX6_text 7 = .ok (.istore_n 1, 1) := by decide +kernel
theorem dX6_text_8 : decode cX6_text 8 = .ok (.aload_n 0, 1) := by decide +kernel
theorem dX6_text_9 : decode cX6_text 9 = .ok (.getfield 33, 3) := by decide +kernel
theorem dX6_text_12 : decode cX6_text 12 = .ok (.getfield 55, 3) := by decide +kernel
theorem dX6_text_15 : decode cX6_text 15 = .ok (.iconst 0, 1) := by decide +kernel
theorem dX6_text_16 : decode cX6_text 16 = .ok (.putfield 59, 3) := by decide +kernel
theorem dX6_text_19 : decode cX6_text 19 = .ok (.aload_n 0, 1) := by decide +kernel
theorem dX6_text_20 : decode cX6_text 20 = .ok (.aload_n 0, 1) := by decide +kernel
theorem dX6_text_21 : decode cX6_text 21 = .ok (.getfield 33, 3) := by decide +kernel
theorem dX6_text_24 : decode cX6_text 24 = .ok (.getfield 73, 3) := by decide +kernel
theorem dX6_text_27 : decode cX6_text 27 = .ok (.putfield 76, 3) := by decide +kernel
theorem dX6_text_30 : decode cX6_text 30 = .ok (.iload_n 1, 1) := by decide +kernel
theorem dX6_text_31 : decode cX6_text 31 = .ok (.ifCond .ne 14, 3) := by decide +kernel
theorem dX6_text_34 : decode cX6_text 34 = .ok (.bipush (-10), 2) := by decide +kernel
theorem dX6_text_36 : decode cX6_text 36 = .ok (.aload_n 0, 1) := by decide +kernel
theorem dX6_text_37 : decode cX6_text 37 = .ok (.getfield 33, 3) := by decide +kernel
theorem dX6_text_40 : decode cX6_text 40 = .ok (.getfield 79, 3) := by decide +kernel
theorem dX6_text_43 : decode cX6_text 43 = .ok (.isub, 1) := by decide +kernel
theorem dX6_text_44 : decode cX6_text 44 = .ok (.ireturn, 1) := by decide +kernel
theorem dX6_text_45 : decode cX6_text 45 = .ok (.aload_n 0, 1) := by decide +kernel
theorem dX6_text_46 : decode cX6_text 46 = .ok (.getfield 10, 3) := by decide +kernel
theorem dX6_text_49 : decode cX6_text 49 = .ok (.aload_n 0, 1) := by decide +kernel
theorem dX6_text_50 : decode cX6_text 50 = .ok (.getfield 33, 3) := by decide +kernel
theorem dX6_text_53 : decode cX6_text 53 = .ok (.getfield 82, 3) := by decide +kernel
theorem dX6_text_56 : decode cX6_text 56 = .ok (.invokevirtual 85, 3) := by decide +kernel
theorem dX6_text_59 : decode cX6_text 59 = .ok (.aload_n 0, 1) := by decide +kernel
theorem dX6_text_60 : decode cX6_text 60 = .ok (.getfield 19, 3) := by decide +kernel
theorem dX6_text_63 : decode cX6_text 63 = .ok (.iconst 0, 1) := by decide +kernel
theorem dX6_text_64 : decode cX6_text 64 = .ok (.putfield 89, 3) := by decide +kernel
theorem dX6_text_67 : decode cX6_text 67 = .ok (.iconst 0, 1) := by decide +kernel
theorem dX6_text_68 : decode cX6_text 68 = .ok (.istore_n 2, 1) := by decide +kernel
theorem dX6_text_69 : decode cX6_text 69 = .ok (.iload_n 2, 1) := by decide +kernel
theorem dX6_text_70 : decode cX6_text 70 = .ok (.aload_n 0, 1) := by decide +kernel
theorem dX6_text_71 : decode cX6_text 71 = .ok (.getfield 39, 3) := by decide +kernel
theorem dX6_text_74 : decode cX6_text 74 = .ok (.arraylength, 1) := by decide +kernel
theorem dX6_text_75 : decode cX6_text 75 = .ok (.if_icmp .ge 19, 3) := by decide +kernel
theorem dX6_text_78 : decode cX6_text 78 = .ok (.aload_n 0, 1) := by decide +kernel
theorem dX6_text_79 : decode cX6_text 79 = .ok (.getfield 39, 3) := by decide +kernel
theorem dX6_text_82 : decode cX6_text 82 = .ok (.iload_n 2, 1) := by decide +kernel
theorem dX6_text_83 : decode cX6_text 83 = .ok (.aaload, 1) := by decide +kernel
theorem dX6_text_84 : decode cX6_text 84 = .ok (.iconst 0, 1) := by decide +kernel
theorem dX6_text_85 : decode cX6_text 85 = .ok (.putfield 92, 3) := by decide +kernel
theorem dX6_text_88 : decode cX6_text 88 = .ok (.iinc 2 1, 3) := by decide +kernel
theorem dX6_text_91 : decode cX6_text 91 = .ok (.goto (-22), 3) := by decide +kernel
theorem dX6_text_94 : decode cX6_text 94 = .ok (.aload_n 0, 1) := by decide +kernel
theorem dX6_text_95 : decode cX6_text 95 = .ok (.getfield 33, 3) := by decide +kernel
theorem dX6_text_98 : decode cX6_text 98 = .ok (.getfield 96, 3) := by decide +kernel
theorem dX6_text_101 : decode cX6_text 101 = .ok (.ireturn, 1) := by decide +kernel
theorem dX6_fault_0 : decode cX6_fault 0 = .ok (.aload_n 0, 1) := by decide +kernel
theorem dX6_fault_1 : decode cX6_fault 1 = .ok (.getfield 76, 3) := by decide +kernel
theorem dX6_fault_4 : decode cX6_fault 4 = .ok (.ireturn, 1) := by decide +kernel
theorem dX6_rule_0 : decode cX6_rule 0 = .ok (.iload_n 1, 1) := by decide +kernel
theorem dX6_rule_1 : decode cX6_rule 1 = .ok (.tableswitch 99 0 6 #[43, 51, 59, 67, 75, 83, 91], 43) := by decide +kernel
theorem dX6_rule_44 : decode cX6_rule 44 = .ok (.aload_n 0, 1) := by decide +kernel
theorem dX6_rule_45 : decode cX6_rule 45 = .ok (.getfield 10, 3) := by decide +kernel
theorem dX6_rule_48 : decode cX6_rule 48 = .ok (.getfield 99, 3) := by decide +kernel
theorem dX6_rule_51 : decode cX6_rule 51 = .ok (.ireturn, 1) := by decide +kernel
theorem dX6_rule_52 : decode cX6_rule 52 = .ok (.aload_n 0, 1) := by decide +kernel
theorem dX6_rule_53 : decode cX6_rule 53 = .ok (.getfield 10, 3) := by decide +kernel
theorem dX6_rule_56 : decode cX6_rule 56 = .ok (.getfield 102, 3) := by decide +kernel
theorem dX6_rule_59 : decode cX6_rule 59 = .ok (.ireturn, 1) := by decide +kernel
theorem dX6_rule_60 : decode cX6_rule 60 = .ok (.aload_n 0, 1) := by decide +kernel
theorem dX6_rule_61 : decode cX6_rule 61 = .ok (.getfield 10, 3) := by decide +kernel
theorem dX6_rule_64 : decode cX6_rule 64 = .ok (.getfield 105, 3) := by decide +kernel
theorem dX6_rule_67 : decode cX6_rule 67 = .ok (.ireturn, 1) := by decide +kernel
theorem dX6_rule_68 : decode cX6_rule 68 = .ok (.aload_n 0, 1) := by decide +kernel
theorem dX6_rule_69 : decode cX6_rule 69 = .ok (.getfield 10, 3) := by decide +kernel
theorem dX6_rule_72 : decode cX6_rule 72 = .ok (.getfield 108, 3) := by decide +kernel
theorem dX6_rule_75 : decode cX6_rule 75 = .ok (.ireturn, 1) := by decide +kernel
theorem dX6_rule_76 : decode cX6_rule 76 = .ok (.aload_n 0, 1) := by decide +kernel
theorem dX6_rule_77 : decode cX6_rule 77 = .ok (.getfield 10, 3) := by decide +kernel
theorem dX6_rule_80 : decode cX6_rule 80 = .ok (.getfield 111, 3) := by decide +kernel
theorem dX6_rule_83 : decode cX6_rule 83 = .ok (.ireturn, 1) := by decide +kernel
theorem dX6_rule_84 : decode cX6_rule 84 = .ok (.aload_n 0, 1) := by decide +kernel
theorem dX6_rule_85 : decode cX6_rule 85 = .ok (.getfield 10, 3) := by decide +kernel
theorem dX6_rule_88 : decode cX6_rule 88 = .ok (.invokevirtual 114, 3) := by decide +kernel
theorem dX6_rule_91 : decode cX6_rule 91 = .ok (.ireturn, 1) := by decide +kernel
theorem dX6_rule_92 : decode cX6_rule 92 = .ok (.aload_n 0, 1) := by decide +kernel
theorem dX6_rule_93 : decode cX6_rule 93 = .ok (.getfield 10, 3) := by decide +kernel
theorem dX6_rule_96 : decode cX6_rule 96 = .ok (.getfield 118, 3) := by decide +kernel
theorem dX6_rule_99 : decode cX6_rule 99 = .ok (.ireturn, 1) := by decide +kernel
theorem dX6_rule_100 : decode cX6_rule 100 = .ok (.iconst (-1), 1) := by decide +kernel
theorem dX6_rule_101 : decode cX6_rule 101 = .ok (.ireturn, 1) := by decide +kernel
theorem dX6_glove_0 : decode cX6_glove 0 = .ok (.aload_n 0, 1) := by decide +kernel
theorem dX6_glove_1 : decode cX6_glove 1 = .ok (.iload_n 1, 1) := by decide +kernel
theorem dX6_glove_2 : decode cX6_glove 2 = .ok (.invokevirtual 121, 3) := by decide +kernel
theorem dX6_glove_5 : decode cX6_glove 5 = .ok (.ifCond .ne 5, 3) := by decide +kernel
theorem dX6_glove_8 : decode cX6_glove 8 = .ok (.iconst (-1), 1) := by decide +kernel
theorem dX6_glove_9 : decode cX6_glove 9 = .ok (.ireturn, 1) := by decide +kernel
theorem dX6_glove_10 : decode cX6_glove 10 = .ok (.iload_n 2, 1) := by decide +kernel
theorem dX6_glove_11 : decode cX6_glove 11 = .ok (.tableswitch 93 0 5 #[37, 37, 37, 47, 64, 84], 37) := by decide +kernel
theorem dX6_glove_48 : decode cX6_glove 48 = .ok (.aload_n 0, 1) := by decide +kernel
theorem dX6_glove_49 : decode cX6_glove 49 = .ok (.getfield 10, 3) := by decide +kernel
theorem dX6_glove_52 : decode cX6_glove 52 = .ok (.iload_n 1, 1) := by decide +kernel
theorem dX6_glove_53 : decode cX6_glove 53 = .ok (.iload_n 2, 1) := by decide +kernel
theorem dX6_glove_54 : decode cX6_glove 54 = .ok (.invokevirtual 125, 3) := by decide +kernel
theorem dX6_glove_57 : decode cX6_glove 57 = .ok (.ireturn, 1) := by decide +kernel
theorem dX6_glove_58 : decode cX6_glove 58 = .ok (.aload_n 0, 1) := by decide +kernel
theorem dX6_glove_59 : decode cX6_glove 59 = .ok (.getfield 10, 3) := by decide +kernel
theorem dX6_glove_62 : decode cX6_glove 62 = .ok (.iload_n 1, 1) := by decide +kernel
theorem dX6_glove_63 : decode cX6_glove 63 = .ok (.invokevirtual 129, 3) := by decide +kernel
theorem dX6_glove_66 : decode cX6_glove 66 = .ok (.ifCond .eq 7, 3) := by decide +kernel
theorem dX6_glove_69 : decode cX6_glove 69 = .ok (.iconst 1, 1) := by decide +kernel
theorem dX6_glove_70 : decode cX6_glove 70 = .ok (.goto 4, 3) := by decide +kernel
theorem dX6_glove_73 : decode cX6_glove 73 = .ok (.iconst 0, 1) := by decide +kernel
theorem dX6_glove_74 : decode cX6_glove 74 = .ok (.ireturn, 1) := by decide +kernel
theorem dX6_glove_75 : decode cX6_glove 75 = .ok (.aload_n 0, 1) := by decide +kernel
theorem dX6_glove_76 : decode cX6_glove 76 = .ok (.getfield 10, 3) := by decide +kernel
theorem dX6_glove_79 : decode cX6_glove 79 = .ok (.getfield 132, 3) := by decide +kernel
theorem dX6_glove_82 : decode cX6_glove 82 = .ok (.iload_n 1, 1) := by decide +kernel
theorem dX6_glove_83 : decode cX6_glove 83 = .ok (.iaload, 1) := by decide +kernel
theorem dX6_glove_84 : decode cX6_glove 84 = .ok (.aload_n 0, 1) := by decide +kernel
theorem dX6_glove_85 : decode cX6_glove 85 = .ok (.getfield 10, 3) := by decide +kernel
theorem dX6_glove_88 : decode cX6_glove 88 = .ok (.getfield 105, 3) := by decide +kernel
theorem dX6_glove_91 : decode cX6_glove 91 = .ok (.invokestatic 136, 3) := by decide +kernel
theorem dX6_glove_94 : decode cX6_glove 94 = .ok (.ireturn, 1) := by decide +kernel
theorem dX6_glove_95 : decode cX6_glove 95 = .ok (.aload_n 0, 1) := by decide +kernel
theorem dX6_glove_96 : decode cX6_glove 96 = .ok (.getfield 10, 3) := by decide +kernel
theorem dX6_glove_99 : decode cX6_glove 99 = .ok (.iload_n 1, 1) := by decide +kernel
theorem dX6_glove_100 : decode cX6_glove 100 = .ok (.invokevirtual 139, 3) := by decide +kernel
theorem dX6_glove_103 : decode cX6_glove 103 = .ok (.ireturn, 1) := by decide +kernel
theorem dX6_glove_104 : decode cX6_glove 104 = .ok (.iconst (-1), 1) := by decide +kernel
theorem dX6_glove_105 : decode cX6_glove 105 = .ok (.ireturn, 1) := by decide +kernel
theorem dX6_door_0 : decode cX6_door 0 = .ok (.iload_n 1, 1) := by decide +kernel
theorem dX6_door_1 : decode cX6_door 1 = .ok (.invokestatic 143, 3) := by decide +kernel
theorem dX6_door_4 : decode cX6_door 4 = .ok (.ifCond .ne 5, 3) := by decide +kernel
theorem dX6_door_7 : decode cX6_door 7 = .ok (.iconst (-1), 1) := by decide +kernel
theorem dX6_door_8 : decode cX6_door 8 = .ok (.ireturn, 1) := by decide +kernel
theorem dX6_door_9 : decode cX6_door 9 = .ok (.iload_n 2, 1) := by decide +kernel
theorem dX6_door_10 : decode cX6_door 10 = .ok (.lookupswitch 45 #[(0, 26), (1, 36)], 26) := by decide +kernel
theorem dX6_door_36 : decode cX6_door 36 = .ok (.aload_n 0, 1) := by decide +kernel
theorem dX6_door_37 : decode cX6_door 37 = .ok (.getfield 10, 3) := by decide +kernel
theorem dX6_door_40 : decode cX6_door 40 = .ok (.getfield 146, 3) := by decide +kernel
theorem dX6_door_43 : decode cX6_door 43 = .ok (.iload_n 1, 1) := by decide +kernel
theorem dX6_door_44 : decode cX6_door 44 = .ok (.iaload, 1) := by decide +kernel
theorem dX6_door_45 : decode cX6_door 45 = .ok (.ireturn, 1) := by decide +kernel
theorem dX6_door_46 : decode cX6_door 46 = .ok (.aload_n 0, 1) := by decide +kernel
theorem dX6_door_47 : decode cX6_door 47 = .ok (.getfield 10, 3) := by decide +kernel
theorem dX6_door_50 : decode cX6_door 50 = .ok (.iload_n 1, 1) := by decide +kernel
theorem dX6_door_51 : decode cX6_door 51 = .ok (.invokevirtual 149, 3) := by decide +kernel
theorem dX6_door_54 : decode cX6_door 54 = .ok (.ireturn, 1) := by decide +kernel
theorem dX6_door_55 : decode cX6_door 55 = .ok (.iconst (-1), 1) := by decide +kernel
theorem dX6_door_56 : decode cX6_door 56 = .ok (.ireturn, 1) := by decide +kernel
theorem dX6_stop_0 : decode cX6_stop 0 = .ok (.aload_n 0, 1) := by decide +kernel
theorem dX6_stop_1 : decode cX6_stop 1 = .ok (.iload_n 1, 1) := by decide +kernel
theorem dX6_stop_2 : decode cX6_stop 2 = .ok (.invokevirtual 152, 3) := by decide +kernel
theorem dX6_stop_5 : decode cX6_stop 5 = .ok (.ifCond .eq 15, 3) := by decide +kernel
theorem dX6_stop_8 : decode cX6_stop 8 = .ok (.aload_n 0, 1) := by decide +kernel
theorem dX6_stop_9 : decode cX6_stop 9 = .ok (.getfield 10, 3) := by decide +kernel
theorem dX6_stop_12 : decode cX6_stop 12 = .ok (.getfield 155, 3) := by decide +kernel
theorem dX6_stop_15 : decode cX6_stop 15 = .ok (.iload_n 1, 1) := by decide +kernel
theorem dX6_stop_16 : decode cX6_stop 16 = .ok (.iaload, 1) := by decide +kernel
theorem dX6_stop_17 : decode cX6_stop 17 = .ok (.goto 4, 3) := by decide +kernel
theorem dX6_stop_20 : decode cX6_stop 20 = .ok (.iconst (-1), 1) := by decide +kernel
theorem dX6_stop_21 : decode cX6_stop 21 = .ok (.ireturn, 1) := by decide +kernel
theorem dX6_alter_0 : decode cX6_alter 0 = .ok (.aload_n 0, 1) := by decide +kernel
theorem dX6_alter_1 : decode cX6_alter 1 = .ok (.iload_n 1, 1) := by decide +kernel
theorem dX6_alter_2 : decode cX6_alter 2 = .ok (.iload_n 2, 1) := by decide +kernel
theorem dX6_alter_3 : decode cX6_alter 3 = .ok (.iload_n 3, 1) := by decide +kernel
theorem dX6_alter_4 : decode cX6_alter 4 = .ok (.invokevirtual 158, 3) := by decide +kernel
theorem dX6_alter_7 : decode cX6_alter 7 = .ok (.istore 4, 2) := by decide +kernel
theorem dX6_alter_9 : decode cX6_alter 9 = .ok (.iload 4, 2) := by decide +kernel
theorem dX6_alter_11 : decode cX6_alter 11 = .ok (.ifCond .eq 6, 3) := by decide +kernel
theorem dX6_alter_14 : decode cX6_alter 14 = .ok (.iload 4, 2) := by decide +kernel
theorem dX6_alter_16 : decode cX6_alter 16 = .ok (.ireturn, 1) := by decide +kernel
theorem dX6_alter_17 : decode cX6_alter 17 = .ok (.aload_n 0, 1) := by decide +kernel
theorem dX6_alter_18 : decode cX6_alter 18 = .ok (.getfield 10, 3) := by decide +kernel
theorem dX6_alter_21 : decode cX6_alter 21 = .ok (.iload_n 1, 1) := by decide +kernel
theorem dX6_alter_22 : decode cX6_alter 22 = .ok (.iload_n 2, 1) := by decide +kernel
theorem dX6_alter_23 : decode cX6_alter 23 = .ok (.invokevirtual 125, 3) := by decide +kernel
theorem dX6_alter_26 : decode cX6_alter 26 = .ok (.istore 5, 2) := by decide +kernel
theorem dX6_alter_28 : decode cX6_alter 28 = .ok (.aload_n 0, 1) := by decide +kernel
theorem dX6_alter_29 : decode cX6_alter 29 = .ok (.getfield 10, 3) := by decide +kernel
theorem dX6_alter_32 : decode cX6_alter 32 = .ok (.iload_n 1, 1) := by decide +kernel
theorem dX6_alter_33 : decode cX6_alter 33 = .ok (.iload_n 2, 1) := by decide +kernel
theorem dX6_alter_34 : decode cX6_alter 34 = .ok (.iload_n 3, 1) := by decide +kernel
theorem dX6_alter_35 : decode cX6_alter 35 = .ok (.invokevirtual 162, 3) := by decide +kernel
theorem dX6_alter_38 : decode cX6_alter 38 = .ok (.iload 5, 2) := by decide +kernel
theorem dX6_alter_40 : decode cX6_alter 40 = .ok (.ireturn, 1) := by decide +kernel
theorem dX6_fame_0 : decode cX6_fame 0 = .ok (.iload_n 1, 1) := by decide +kernel
theorem dX6_fame_1 : decode cX6_fame 1 = .ok (.invokestatic 143, 3) := by decide +kernel
theorem dX6_fame_4 : decode cX6_fame 4 = .ok (.ifCond .eq 12, 3) := by decide +kernel
theorem dX6_fame_7 : decode cX6_fame 7 = .ok (.iload_n 2, 1) := by decide +kernel
theorem dX6_fame_8 : decode cX6_fame 8 = .ok (.bipush 9, 2) := by decide +kernel
theorem dX6_fame_10 : decode cX6_fame 10 = .ok (.invokestatic 51, 3) := by decide +kernel
theorem dX6_fame_13 : decode cX6_fame 13 = .ok (.ifCond .ne 5, 3) := by decide +kernel
theorem dX6_fame_16 : decode cX6_fame 16 = .ok (.iconst (-1), 1) := by decide +kernel
theorem dX6_fame_17 : decode cX6_fame 17 = .ok (.ireturn, 1) := by decide +kernel
theorem dX6_fame_18 : decode cX6_fame 18 = .ok (.aload_n 0, 1) := by decide +kernel
theorem dX6_fame_19 : decode cX6_fame 19 = .ok (.getfield 10, 3) := by decide +kernel
theorem dX6_fame_22 : decode cX6_fame 22 = .ok (.getfield 146, 3) := by decide +kernel
theorem dX6_fame_25 : decode cX6_fame 25 = .ok (.iload_n 1, 1) := by decide +kernel
theorem dX6_fame_26 : decode cX6_fame 26 = .ok (.iaload, 1) := by decide +kernel
theorem dX6_fame_27 : decode cX6_fame 27 = .ok (.istore_n 3, 1) := by decide +kernel
theorem dX6_fame_28 : decode cX6_fame 28 = .ok (.aload_n 0, 1) := by decide +kernel
theorem dX6_fame_29 : decode cX6_fame 29 = .ok (.getfield 10, 3) := by decide +kernel
theorem dX6_fame_32 : decode cX6_fame 32 = .ok (.getfield 146, 3) := by decide +kernel
theorem dX6_fame_35 : decode cX6_fame 35 = .ok (.iload_n 1, 1) := by decide +kernel
theorem dX6_fame_36 : decode cX6_fame 36 = .ok (.iload_n 2, 1) := by decide +kernel
theorem dX6_fame_37 : decode cX6_fame 37 = .ok (.iastore, 1) := by decide +kernel
theorem dX6_fame_38 : decode cX6_fame 38 = .ok (.iload_n 3, 1) := by decide +kernel
theorem dX6_fame_39 : decode cX6_fame 39 = .ok (.ireturn, 1) := by decide +kernel
theorem dX6_leave_0 : decode cX6_leave 0 = .ok (.aload_n 0, 1) := by decide +kernel
theorem dX6_leave_1 : decode cX6_leave 1 = .ok (.iload_n 1, 1) := by decide +kernel
theorem dX6_leave_2 : decode cX6_leave 2 = .ok (.invokevirtual 121, 3) := by decide +kernel
theorem dX6_leave_5 : decode cX6_leave 5 = .ok (.ifCond .ne 5, 3) := by decide +kernel
theorem dX6_leave_8 : decode cX6_leave 8 = .ok (.iconst (-1), 1) := by decide +kernel
theorem dX6_leave_9 : decode cX6_leave 9 = .ok (.ireturn, 1) := by decide +kernel
theorem dX6_leave_10 : decode cX6_leave 10 = .ok (.aload_n 0, 1) := by decide +kernel
theorem dX6_leave_11 : decode cX6_leave 11 = .ok (.getfield 10, 3) := by decide +kernel
theorem dX6_leave_14 : decode cX6_leave 14 = .ok (.iload_n 1, 1) := by decide +kernel
theorem dX6_leave_15 : decode cX6_leave 15 = .ok (.invokevirtual 129, 3) := by decide +kernel
theorem dX6_leave_18 : decode cX6_leave 18 = .ok (.ifCond .ne 6, 3) := by decide +kernel
theorem dX6_leave_21 : decode cX6_leave 21 = .ok (.bipush (-2), 2) := by decide +kernel
theorem dX6_leave_23 : decode cX6_leave 23 = .ok (.ireturn, 1) := by decide +kernel
theorem dX6_leave_24 : decode cX6_leave 24 = .ok (.aload_n 0, 1) := by decide +kernel
theorem dX6_leave_25 : decode cX6_leave 25 = .ok (.getfield 10, 3) := by decide +kernel
theorem dX6_leave_28 : decode cX6_leave 28 = .ok (.dup, 1) := by decide +kernel
theorem dX6_leave_29 : decode cX6_leave 29 = .ok (.getfield 111, 3) := by decide +kernel
theorem dX6_leave_32 : decode cX6_leave 32 = .ok (.iconst 1, 1) := by decide +kernel
theorem dX6_leave_33 : decode cX6_leave 33 = .ok (.iload_n 1, 1) := by decide +kernel
theorem dX6_leave_34 : decode cX6_leave 34 = .ok (.ishl, 1) := by decide +kernel
theorem dX6_leave_35 : decode cX6_leave 35 = .ok (.iconst (-1), 1) := by decide +kernel
theorem dX6_leave_36 : decode cX6_leave 36 = .ok (.ixor, 1) := by decide +kernel
theorem dX6_leave_37 : decode cX6_leave 37 = .ok (.iand, 1) := by decide +kernel
theorem dX6_leave_38 : decode cX6_leave 38 = .ok (.putfield 111, 3) := by decide +kernel
theorem dX6_leave_41 : decode cX6_leave 41 = .ok (.aload_n 0, 1) := by decide +kernel
theorem dX6_leave_42 : decode cX6_leave 42 = .ok (.getfield 10, 3) := by decide +kernel
theorem dX6_leave_45 : decode cX6_leave 45 = .ok (.getfield 132, 3) := by decide +kernel
theorem dX6_leave_48 : decode cX6_leave 48 = .ok (.iload_n 1, 1) := by decide +kernel
theorem dX6_leave_49 : decode cX6_leave 49 = .ok (.iaload, 1) := by decide +kernel
theorem dX6_leave_50 : decode cX6_leave 50 = .ok (.ireturn, 1) := by decide +kernel
theorem dX6_go_0 : decode cX6_go 0 = .ok (.iload_n 1, 1) := by decide +kernel
theorem dX6_go_1 : decode cX6_go 1 = .ok (.invokestatic 143, 3) := by decide +kernel
theorem dX6_go_4 : decode cX6_go 4 = .ok (.ifCond .ne 5, 3) := by decide +kernel
theorem dX6_go_7 : decode cX6_go 7 = .ok (.iconst (-1), 1) := by decide +kernel
theorem dX6_go_8 : decode cX6_go 8 = .ok (.ireturn, 1) := by decide +kernel
theorem dX6_go_9 : decode cX6_go 9 = .ok (.aload_n 0, 1) := by decide +kernel
theorem dX6_go_10 : decode cX6_go 10 = .ok (.getfield 10, 3) := by decide +kernel
theorem dX6_go_13 : decode cX6_go 13 = .ok (.getfield 105, 3) := by decide +kernel
theorem dX6_go_16 : decode cX6_go 16 = .ok (.istore_n 2, 1) := by decide +kernel
theorem dX6_go_17 : decode cX6_go 17 = .ok (.aload_n 0, 1) := by decide +kernel
theorem dX6_go_18 : decode cX6_go 18 = .ok (.getfield 10, 3) := by decide +kernel
theorem dX6_go_21 : decode cX6_go 21 = .ok (.iload_n 1, 1) := by decide +kernel
theorem dX6_go_22 : decode cX6_go 22 = .ok (.invokevirtual 166, 3) := by decide +kernel
theorem dX6_go_25 : decode cX6_go 25 = .ok (.iload_n 2, 1) := by decide +kernel
theorem dX6_go_26 : decode cX6_go 26 = .ok (.ireturn, 1) := by decide +kernel
theorem dX6_call_0 : decode cX6_call 0 = .ok (.iload_n 1, 1) := by decide +kernel
theorem dX6_call_1 : decode cX6_call 1 = .ok (.invokestatic 143, 3) := by decide +kernel
theorem dX6_call_4 : decode cX6_call 4 = .ok (.ifCond .ne 5, 3) := by decide +kernel
theorem dX6_call_7 : decode cX6_call 7 = .ok (.iconst (-1), 1) := by decide +kernel
theorem dX6_call_8 : decode cX6_call 8 = .ok (.ireturn, 1) := by decide +kernel
theorem dX6_call_9 : decode cX6_call 9 = .ok (.aload_n 0, 1) := by decide +kernel
theorem dX6_call_10 : decode cX6_call 10 = .ok (.getfield 10, 3) := by decide +kernel
theorem dX6_call_13 : decode cX6_call 13 = .ok (.getfield 118, 3) := by decide +kernel
theorem dX6_call_16 : decode cX6_call 16 = .ok (.bipush 6, 2) := by decide +kernel
theorem dX6_call_18 : decode cX6_call 18 = .ok (.if_icmp .lt 6, 3) := by decide +kernel
theorem dX6_call_21 : decode cX6_call 21 = .ok (.bipush (-3), 2) := by decide +kernel
theorem dX6_call_23 : decode cX6_call 23 = .ok (.ireturn, 1) := by decide +kernel
theorem dX6_call_24 : decode cX6_call 24 = .ok (.aload_n 0, 1) := by decide +kernel
theorem dX6_call_25 : decode cX6_call 25 = .ok (.getfield 10, 3) := by decide +kernel
theorem dX6_call_28 : decode cX6_call 28 = .ok (.getfield 155, 3) := by decide +kernel
theorem dX6_call_31 : decode cX6_call 31 = .ok (.aload_n 0, 1) := by decide +kernel
theorem dX6_call_32 : decode cX6_call 32 = .ok (.getfield 10, 3) := by decide +kernel
theorem dX6_call_35 : decode cX6_call 35 = .ok (.getfield 118, 3) := by decide +kernel
theorem dX6_call_38 : decode cX6_call 38 = .ok (.iload_n 1, 1) := by decide +kernel
theorem dX6_call_39 : decode cX6_call 39 = .ok (.iastore, 1) := by decide +kernel
theorem dX6_call_40 : decode cX6_call 40 = .ok (.aload_n 0, 1) := by decide +kernel
theorem dX6_call_41 : decode cX6_call 41 = .ok (.getfield 10, 3) := by decide +kernel
theorem dX6_call_44 : decode cX6_call 44 = .ok (.dup, 1) := by decide +kernel
theorem dX6_call_45 : decode cX6_call 45 = .ok (.getfield 118, 3) := by decide +kernel
theorem dX6_call_48 : decode cX6_call 48 = .ok (.iconst 1, 1) := by decide +kernel
theorem dX6_call_49 : decode cX6_call 49 = .ok (.iadd, 1) := by decide +kernel
theorem dX6_call_50 : decode cX6_call 50 = .ok (.putfield 118, 3) := by decide +kernel
theorem dX6_call_53 : decode cX6_call 53 = .ok (.aload_n 0, 1) := by decide +kernel
theorem dX6_call_54 : decode cX6_call 54 = .ok (.getfield 10, 3) := by decide +kernel
theorem dX6_call_57 : decode cX6_call 57 = .ok (.getfield 118, 3) := by decide +kernel
theorem dX6_call_60 : decode cX6_call 60 = .ok (.ireturn, 1) := by decide +kernel
theorem dX6_cut_0 : decode cX6_cut 0 = .ok (.iload_n 1, 1) := by decide +kernel
theorem dX6_cut_1 : decode cX6_cut 1 = .ok (.aload_n 0, 1) := by decide +kernel
theorem dX6_cut_2 : decode cX6_cut 2 = .ok (.getfield 10, 3) := by decide +kernel
theorem dX6_cut_5 : decode cX6_cut 5 = .ok (.getfield 118, 3) := by decide +kernel
theorem dX6_cut_8 : decode cX6_cut 8 = .ok (.invokestatic 51, 3) := by decide +kernel
theorem dX6_cut_11 : decode cX6_cut 11 = .ok (.ifCond .ne 5, 3) := by decide +kernel
theorem dX6_cut_14 : decode cX6_cut 14 = .ok (.iconst (-1), 1) := by decide +kernel
theorem dX6_cut_15 : decode cX6_cut 15 = .ok (.ireturn, 1) := by decide +kernel
theorem dX6_cut_16 : decode cX6_cut 16 = .ok (.aload_n 0, 1) := by decide +kernel
theorem dX6_cut_17 : decode cX6_cut 17 = .ok (.getfield 10, 3) := by decide +kernel
theorem dX6_cut_20 : decode cX6_cut 20 = .ok (.getfield 118, 3) := by decide +kernel
theorem dX6_cut_23 : decode cX6_cut 23 = .ok (.istore_n 2, 1) := by decide +kernel
theorem dX6_cut_24 : decode cX6_cut 24 = .ok (.aload_n 0, 1) := by decide +kernel
theorem dX6_cut_25 : decode cX6_cut 25 = .ok (.getfield 10, 3) := by decide +kernel
theorem dX6_cut_28 : decode cX6_cut 28 = .ok (.iload_n 1, 1) := by decide +kernel
theorem dX6_cut_29 : decode cX6_cut 29 = .ok (.putfield 118, 3) := by decide +kernel
theorem dX6_cut_32 : decode cX6_cut 32 = .ok (.iload_n 2, 1) := by decide +kernel
theorem dX6_cut_33 : decode cX6_cut 33 = .ok (.ireturn, 1) := by decide +kernel
theorem dX6_days_0 : decode cX6_days 0 = .ok (.iload_n 1, 1) := by decide +kernel
theorem dX6_days_1 : decode cX6_days 1 = .ok (.bipush 30, 2) := by decide +kernel
theorem dX6_days_3 : decode cX6_days 3 = .ok (.invokestatic 51, 3) := by decide +kernel
theorem dX6_days_6 : decode cX6_days 6 = .ok (.ifCond .ne 5, 3) := by decide +kernel
theorem dX6_days_9 : decode cX6_days 9 = .ok (.iconst (-1), 1) := by decide +kernel
theorem dX6_days_10 : decode cX6_days 10 = .ok (.ireturn, 1) := by decide +kernel
theorem dX6_days_11 : decode cX6_days 11 = .ok (.aload_n 0, 1) := by decide +kernel
theorem dX6_days_12 : decode cX6_days 12 = .ok (.getfield 10, 3) := by decide +kernel
theorem dX6_days_15 : decode cX6_days 15 = .ok (.getfield 102, 3) := by decide +kernel
theorem dX6_days_18 : decode cX6_days 18 = .ok (.iload_n 1, 1) := by decide +kernel
theorem dX6_days_19 : decode cX6_days 19 = .ok (.iadd, 1) := by decide +kernel
theorem dX6_days_20 : decode cX6_days 20 = .ok (.sipush 999, 3) := by decide +kernel
theorem dX6_days_23 : decode cX6_days 23 = .ok (.if_icmp .le 6, 3) := by decide +kernel
theorem dX6_days_26 : decode cX6_days 26 = .ok (.bipush (-3), 2) := by decide +kernel
theorem dX6_days_28 : decode cX6_days 28 = .ok (.ireturn, 1) := by decide +kernel
theorem dX6_days_29 : decode cX6_days 29 = .ok (.aload_n 0, 1) := by decide +kernel
theorem dX6_days_30 : decode cX6_days 30 = .ok (.getfield 10, 3) := by decide +kernel
theorem dX6_days_33 : decode cX6_days 33 = .ok (.getfield 108, 3) := by decide +kernel
theorem dX6_days_36 : decode cX6_days 36 = .ok (.istore_n 2, 1) := by decide +kernel
theorem dX6_days_37 : decode cX6_days 37 = .ok (.aload_n 0, 1) := by decide +kernel
theorem dX6_days_38 : decode cX6_days 38 = .ok (.getfield 10, 3) := by decide +kernel
theorem dX6_days_41 : decode cX6_days 41 = .ok (.iload_n 1, 1) := by decide +kernel
theorem dX6_days_42 : decode cX6_days 42 = .ok (.invokevirtual 170, 3) := by decide +kernel
theorem dX6_days_45 : decode cX6_days 45 = .ok (.aload_n 0, 1) := by decide +kernel
theorem dX6_days_46 : decode cX6_days 46 = .ok (.getfield 10, 3) := by decide +kernel
theorem dX6_days_49 : decode cX6_days 49 = .ok (.getfield 108, 3) := by decide +kernel
theorem dX6_days_52 : decode cX6_days 52 = .ok (.iload_n 2, 1) := by decide +kernel
theorem dX6_days_53 : decode cX6_days 53 = .ok (.isub, 1) := by decide +kernel
theorem dX6_days_54 : decode cX6_days 54 = .ok (.ireturn, 1) := by decide +kernel
theorem dX6_runs_0 : decode cX6_runs 0 = .ok (.iload_n 1, 1) := by decide +kernel
theorem dX6_runs_1 : decode cX6_runs 1 = .ok (.bipush 60, 2) := by decide +kernel
theorem dX6_runs_3 : decode cX6_runs 3 = .ok (.invokestatic 51, 3) := by decide +kernel
theorem dX6_runs_6 : decode cX6_runs 6 = .ok (.ifCond .eq 11, 3) := by decide +kernel
theorem dX6_runs_9 : decode cX6_runs 9 = .ok (.iload_n 2, 1) := by decide +kernel
theorem dX6_runs_10 : decode cX6_runs 10 = .ok (.iconst 4, 1) := by decide +kernel
theorem dX6_runs_11 : decode cX6_runs 11 = .ok (.invokestatic 51, 3) := by decide +kernel
theorem dX6_runs_14 : decode cX6_runs 14 = .ok (.ifCond .ne 5, 3) := by decide +kernel
theorem dX6_runs_17 : decode cX6_runs 17 = .ok (.iconst (-1), 1) := by decide +kernel
theorem dX6_runs_18 : decode cX6_runs 18 = .ok (.ireturn, 1) := by decide +kernel
theorem dX6_runs_19 : decode cX6_runs 19 = .ok (.aload_n 0, 1) := by decide +kernel
theorem dX6_runs_20 : decode cX6_runs 20 = .ok (.getfield 23, 3) := by decide +kernel
theorem dX6_runs_23 : decode cX6_runs 23 = .ok (.aload_n 0, 1) := by decide +kernel
theorem dX6_runs_24 : decode cX6_runs 24 = .ok (.getfield 10, 3) := by decide +kernel
theorem dX6_runs_27 : decode cX6_runs 27 = .ok (.invokevirtual 85, 3) := by decide +kernel
theorem dX6_runs_30 : decode cX6_runs 30 = .ok (.iload_n 2, 1) := by decide +kernel
theorem dX6_runs_31 : decode cX6_runs 31 = .ok (.iconst 4, 1) := by decide +kernel
theorem dX6_runs_32 : decode cX6_runs 32 = .ok (.if_icmp .ne 18, 3) := by decide +kernel
theorem dX6_runs_35 : decode cX6_runs 35 = .ok (.aload_n 0, 1) := by decide +kernel
theorem dX6_runs_36 : decode cX6_runs 36 = .ok (.aload_n 0, 1) := by decide +kernel
theorem dX6_runs_37 : decode cX6_runs 37 = .ok (.getfield 10, 3) := by decide +kernel
theorem dX6_runs_40 : decode cX6_runs 40 = .ok (.getfield 111, 3) := by decide +kernel
theorem dX6_runs_43 : decode cX6_runs 43 = .ok (.iconst (-1), 1) := by decide +kernel
theorem dX6_runs_44 : decode cX6_runs 44 = .ok (.ixor, 1) := by decide +kernel
theorem dX6_runs_45 : decode cX6_runs 45 = .ok (.iload_n 1, 1) := by decide +kernel
theorem dX6_runs_46 : decode cX6_runs 46 = .ok (.invokevirtual 173, 3) := by decide +kernel
theorem dX6_runs_49 : decode cX6_runs 49 = .ok (.ireturn, 1) := by decide +kernel
theorem dX6_runs_50 : decode cX6_runs 50 = .ok (.aload_n 0, 1) := by decide +kernel
theorem dX6_runs_51 : decode cX6_runs 51 = .ok (.getfield 23, 3) := by decide +kernel
theorem dX6_runs_54 : decode cX6_runs 54 = .ok (.iload_n 1, 1) := by decide +kernel
theorem dX6_runs_55 : decode cX6_runs 55 = .ok (.invokevirtual 170, 3) := by decide +kernel
theorem dX6_runs_58 : decode cX6_runs 58 = .ok (.iload_n 2, 1) := by decide +kernel
theorem dX6_runs_59 : decode cX6_runs 59 = .ok (.tableswitch 57 0 2 #[25, 41, 49], 25) := by decide +kernel
theorem dX6_runs_84 : decode cX6_runs 84 = .ok (.aload_n 0, 1) := by decide +kernel
theorem dX6_runs_85 : decode cX6_runs 85 = .ok (.getfield 23, 3) := by decide +kernel
theorem dX6_runs_88 : decode cX6_runs 88 = .ok (.getfield 108, 3) := by decide +kernel
theorem dX6_runs_91 : decode cX6_runs 91 = .ok (.aload_n 0, 1) := by decide +kernel
theorem dX6_runs_92 : decode cX6_runs 92 = .ok (.getfield 10, 3) := by decide +kernel
theorem dX6_runs_95 : decode cX6_runs 95 = .ok (.getfield 108, 3) := by decide +kernel
theorem dX6_runs_98 : decode cX6_runs 98 = .ok (.isub, 1) := by decide +kernel
theorem dX6_runs_99 : decode cX6_runs 99 = .ok (.ireturn, 1) := by decide +kernel
theorem dX6_runs_100 : decode cX6_runs 100 = .ok (.aload_n 0, 1) := by decide +kernel
theorem dX6_runs_101 : decode cX6_runs 101 = .ok (.getfield 23, 3) := by decide +kernel
theorem dX6_runs_104 : decode cX6_runs 104 = .ok (.getfield 111, 3) := by decide +kernel
theorem dX6_runs_107 : decode cX6_runs 107 = .ok (.ireturn, 1) := by decide +kernel
theorem dX6_runs_108 : decode cX6_runs 108 = .ok (.aload_n 0, 1) := by decide +kernel
theorem dX6_runs_109 : decode cX6_runs 109 = .ok (.getfield 23, 3) := by decide +kernel
theorem dX6_runs_112 : decode cX6_runs 112 = .ok (.invokevirtual 114, 3) := by decide +kernel
theorem dX6_runs_115 : decode cX6_runs 115 = .ok (.ireturn, 1) := by decide +kernel
theorem dX6_runs_116 : decode cX6_runs 116 = .ok (.aload_n 0, 1) := by decide +kernel
theorem dX6_runs_117 : decode cX6_runs 117 = .ok (.getfield 23, 3) := by decide +kernel
theorem dX6_runs_120 : decode cX6_runs 120 = .ok (.getfield 105, 3) := by decide +kernel
theorem dX6_runs_123 : decode cX6_runs 123 = .ok (.ireturn, 1) := by decide +kernel
theorem dX6_ahead_0 : decode cX6_ahead 0 = .ok (.aload_n 0, 1) := by decide +kernel
theorem dX6_ahead_1 : decode cX6_ahead 1 = .ok (.iload_n 1, 1) := by decide +kernel
theorem dX6_ahead_2 : decode cX6_ahead 2 = .ok (.invokevirtual 121, 3) := by decide +kernel
theorem dX6_ahead_5 : decode cX6_ahead 5 = .ok (.ifCond .eq 20, 3) := by decide +kernel
theorem dX6_ahead_8 : decode cX6_ahead 8 = .ok (.iload_n 2, 1) := by decide +kernel
theorem dX6_ahead_9 : decode cX6_ahead 9 = .ok (.bipush 60, 2) := by decide +kernel
theorem dX6_ahead_11 : decode cX6_ahead 11 = .ok (.invokestatic 51, 3) := by decide +kernel
theorem dX6_ahead_14 : decode cX6_ahead 14 = .ok (.ifCond .eq 11, 3) := by decide +kernel
theorem dX6_ahead_17 : decode cX6_ahead 17 = .ok (.iload_n 3, 1) := by decide +kernel
theorem dX6_ahead_18 : decode cX6_ahead 18 = .ok (.iconst 1, 1) := by decide +kernel
theorem dX6_ahead_19 : decode cX6_ahead 19 = .ok (.invokestatic 51, 3) := by decide +kernel
theorem dX6_ahead_22 : decode cX6_ahead 22 = .ok (.ifCond .ne 5, 3) := by decide +kernel
theorem dX6_ahead_25 : decode cX6_ahead 25 = .ok (.iconst (-1), 1) := by decide +kernel
theorem dX6_ahead_26 : decode cX6_ahead 26 = .ok (.ireturn, 1) := by decide +kernel
theorem dX6_ahead_27 : decode cX6_ahead 27 = .ok (.aload_n 0, 1) := by decide +kernel
theorem dX6_ahead_28 : decode cX6_ahead 28 = .ok (.getfield 23, 3) := by decide +kernel
theorem dX6_ahead_31 : decode cX6_ahead 31 = .ok (.aload_n 0, 1) := by decide +kernel
theorem dX6_ahead_32 : decode cX6_ahead 32 = .ok (.getfield 10, 3) := by decide +kernel
theorem dX6_ahead_35 : decode cX6_ahead 35 = .ok (.invokevirtual 85, 3) := by decide +kernel
theorem dX6_ahead_38 : decode cX6_ahead 38 = .ok (.aload_n 0, 1) := by decide +kernel
theorem dX6_ahead_39 : decode cX6_ahead 39 = .ok (.getfield 23, 3) := by decide +kernel
theorem dX6_ahead_42 : decode cX6_ahead 42 = .ok (.iload_n 2, 1) := by decide +kernel
theorem dX6_ahead_43 : decode cX6_ahead 43 = .ok (.invokevirtual 170, 3) := by decide +kernel
theorem dX6_ahead_46 : decode cX6_ahead 46 = .ok (.iload_n 3, 1) := by decide +kernel
theorem dX6_ahead_47 : decode cX6_ahead 47 = .ok (.ifCond .ne 15, 3) := by decide +kernel
theorem dX6_ahead_50 : decode cX6_ahead 50 = .ok (.aload_n 0, 1) := by decide +kernel
theorem dX6_ahead_51 : decode cX6_ahead 51 = .ok (.getfield 23, 3) := by decide +kernel
theorem dX6_ahead_54 : decode cX6_ahead 54 = .ok (.getfield 132, 3) := by decide +kernel
theorem dX6_ahead_57 : decode cX6_ahead 57 = .ok (.iload_n 1, 1) := by decide +kernel
theorem dX6_ahead_58 : decode cX6_ahead 58 = .ok (.iaload, 1) := by decide +kernel
theorem dX6_ahead_59 : decode cX6_ahead 59 = .ok (.goto 12, 3) := by decide +kernel
theorem dX6_ahead_62 : decode cX6_ahead 62 = .ok (.aload_n 0, 1) := by decide +kernel
theorem dX6_ahead_63 : decode cX6_ahead 63 = .ok (.getfield 23, 3) := by decide +kernel
theorem dX6_ahead_66 : decode cX6_ahead 66 = .ok (.getfield 176, 3) := by decide +kernel
theorem dX6_ahead_69 : decode cX6_ahead 69 = .ok (.iload_n 1, 1) := by decide +kernel
theorem dX6_ahead_70 : decode cX6_ahead 70 = .ok (.iaload, 1) := by decide +kernel
theorem dX6_ahead_71 : decode cX6_ahead 71 = .ok (.ireturn, 1) := by decide +kernel
theorem dX6_meets_0 : decode cX6_meets 0 = .ok (.aload_n 0, 1) := by decide +kernel
theorem dX6_meets_1 : decode cX6_meets 1 = .ok (.iload_n 1, 1) := by decide +kernel
theorem dX6_meets_2 : decode cX6_meets 2 = .ok (.invokevirtual 121, 3) := by decide +kernel
theorem dX6_meets_5 : decode cX6_meets 5 = .ok (.ifCond .ne 5, 3) := by decide +kernel
theorem dX6_meets_8 : decode cX6_meets 8 = .ok (.iconst (-1), 1) := by decide +kernel
theorem dX6_meets_9 : decode cX6_meets 9 = .ok (.ireturn, 1) := by decide +kernel
theorem dX6_meets_10 : decode cX6_meets 10 = .ok (.aload_n 0, 1) := by decide +kernel
theorem dX6_meets_11 : decode cX6_meets 11 = .ok (.getfield 23, 3) := by decide +kernel
theorem dX6_meets_14 : decode cX6_meets 14 = .ok (.aload_n 0, 1) := by decide +kernel
theorem dX6_meets_15 : decode cX6_meets 15 = .ok (.getfield 10, 3) := by decide +kernel
theorem dX6_meets_18 : decode cX6_meets 18 = .ok (.invokevirtual 85, 3) := by decide +kernel
theorem dX6_meets_21 : decode cX6_meets 21 = .ok (.aload_n 0, 1) := by decide +kernel
theorem dX6_meets_22 : decode cX6_meets 22 = .ok (.iconst 1, 1) := by decide +kernel
theorem dX6_meets_23 : decode cX6_meets 23 = .ok (.iload_n 1, 1) := by decide +kernel
theorem dX6_meets_24 : decode cX6_meets 24 = .ok (.ishl, 1) := by decide +kernel
theorem dX6_meets_25 : decode cX6_meets 25 = .ok (.bipush 60, 2) := by decide +kernel
theorem dX6_meets_27 : decode cX6_meets 27 = .ok (.invokevirtual 173, 3) := by decide +kernel
theorem dX6_meets_30 : decode cX6_meets 30 = .ok (.ireturn, 1) := by decide +kernel
theorem dX6_place_0 : decode cX6_place 0 = .ok (.aload_n 0, 1) := by decide +kernel
theorem dX6_place_1 : decode cX6_place 1 = .ok (.iload_n 1, 1) := by decide +kernel
theorem dX6_place_2 : decode cX6_place 2 = .ok (.invokevirtual 152, 3) := by decide +kernel
theorem dX6_place_5 : decode cX6_place 5 = .ok (.ifCond .eq 20, 3) := by decide +kernel
theorem dX6_place_8 : decode cX6_place 8 = .ok (.iload_n 2, 1) := by decide +kernel
theorem dX6_place_9 : decode cX6_place 9 = .ok (.bipush 60, 2) := by decide +kernel
theorem dX6_place_11 : decode cX6_place 11 = .ok (.invokestatic 51, 3) := by decide +kernel
theorem dX6_place_14 : decode cX6_place 14 = .ok (.ifCond .eq 11, 3) := by decide +kernel
theorem dX6_place_17 : decode cX6_place 17 = .ok (.iload_n 3, 1) := by decide +kernel
theorem dX6_place_18 : decode cX6_place 18 = .ok (.iconst 1, 1) := by decide +kernel
theorem dX6_place_19 : decode cX6_place 19 = .ok (.invokestatic 51, 3) := by decide +kernel
theorem dX6_place_22 : decode cX6_place 22 = .ok (.ifCond .ne 5, 3) := by decide +kernel
theorem dX6_place_25 : decode cX6_place 25 = .ok (.iconst (-1), 1) := by decide +kernel
theorem dX6_place_26 : decode cX6_place 26 = .ok (.ireturn, 1) := by decide +kernel
theorem dX6_place_27 : decode cX6_place 27 = .ok (.aload_n 0, 1) := by decide +kernel
theorem dX6_place_28 : decode cX6_place 28 = .ok (.iload_n 1, 1) := by decide +kernel
theorem dX6_place_29 : decode cX6_place 29 = .ok (.iload_n 2, 1) := by decide +kernel
theorem dX6_place_30 : decode cX6_place 30 = .ok (.iload_n 3, 1) := by decide +kernel
theorem dX6_place_31 : decode cX6_place 31 = .ok (.invokevirtual 179, 3) := by decide +kernel
theorem dX6_place_34 : decode cX6_place 34 = .ok (.ireturn, 1) := by decide +kernel
theorem dX6_extra_0 : decode cX6_extra 0 = .ok (.iload_n 1, 1) := by decide +kernel
theorem dX6_extra_1 : decode cX6_extra 1 = .ok (.bipush 60, 2) := by decide +kernel
theorem dX6_extra_3 : decode cX6_extra 3 = .ok (.invokestatic 51, 3) := by decide +kernel
theorem dX6_extra_6 : decode cX6_extra 6 = .ok (.ifCond .eq 11, 3) := by decide +kernel
theorem dX6_extra_9 : decode cX6_extra 9 = .ok (.iload_n 2, 1) := by decide +kernel
theorem dX6_extra_10 : decode cX6_extra 10 = .ok (.iconst 1, 1) := by decide +kernel
theorem dX6_extra_11 : decode cX6_extra 11 = .ok (.invokestatic 51, 3) := by decide +kernel
theorem dX6_extra_14 : decode cX6_extra 14 = .ok (.ifCond .ne 5, 3) := by decide +kernel
theorem dX6_extra_17 : decode cX6_extra 17 = .ok (.iconst (-1), 1) := by decide +kernel
theorem dX6_extra_18 : decode cX6_extra 18 = .ok (.ireturn, 1) := by decide +kernel
theorem dX6_extra_19 : decode cX6_extra 19 = .ok (.aload_n 0, 1) := by decide +kernel
theorem dX6_extra_20 : decode cX6_extra 20 = .ok (.getfield 10, 3) := by decide +kernel
theorem dX6_extra_23 : decode cX6_extra 23 = .ok (.getfield 118, 3) := by decide +kernel
theorem dX6_extra_26 : decode cX6_extra 26 = .ok (.bipush 6, 2) := by decide +kernel
theorem dX6_extra_28 : decode cX6_extra 28 = .ok (.if_icmp .lt 6, 3) := by decide +kernel
theorem dX6_extra_31 : decode cX6_extra 31 = .ok (.bipush (-3), 2) := by decide +kernel
theorem dX6_extra_33 : decode cX6_extra 33 = .ok (.ireturn, 1) := by decide +kernel
theorem dX6_extra_34 : decode cX6_extra 34 = .ok (.aload_n 0, 1) := by decide +kernel
theorem dX6_extra_35 : decode cX6_extra 35 = .ok (.aload_n 0, 1) := by decide +kernel
theorem dX6_extra_36 : decode cX6_extra 36 = .ok (.getfield 10, 3) := by decide +kernel
theorem dX6_extra_39 : decode cX6_extra 39 = .ok (.getfield 118, 3) := by decide +kernel
theorem dX6_extra_42 : decode cX6_extra 42 = .ok (.iload_n 1, 1) := by decide +kernel
theorem dX6_extra_43 : decode cX6_extra 43 = .ok (.iload_n 2, 1) := by decide +kernel
theorem dX6_extra_44 : decode cX6_extra 44 = .ok (.invokevirtual 179, 3) := by decide +kernel
theorem dX6_extra_47 : decode cX6_extra 47 = .ok (.ireturn, 1) := by decide +kernel
theorem dX6_swap_0 : decode cX6_swap 0 = .ok (.iload_n 1, 1) := by decide +kernel
theorem dX6_swap_1 : decode cX6_swap 1 = .ok (.bipush 60, 2) := by decide +kernel
theorem dX6_swap_3 : decode cX6_swap 3 = .ok (.invokestatic 51, 3) := by decide +kernel
theorem dX6_swap_6 : decode cX6_swap 6 = .ok (.ifCond .eq 11, 3) := by decide +kernel
theorem dX6_swap_9 : decode cX6_swap 9 = .ok (.iload_n 2, 1) := by decide +kernel
theorem dX6_swap_10 : decode cX6_swap 10 = .ok (.iconst 1, 1) := by decide +kernel
theorem dX6_swap_11 : decode cX6_swap 11 = .ok (.invokestatic 51, 3) := by decide +kernel
theorem dX6_swap_14 : decode cX6_swap 14 = .ok (.ifCond .ne 5, 3) := by decide +kernel
theorem dX6_swap_17 : decode cX6_swap 17 = .ok (.iconst (-1), 1) := by decide +kernel
theorem dX6_swap_18 : decode cX6_swap 18 = .ok (.ireturn, 1) := by decide +kernel
theorem dX6_swap_19 : decode cX6_swap 19 = .ok (.aload_n 0, 1) := by decide +kernel
theorem dX6_swap_20 : decode cX6_swap 20 = .ok (.iload_n 1, 1) := by decide +kernel
theorem dX6_swap_21 : decode cX6_swap 21 = .ok (.invokevirtual 182, 3) := by decide +kernel
theorem dX6_swap_24 : decode cX6_swap 24 = .ok (.istore_n 3, 1) := by decide +kernel
theorem dX6_swap_25 : decode cX6_swap 25 = .ok (.bipush (-4), 2) := by decide +kernel
theorem dX6_swap_27 : decode cX6_swap 27 = .ok (.istore 4, 2) := by decide +kernel
theorem dX6_swap_29 : decode cX6_swap 29 = .ok (.iconst 0, 1) := by decide +kernel
theorem dX6_swap_30 : decode cX6_swap 30 = .ok (.istore 5, 2) := by decide +kernel
theorem dX6_swap_32 : decode cX6_swap 32 = .ok (.iload 5, 2) := by decide +kernel
theorem dX6_swap_34 : decode cX6_swap 34 = .ok (.aload_n 0, 1) := by decide +kernel
theorem dX6_swap_35 : decode cX6_swap 35 = .ok (.getfield 10, 3) := by decide +kernel
theorem dX6_swap_38 : decode cX6_swap 38 = .ok (.getfield 118, 3) := by decide +kernel
theorem dX6_swap_41 : decode cX6_swap 41 = .ok (.if_icmp .ge 63, 3) := by decide +kernel
theorem dX6_swap_44 : decode cX6_swap 44 = .ok (.iload 5, 2) := by decide +kernel
theorem dX6_swap_46 : decode cX6_swap 46 = .ok (.iconst 1, 1) := by decide +kernel
theorem dX6_swap_47 : decode cX6_swap 47 = .ok (.iadd, 1) := by decide +kernel
theorem dX6_swap_48 : decode cX6_swap 48 = .ok (.istore 6, 2) := by decide +kernel
theorem dX6_swap_50 : decode cX6_swap 50 = .ok (.iload 6, 2) := by decide +kernel
theorem dX6_swap_52 : decode cX6_swap 52 = .ok (.aload_n 0, 1) := by decide +kernel
theorem dX6_swap_53 : decode cX6_swap 53 = .ok (.getfield 10, 3) := by decide +kernel
theorem dX6_swap_56 : decode cX6_swap 56 = .ok (.getfield 118, 3) := by decide +kernel
theorem dX6_swap_59 : decode cX6_swap 59 = .ok (.if_icmp .ge 39, 3) := by decide +kernel
theorem dX6_swap_62 : decode cX6_swap 62 = .ok (.aload_n 0, 1) := by decide +kernel
theorem dX6_swap_63 : decode cX6_swap 63 = .ok (.iload 5, 2) := by decide +kernel
theorem dX6_swap_65 : decode cX6_swap 65 = .ok (.iload 6, 2) := by decide +kernel
theorem dX6_swap_67 : decode cX6_swap 67 = .ok (.iload_n 1, 1) := by decide +kernel
theorem dX6_swap_68 : decode cX6_swap 68 = .ok (.invokevirtual 185, 3) := by decide +kernel
theorem dX6_swap_71 : decode cX6_swap 71 = .ok (.istore 7, 2) := by decide +kernel
theorem dX6_swap_73 : decode cX6_swap 73 = .ok (.iload 7, 2) := by decide +kernel
theorem dX6_swap_75 : decode cX6_swap 75 = .ok (.iload_n 3, 1) := by decide +kernel
theorem dX6_swap_76 : decode cX6_swap 76 = .ok (.if_icmp .le 16, 3) := by decide +kernel
theorem dX6_swap_79 : decode cX6_swap 79 = .ok (.iload 7, 2) := by decide +kernel
theorem dX6_swap_81 : decode cX6_swap 81 = .ok (.istore_n 3, 1) := by decide +kernel
theorem dX6_swap_82 : decode cX6_swap 82 = .ok (.bipush 10, 2) := by decide +kernel
theorem dX6_swap_84 : decode cX6_swap 84 = .ok (.iload 5, 2) := by decide +kernel
theorem dX6_swap_86 : decode cX6_swap 86 = .ok (.imul, 1) := by decide +kernel
theorem dX6_swap_87 : decode cX6_swap 87 = .ok (.iload 6, 2) := by decide +kernel
theorem dX6_swap_89 : decode cX6_swap 89 = .ok (.iadd, 1) := by decide +kernel
theorem dX6_swap_90 : decode cX6_swap 90 = .ok (.istore 4, 2) := by decide +kernel
theorem dX6_swap_92 : decode cX6_swap 92 = .ok (.iinc 6 1, 3) := by decide +kernel
theorem dX6_swap_95 : decode cX6_swap 95 = .ok (.goto (-45), 3) := by decide +kernel
theorem dX6_swap_98 : decode cX6_swap 98 = .ok (.iinc 5 1, 3) := by decide +kernel
theorem dX6_swap_101 : decode cX6_swap 101 = .ok (.goto (-69), 3) := by decide +kernel
theorem dX6_swap_104 : decode cX6_swap 104 = .ok (.iload 4, 2) := by decide +kernel
theorem dX6_swap_106 : decode cX6_swap 106 = .ok (.bipush (-4), 2) := by decide +kernel
theorem dX6_swap_108 : decode cX6_swap 108 = .ok (.if_icmp .eq 7, 3) := by decide +kernel
theorem dX6_swap_111 : decode cX6_swap 111 = .ok (.iload_n 2, 1) := by decide +kernel
theorem dX6_swap_112 : decode cX6_swap 112 = .ok (.ifCond .ne 8, 3) := by decide +kernel
theorem dX6_swap_115 : decode cX6_swap 115 = .ok (.iload 4, 2) := by decide +kernel
theorem dX6_swap_117 : decode cX6_swap 117 = .ok (.goto 12, 3) := by decide +kernel
theorem dX6_swap_120 : decode cX6_swap 120 = .ok (.iload_n 3, 1) := by decide +kernel
theorem dX6_swap_121 : decode cX6_swap 121 = .ok (.aload_n 0, 1) := by decide +kernel
theorem dX6_swap_122 : decode cX6_swap 122 = .ok (.getfield 10, 3) := by decide +kernel
theorem dX6_swap_125 : decode cX6_swap 125 = .ok (.getfield 108, 3) := by decide +kernel
theorem dX6_swap_128 : decode cX6_swap 128 = .ok (.isub, 1) := by decide +kernel
theorem dX6_swap_129 : decode cX6_swap 129 = .ok (.ireturn, 1) := by decide +kernel
theorem dX6_shun_0 : decode cX6_shun 0 = .ok (.iload_n 1, 1) := by decide +kernel
theorem dX6_shun_1 : decode cX6_shun 1 = .ok (.bipush 60, 2) := by decide +kernel
theorem dX6_shun_3 : decode cX6_shun 3 = .ok (.invokestatic 51, 3) := by decide +kernel
theorem dX6_shun_6 : decode cX6_shun 6 = .ok (.ifCond .eq 11, 3) := by decide +kernel
theorem dX6_shun_9 : decode cX6_shun 9 = .ok (.iload_n 2, 1) := by decide +kernel
theorem dX6_shun_10 : decode cX6_shun 10 = .ok (.iconst 1, 1) := by decide +kernel
theorem dX6_shun_11 : decode cX6_shun 11 = .ok (.invokestatic 51, 3) := by decide +kernel
theorem dX6_shun_14 : decode cX6_shun 14 = .ok (.ifCond .ne 5, 3) := by decide +kernel
theorem dX6_shun_17 : decode cX6_shun 17 = .ok (.iconst (-1), 1) := by decide +kernel
theorem dX6_shun_18 : decode cX6_shun 18 = .ok (.ireturn, 1) := by decide +kernel
theorem dX6_shun_19 : decode cX6_shun 19 = .ok (.aload_n 0, 1) := by decide +kernel
theorem dX6_shun_20 : decode cX6_shun 20 = .ok (.iload_n 1, 1) := by decide +kernel
theorem dX6_shun_21 : decode cX6_shun 21 = .ok (.invokevirtual 182, 3) := by decide +kernel
theorem dX6_shun_24 : decode cX6_shun 24 = .ok (.istore_n 3, 1) := by decide +kernel
theorem dX6_shun_25 : decode cX6_shun 25 = .ok (.bipush (-4), 2) := by decide +kernel
theorem dX6_shun_27 : decode cX6_shun 27 = .ok (.istore 4, 2) := by decide +kernel
theorem dX6_shun_29 : decode cX6_shun 29 = .ok (.iconst 0, 1) := by decide +kernel
theorem dX6_shun_30 : decode cX6_shun 30 = .ok (.istore 5, 2) := by decide +kernel
theorem dX6_shun_32 : decode cX6_shun 32 = .ok (.iload 5, 2) := by decide +kernel
theorem dX6_shun_34 : decode cX6_shun 34 = .ok (.aload_n 0, 1) := by decide +kernel
theorem dX6_shun_35 : decode cX6_shun 35 = .ok (.getfield 10, 3) := by decide +kernel
theorem dX6_shun_38 : decode cX6_shun 38 = .ok (.getfield 118, 3) := by decide +kernel
theorem dX6_shun_41 : decode cX6_shun 41 = .ok (.if_icmp .ge 60, 3) := by decide +kernel
theorem dX6_shun_44 : decode cX6_shun 44 = .ok (.aload_n 0, 1) := by decide +kernel
theorem dX6_shun_45 : decode cX6_shun 45 = .ok (.getfield 23, 3) := by decide +kernel
theorem dX6_shun_48 : decode cX6_shun 48 = .ok (.aload_n 0, 1) := by decide +kernel
theorem dX6_shun_49 : decode cX6_shun 49 = .ok (.getfield 10, 3) := by decide +kernel
theorem dX6_shun_52 : decode cX6_shun 52 = .ok (.invokevirtual 85, 3) := by decide +kernel
theorem dX6_shun_55 : decode cX6_shun 55 = .ok (.aload_n 0, 1) := by decide +kernel
theorem dX6_shun_56 : decode cX6_shun 56 = .ok (.getfield 23, 3) := by decide +kernel
theorem dX6_shun_59 : decode cX6_shun 59 = .ok (.iload 5, 2) := by decide +kernel
theorem dX6_shun_61 : decode cX6_shun 61 = .ok (.invokevirtual 188, 3) := by decide +kernel
theorem dX6_shun_64 : decode cX6_shun 64 = .ok (.aload_n 0, 1) := by decide +kernel
theorem dX6_shun_65 : decode cX6_shun 65 = .ok (.getfield 23, 3) := by decide +kernel
theorem dX6_shun_68 : decode cX6_shun 68 = .ok (.iload_n 1, 1) := by decide +kernel
theorem dX6_shun_69 : decode cX6_shun 69 = .ok (.invokevirtual 170, 3) := by decide +kernel
theorem dX6_shun_72 : decode cX6_shun 72 = .ok (.aload_n 0, 1) := by decide +kernel
theorem dX6_shun_73 : decode cX6_shun 73 = .ok (.getfield 23, 3) := by decide +kernel
theorem dX6_shun_76 : decode cX6_shun 76 = .ok (.getfield 108, 3) := by decide +kernel
theorem dX6_shun_79 : decode cX6_shun 79 = .ok (.iload_n 3, 1) := by decide +kernel
theorem dX6_shun_80 : decode cX6_shun 80 = .ok (.if_icmp .le 15, 3) := by decide +kernel
theorem dX6_shun_83 : decode cX6_shun 83 = .ok (.aload_n 0, 1) := by decide +kernel
theorem dX6_shun_84 : decode cX6_shun 84 = .ok (.getfield 23, 3) := by decide +kernel
theorem dX6_shun_87 : decode cX6_shun 87 = .ok (.getfield 108, 3) := by decide +kernel
theorem dX6_shun_90 : decode cX6_shun 90 = .ok (.istore_n 3, 1) := by decide +kernel
theorem dX6_shun_91 : decode cX6_shun 91 = .ok (.iload 5, 2) := by decide +kernel
theorem dX6_shun_93 : decode cX6_shun 93 = .ok (.istore 4, 2) := by decide +kernel
theorem dX6_shun_95 : decode cX6_shun 95 = .ok (.iinc 5 1, 3) := by decide +kernel
theorem dX6_shun_98 : decode cX6_shun 98 = .ok (.goto (-66), 3) := by decide +kernel
theorem dX6_shun_101 : decode cX6_shun 101 = .ok (.iload 4, 2) := by decide +kernel
theorem dX6_shun_103 : decode cX6_shun 103 = .ok (.bipush (-4), 2) := by decide +kernel
theorem dX6_shun_105 : decode cX6_shun 105 = .ok (.if_icmp .eq 7, 3) := by decide +kernel
theorem dX6_shun_108 : decode cX6_shun 108 = .ok (.iload_n 2, 1) := by decide +kernel
theorem dX6_shun_109 : decode cX6_shun 109 = .ok (.ifCond .ne 8, 3) := by decide +kernel
theorem dX6_shun_112 : decode cX6_shun 112 = .ok (.iload 4, 2) := by decide +kernel
theorem dX6_shun_114 : decode cX6_shun 114 = .ok (.goto 12, 3) := by decide +kernel
theorem dX6_shun_117 : decode cX6_shun 117 = .ok (.iload_n 3, 1) := by decide +kernel
theorem dX6_shun_118 : decode cX6_shun 118 = .ok (.aload_n 0, 1) := by decide +kernel
theorem dX6_shun_119 : decode cX6_shun 119 = .ok (.getfield 10, 3) := by decide +kernel
theorem dX6_shun_122 : decode cX6_shun 122 = .ok (.getfield 108, 3) := by decide +kernel
theorem dX6_shun_125 : decode cX6_shun 125 = .ok (.isub, 1) := by decide +kernel
theorem dX6_shun_126 : decode cX6_shun 126 = .ok (.ireturn, 1) := by decide +kernel
theorem dX6_need_0 : decode cX6_need 0 = .ok (.aload_n 0, 1) := by decide +kernel
theorem dX6_need_1 : decode cX6_need 1 = .ok (.iload_n 1, 1) := by decide +kernel
theorem dX6_need_2 : decode cX6_need 2 = .ok (.invokevirtual 121, 3) := by decide +kernel
theorem dX6_need_5 : decode cX6_need 5 = .ok (.ifCond .eq 12, 3) := by decide +kernel
theorem dX6_need_8 : decode cX6_need 8 = .ok (.iload_n 2, 1) := by decide +kernel
theorem dX6_need_9 : decode cX6_need 9 = .ok (.bipush 60, 2) := by decide +kernel
theorem dX6_need_11 : decode cX6_need 11 = .ok (.invokestatic 51, 3) := by decide +kernel
theorem dX6_need_14 : decode cX6_need 14 = .ok (.ifCond .ne 5, 3) := by decide +kernel
theorem dX6_need_17 : decode cX6_need 17 = .ok (.iconst (-1), 1) := by decide +kernel
theorem dX6_need_18 : decode cX6_need 18 = .ok (.ireturn, 1) := by decide +kernel
theorem dX6_need_19 : decode cX6_need 19 = .ok (.aload_n 0, 1) := by decide +kernel
theorem dX6_need_20 : decode cX6_need 20 = .ok (.getfield 23, 3) := by decide +kernel
theorem dX6_need_23 : decode cX6_need 23 = .ok (.aload_n 0, 1) := by decide +kernel
theorem dX6_need_24 : decode cX6_need 24 = .ok (.getfield 10, 3) := by decide +kernel
theorem dX6_need_27 : decode cX6_need 27 = .ok (.invokevirtual 85, 3) := by decide +kernel
theorem dX6_need_30 : decode cX6_need 30 = .ok (.aload_n 0, 1) := by decide +kernel
theorem dX6_need_31 : decode cX6_need 31 = .ok (.getfield 23, 3) := by decide +kernel
theorem dX6_need_34 : decode cX6_need 34 = .ok (.iload_n 1, 1) := by decide +kernel
theorem dX6_need_35 : decode cX6_need 35 = .ok (.iconst 2, 1) := by decide +kernel
theorem dX6_need_36 : decode cX6_need 36 = .ok (.bipush 20, 2) := by decide +kernel
theorem dX6_need_38 : decode cX6_need 38 = .ok (.invokevirtual 162, 3) := by decide +kernel
theorem dX6_need_41 : decode cX6_need 41 = .ok (.aload_n 0, 1) := by decide +kernel
theorem dX6_need_42 : decode cX6_need 42 = .ok (.iconst 1, 1) := by decide +kernel
theorem dX6_need_43 : decode cX6_need 43 = .ok (.iload_n 1, 1) := by decide +kernel
theorem dX6_need_44 : decode cX6_need 44 = .ok (.ishl, 1) := by decide +kernel
theorem dX6_need_45 : decode cX6_need 45 = .ok (.iload_n 2, 1) := by decide +kernel
theorem dX6_need_46 : decode cX6_need 46 = .ok (.invokevirtual 173, 3) := by decide +kernel
theorem dX6_need_49 : decode cX6_need 49 = .ok (.ireturn, 1) := by decide +kernel
theorem dX6_kind_0 : decode cX6_kind 0 = .ok (.aload_n 0, 1) := by decide +kernel
theorem dX6_kind_1 : decode cX6_kind 1 = .ok (.iload_n 1, 1) := by decide +kernel
theorem dX6_kind_2 : decode cX6_kind 2 = .ok (.invokevirtual 121, 3) := by decide +kernel
theorem dX6_kind_5 : decode cX6_kind 5 = .ok (.ifCond .eq 20, 3) := by decide +kernel
theorem dX6_kind_8 : decode cX6_kind 8 = .ok (.iload_n 2, 1) := by decide +kernel
theorem dX6_kind_9 : decode cX6_kind 9 = .ok (.bipush 60, 2) := by decide +kernel
theorem dX6_kind_11 : decode cX6_kind 11 = .ok (.invokestatic 51, 3) := by decide +kernel
theorem dX6_kind_14 : decode cX6_kind 14 = .ok (.ifCond .eq 11, 3) := by decide +kernel
theorem dX6_kind_17 : decode cX6_kind 17 = .ok (.iload_n 3, 1) := by decide +kernel
theorem dX6_kind_18 : decode cX6_kind 18 = .ok (.iconst 1, 1) := by decide +kernel
theorem dX6_kind_19 : decode cX6_kind 19 = .ok (.invokestatic 51, 3) := by decide +kernel
theorem dX6_kind_22 : decode cX6_kind 22 = .ok (.ifCond .ne 5, 3) := by decide +kernel
theorem dX6_kind_25 : decode cX6_kind 25 = .ok (.iconst (-1), 1) := by decide +kernel
theorem dX6_kind_26 : decode cX6_kind 26 = .ok (.ireturn, 1) := by decide +kernel
theorem dX6_kind_27 : decode cX6_kind 27 = .ok (.aload_n 0, 1) := by decide +kernel
theorem dX6_kind_28 : decode cX6_kind 28 = .ok (.iload_n 1, 1) := by decide +kernel
theorem dX6_kind_29 : decode cX6_kind 29 = .ok (.iconst 0, 1) := by decide +kernel
theorem dX6_kind_30 : decode cX6_kind 30 = .ok (.iload_n 2, 1) := by decide +kernel
theorem dX6_kind_31 : decode cX6_kind 31 = .ok (.iload_n 3, 1) := by decide +kernel
theorem dX6_kind_32 : decode cX6_kind 32 = .ok (.invokevirtual 191, 3) := by decide +kernel
theorem dX6_kind_35 : decode cX6_kind 35 = .ok (.ireturn, 1) := by decide +kernel
theorem dX6_drop_0 : decode cX6_drop 0 = .ok (.aload_n 0, 1) := by decide +kernel
theorem dX6_drop_1 : decode cX6_drop 1 = .ok (.iload_n 1, 1) := by decide +kernel
theorem dX6_drop_2 : decode cX6_drop 2 = .ok (.invokevirtual 121, 3) := by decide +kernel
theorem dX6_drop_5 : decode cX6_drop 5 = .ok (.ifCond .eq 20, 3) := by decide +kernel
theorem dX6_drop_8 : decode cX6_drop 8 = .ok (.iload_n 2, 1) := by decide +kernel
theorem dX6_drop_9 : decode cX6_drop 9 = .ok (.bipush 60, 2) := by decide +kernel
theorem dX6_drop_11 : decode cX6_drop 11 = .ok (.invokestatic 51, 3) := by decide +kernel
theorem dX6_drop_14 : decode cX6_drop 14 = .ok (.ifCond .eq 11, 3) := by decide +kernel
theorem dX6_drop_17 : decode cX6_drop 17 = .ok (.iload_n 3, 1) := by decide +kernel
theorem dX6_drop_18 : decode cX6_drop 18 = .ok (.iconst 1, 1) := by decide +kernel
theorem dX6_drop_19 : decode cX6_drop 19 = .ok (.invokestatic 51, 3) := by decide +kernel
theorem dX6_drop_22 : decode cX6_drop 22 = .ok (.ifCond .ne 5, 3) := by decide +kernel
theorem dX6_drop_25 : decode cX6_drop 25 = .ok (.iconst (-1), 1) := by decide +kernel
theorem dX6_drop_26 : decode cX6_drop 26 = .ok (.ireturn, 1) := by decide +kernel
theorem dX6_drop_27 : decode cX6_drop 27 = .ok (.aload_n 0, 1) := by decide +kernel
theorem dX6_drop_28 : decode cX6_drop 28 = .ok (.getfield 10, 3) := by decide +kernel
theorem dX6_drop_31 : decode cX6_drop 31 = .ok (.iload_n 1, 1) := by decide +kernel
theorem dX6_drop_32 : decode cX6_drop 32 = .ok (.invokevirtual 129, 3) := by decide +kernel
theorem dX6_drop_35 : decode cX6_drop 35 = .ok (.ifCond .eq 6, 3) := by decide +kernel
theorem dX6_drop_38 : decode cX6_drop 38 = .ok (.bipush (-2), 2) := by decide +kernel
theorem dX6_drop_40 : decode cX6_drop 40 = .ok (.ireturn, 1) := by decide +kernel
theorem dX6_drop_41 : decode cX6_drop 41 = .ok (.aload_n 0, 1) := by decide +kernel
theorem dX6_drop_42 : decode cX6_drop 42 = .ok (.iload_n 1, 1) := by decide +kernel
theorem dX6_drop_43 : decode cX6_drop 43 = .ok (.iconst 1, 1) := by decide +kernel
theorem dX6_drop_44 : decode cX6_drop 44 = .ok (.iload_n 2, 1) := by decide +kernel
theorem dX6_drop_45 : decode cX6_drop 45 = .ok (.iload_n 3, 1) := by decide +kernel
theorem dX6_drop_46 : decode cX6_drop 46 = .ok (.invokevirtual 191, 3) := by decide +kernel
theorem dX6_drop_49 : decode cX6_drop 49 = .ok (.ireturn, 1) := by decide +kernel
theorem dX6_luck_0 : decode cX6_luck 0 = .ok (.iload_n 1, 1) := by decide +kernel
theorem dX6_luck_1 : decode cX6_luck 1 = .ok (.bipush 10, 2) := by decide +kernel
theorem dX6_luck_3 : decode cX6_luck 3 = .ok (.invokestatic 51, 3) := by decide +kernel
theorem dX6_luck_6 : decode cX6_luck 6 = .ok (.ifCond .eq 29, 3) := by decide +kernel
theorem dX6_luck_9 : decode cX6_luck 9 = .ok (.aload_n 0, 1) := by decide +kernel
theorem dX6_luck_10 : decode cX6_luck 10 = .ok (.iload_n 2, 1) := by decide +kernel
theorem dX6_luck_11 : decode cX6_luck 11 = .ok (.invokevirtual 121, 3) := by decide +kernel
theorem dX6_luck_14 : decode cX6_luck 14 = .ok (.ifCond .eq 21, 3) := by decide +kernel
theorem dX6_luck_17 : decode cX6_luck 17 = .ok (.iload_n 3, 1) := by decide +kernel
theorem dX6_luck_18 : decode cX6_luck 18 = .ok (.bipush 8, 2) := by decide +kernel
theorem dX6_luck_20 : decode cX6_luck 20 = .ok (.invokestatic 51, 3) := by decide +kernel
theorem dX6_luck_23 : decode cX6_luck 23 = .ok (.ifCond .eq 12, 3) := by decide +kernel
theorem dX6_luck_26 : decode cX6_luck 26 = .ok (.iload 4, 2) := by decide +kernel
theorem dX6_luck_28 : decode cX6_luck 28 = .ok (.iconst 1, 1) := by decide +kernel
theorem dX6_luck_29 : decode cX6_luck 29 = .ok (.invokestatic 51, 3) := by decide +kernel
theorem dX6_luck_32 : decode cX6_luck 32 = .ok (.ifCond .ne 7, 3) := by decide +kernel
theorem dX6_luck_35 : decode cX6_luck 35 = .ok (.ldc2_w 195, 3) := by decide +kernel
theorem dX6_luck_38 : decode cX6_luck 38 = .ok (.lreturn, 1) := by decide +kernel
theorem dX6_luck_39 : decode cX6_luck 39 = .ok (.aload_n 0, 1) := by decide +kernel
theorem dX6_luck_40 : decode cX6_luck 40 = .ok (.iload_n 1, 1) := by decide +kernel
theorem dX6_luck_41 : decode cX6_luck 41 = .ok (.iload_n 2, 1) := by decide +kernel
theorem dX6_luck_42 : decode cX6_luck 42 = .ok (.iload_n 3, 1) := by decide +kernel
theorem dX6_luck_43 : decode cX6_luck 43 = .ok (.iload 4, 2) := by decide +kernel
theorem dX6_luck_45 : decode cX6_luck 45 = .ok (.invokevirtual 197, 3) := by decide +kernel
theorem dX6_luck_48 : decode cX6_luck 48 = .ok (.lreturn, 1) := by decide +kernel
theorem dX6_mean_0 : decode cX6_mean 0 = .ok (.iload_n 1, 1) := by decide +kernel
theorem dX6_mean_1 : decode cX6_mean 1 = .ok (.bipush 10, 2) := by decide +kernel
theorem dX6_mean_3 : decode cX6_mean 3 = .ok (.invokestatic 51, 3) := by decide +kernel
theorem dX6_mean_6 : decode cX6_mean 6 = .ok (.ifCond .eq 20, 3) := by decide +kernel
theorem dX6_mean_9 : decode cX6_mean 9 = .ok (.iload_n 2, 1) := by decide +kernel
theorem dX6_mean_10 : decode cX6_mean 10 = .ok (.bipush 8, 2) := by decide +kernel
theorem dX6_mean_12 : decode cX6_mean 12 = .ok (.invokestatic 51, 3) := by decide +kernel
theorem dX6_mean_15 : decode cX6_mean 15 = .ok (.ifCond .eq 11, 3) := by decide +kernel
theorem dX6_mean_18 : decode cX6_mean 18 = .ok (.iload_n 3, 1) := by decide +kernel
theorem dX6_mean_19 : decode cX6_mean 19 = .ok (.iconst 1, 1) := by decide +kernel
theorem dX6_mean_20 : decode cX6_mean 20 = .ok (.invokestatic 51, 3) := by decide +kernel
theorem dX6_mean_23 : decode cX6_mean 23 = .ok (.ifCond .ne 7, 3) := by decide +kernel
theorem dX6_mean_26 : decode cX6_mean 26 = .ok (.ldc2_w 195, 3) := by decide +kernel
theorem dX6_mean_29 : decode cX6_mean 29 = .ok (.lreturn, 1) := by decide +kernel
theorem dX6_mean_30 : decode cX6_mean 30 = .ok (.aload_n 0, 1) := by decide +kernel
theorem dX6_mean_31 : decode cX6_mean 31 = .ok (.iload_n 1, 1) := by decide +kernel
theorem dX6_mean_32 : decode cX6_mean 32 = .ok (.iconst (-1), 1) := by decide +kernel
theorem dX6_mean_33 : decode cX6_mean 33 = .ok (.iload_n 2, 1) := by decide +kernel
theorem dX6_mean_34 : decode cX6_mean 34 = .ok (.iload_n 3, 1) := by decide +kernel
theorem dX6_mean_35 : decode cX6_mean 35 = .ok (.invokevirtual 197, 3) := by decide +kernel
theorem dX6_mean_38 : decode cX6_mean 38 = .ok (.lreturn, 1) := by decide +kernel
theorem dX6_see_0 : decode cX6_see 0 = .ok (.iload_n 1, 1) := by decide +kernel
theorem dX6_see_1 : decode cX6_see 1 = .ok (.bipush 20, 2) := by decide +kernel
theorem dX6_see_3 : decode cX6_see 3 = .ok (.invokestatic 51, 3) := by decide +kernel
theorem dX6_see_6 : decode cX6_see 6 = .ok (.ifCond .eq 18, 3) := by decide +kernel
theorem dX6_see_9 : decode cX6_see 9 = .ok (.aload_n 0, 1) := by decide +kernel
theorem dX6_see_10 : decode cX6_see 10 = .ok (.iload_n 2, 1) := by decide +kernel
theorem dX6_see_11 : decode cX6_see 11 = .ok (.invokevirtual 121, 3) := by decide +kernel
theorem dX6_see_14 : decode cX6_see 14 = .ok (.ifCond .eq 10, 3) := by decide +kernel
theorem dX6_see_17 : decode cX6_see 17 = .ok (.iload_n 3, 1) := by decide +kernel
theorem dX6_see_18 : decode cX6_see 18 = .ok (.invokestatic 143, 3) := by decide +kernel
theorem dX6_see_21 : decode cX6_see 21 = .ok (.ifCond .ne 5, 3) := by decide +kernel
theorem dX6_see_24 : decode cX6_see 24 = .ok (.iconst (-1), 1) := by decide +kernel
theorem dX6_see_25 : decode cX6_see 25 = .ok (.ireturn, 1) := by decide +kernel
theorem dX6_see_26 : decode cX6_see 26 = .ok (.aload_n 0, 1) := by decide +kernel
theorem dX6_see_27 : decode cX6_see 27 = .ok (.getfield 19, 3) := by decide +kernel
theorem dX6_see_30 : decode cX6_see 30 = .ok (.getfield 89, 3) := by decide +kernel
theorem dX6_see_33 : decode cX6_see 33 = .ok (.bipush 6, 2) := by decide +kernel
theorem dX6_see_35 : decode cX6_see 35 = .ok (.if_icmp .lt 6, 3) := by decide +kernel
theorem dX6_see_38 : decode cX6_see 38 = .ok (.bipush (-3), 2) := by decide +kernel
theorem dX6_see_40 : decode cX6_see 40 = .ok (.ireturn, 1) := by decide +kernel
theorem dX6_see_41 : decode cX6_see 41 = .ok (.aload_n 0, 1) := by decide +kernel
theorem dX6_see_42 : decode cX6_see 42 = .ok (.getfield 19, 3) := by decide +kernel
theorem dX6_see_45 : decode cX6_see 45 = .ok (.iload_n 1, 1) := by decide +kernel
theorem dX6_see_46 : decode cX6_see 46 = .ok (.iload_n 2, 1) := by decide +kernel
theorem dX6_see_47 : decode cX6_see 47 = .ok (.iload_n 3, 1) := by decide +kernel
theorem dX6_see_48 : decode cX6_see 48 = .ok (.invokevirtual 201, 3) := by decide +kernel
theorem dX6_see_51 : decode cX6_see 51 = .ok (.aload_n 0, 1) := by decide +kernel
theorem dX6_see_52 : decode cX6_see 52 = .ok (.getfield 19, 3) := by decide +kernel
theorem dX6_see_55 : decode cX6_see 55 = .ok (.getfield 89, 3) := by decide +kernel
theorem dX6_see_58 : decode cX6_see 58 = .ok (.ireturn, 1) := by decide +kernel
theorem dX6_forget_0 : decode cX6_forget 0 = .ok (.iload_n 1, 1) := by decide +kernel
theorem dX6_forget_1 : decode cX6_forget 1 = .ok (.aload_n 0, 1) := by decide +kernel
theorem dX6_forget_2 : decode cX6_forget 2 = .ok (.getfield 19, 3) := by decide +kernel
theorem dX6_forget_5 : decode cX6_forget 5 = .ok (.getfield 89, 3) := by decide +kernel
theorem dX6_forget_8 : decode cX6_forget 8 = .ok (.invokestatic 51, 3) := by decide +kernel
theorem dX6_forget_11 : decode cX6_forget 11 = .ok (.ifCond .ne 5, 3) := by decide +kernel
theorem dX6_forget_14 : decode cX6_forget 14 = .ok (.iconst (-1), 1) := by decide +kernel
theorem dX6_forget_15 : decode cX6_forget 15 = .ok (.ireturn, 1) := by decide +kernel
theorem dX6_forget_16 : decode cX6_forget 16 = .ok (.aload_n 0, 1) := by decide +kernel
theorem dX6_forget_17 : decode cX6_forget 17 = .ok (.getfield 19, 3) := by decide +kernel
theorem dX6_forget_20 : decode cX6_forget 20 = .ok (.getfield 89, 3) := by decide +kernel
theorem dX6_forget_23 : decode cX6_forget 23 = .ok (.istore_n 2, 1) := by decide +kernel
theorem dX6_forget_24 : decode cX6_forget 24 = .ok (.aload_n 0, 1) := by decide +kernel
theorem dX6_forget_25 : decode cX6_forget 25 = .ok (.getfield 19, 3) := by decide +kernel
theorem dX6_forget_28 : decode cX6_forget 28 = .ok (.iload_n 1, 1) := by decide +kernel
theorem dX6_forget_29 : decode cX6_forget 29 = .ok (.putfield 89, 3) := by decide +kernel
theorem dX6_forget_32 : decode cX6_forget 32 = .ok (.iload_n 2, 1) := by decide +kernel
theorem dX6_forget_33 : decode cX6_forget 33 = .ok (.ireturn, 1) := by decide +kernel
theorem dX6_kinds_0 : decode cX6_kinds 0 = .ok (.aload_n 0, 1) := by decide +kernel
theorem dX6_kinds_1 : decode cX6_kinds 1 = .ok (.iload_n 1, 1) := by decide +kernel
theorem dX6_kinds_2 : decode cX6_kinds 2 = .ok (.invokevirtual 121, 3) := by decide +kernel
theorem dX6_kinds_5 : decode cX6_kinds 5 = .ok (.ifCond .eq 12, 3) := by decide +kernel
theorem dX6_kinds_8 : decode cX6_kinds 8 = .ok (.aload_n 0, 1) := by decide +kernel
theorem dX6_kinds_9 : decode cX6_kinds 9 = .ok (.iload_n 1, 1) := by decide +kernel
theorem dX6_kinds_10 : decode cX6_kinds 10 = .ok (.iconst 0, 1) := by decide +kernel
theorem dX6_kinds_11 : decode cX6_kinds 11 = .ok (.invokevirtual 204, 3) := by decide +kernel
theorem dX6_kinds_14 : decode cX6_kinds 14 = .ok (.goto 4, 3) := by decide +kernel
theorem dX6_kinds_17 : decode cX6_kinds 17 = .ok (.iconst (-1), 1) := by decide +kernel
theorem dX6_kinds_18 : decode cX6_kinds 18 = .ok (.ireturn, 1) := by decide +kernel
theorem dX6_doors_0 : decode cX6_doors 0 = .ok (.aload_n 0, 1) := by decide +kernel
theorem dX6_doors_1 : decode cX6_doors 1 = .ok (.iload_n 1, 1) := by decide +kernel
theorem dX6_doors_2 : decode cX6_doors 2 = .ok (.invokevirtual 121, 3) := by decide +kernel
theorem dX6_doors_5 : decode cX6_doors 5 = .ok (.ifCond .ne 5, 3) := by decide +kernel
theorem dX6_doors_8 : decode cX6_doors 8 = .ok (.iconst (-1), 1) := by decide +kernel
theorem dX6_doors_9 : decode cX6_doors 9 = .ok (.ireturn, 1) := by decide +kernel
theorem dX6_doors_10 : decode cX6_doors 10 = .ok (.aload_n 0, 1) := by decide +kernel
theorem dX6_doors_11 : decode cX6_doors 11 = .ok (.getfield 10, 3) := by decide +kernel
theorem dX6_doors_14 : decode cX6_doors 14 = .ok (.iload_n 1, 1) := by decide +kernel
theorem dX6_doors_15 : decode cX6_doors 15 = .ok (.invokevirtual 129, 3) := by decide +kernel
theorem dX6_doors_18 : decode cX6_doors 18 = .ok (.ifCond .eq 8, 3) := by decide +kernel
theorem dX6_doors_21 : decode cX6_doors 21 = .ok (.bipush (-2), 2) := by decide +kernel
theorem dX6_doors_23 : decode cX6_doors 23 = .ok (.goto 9, 3) := by decide +kernel
theorem dX6_doors_26 : decode cX6_doors 26 = .ok (.aload_n 0, 1) := by decide +kernel
theorem dX6_doors_27 : decode cX6_doors 27 = .ok (.iload_n 1, 1) := by decide +kernel
theorem dX6_doors_28 : decode cX6_doors 28 = .ok (.iconst 1, 1) := by decide +kernel
theorem dX6_doors_29 : decode cX6_doors 29 = .ok (.invokevirtual 204, 3) := by decide +kernel
theorem dX6_doors_32 : decode cX6_doors 32 = .ok (.ireturn, 1) := by decide +kernel
theorem dX6_ask_0 : decode cX6_ask 0 = .ok (.aload_n 0, 1) := by decide +kernel
theorem dX6_ask_1 : decode cX6_ask 1 = .ok (.iload_n 1, 1) := by decide +kernel
theorem dX6_ask_2 : decode cX6_ask 2 = .ok (.invokevirtual 121, 3) := by decide +kernel
theorem dX6_ask_5 : decode cX6_ask 5 = .ok (.ifCond .eq 11, 3) := by decide +kernel
theorem dX6_ask_8 : decode cX6_ask 8 = .ok (.iload_n 2, 1) := by decide +kernel
theorem dX6_ask_9 : decode cX6_ask 9 = .ok (.iconst 1, 1) := by decide +kernel
theorem dX6_ask_10 : decode cX6_ask 10 = .ok (.invokestatic 51, 3) := by decide +kernel
theorem dX6_ask_13 : decode cX6_ask 13 = .ok (.ifCond .ne 5, 3) := by decide +kernel
theorem dX6_ask_16 : decode cX6_ask 16 = .ok (.iconst (-1), 1) := by decide +kernel
theorem dX6_ask_17 : decode cX6_ask 17 = .ok (.ireturn, 1) := by decide +kernel
theorem dX6_ask_18 : decode cX6_ask 18 = .ok (.aload_n 0, 1) := by decide +kernel
theorem dX6_ask_19 : decode cX6_ask 19 = .ok (.iload_n 1, 1) := by decide +kernel
theorem dX6_ask_20 : decode cX6_ask 20 = .ok (.iconst 0, 1) := by decide +kernel
theorem dX6_ask_21 : decode cX6_ask 21 = .ok (.invokevirtual 204, 3) := by decide +kernel
theorem dX6_ask_24 : decode cX6_ask 24 = .ok (.istore_n 3, 1) := by decide +kernel
theorem dX6_ask_25 : decode cX6_ask 25 = .ok (.iconst 0, 1) := by decide +kernel
theorem dX6_ask_26 : decode cX6_ask 26 = .ok (.istore 4, 2) := by decide +kernel
theorem dX6_ask_28 : decode cX6_ask 28 = .ok (.iload 4, 2) := by decide +kernel
theorem dX6_ask_30 : decode cX6_ask 30 = .ok (.iconst 4, 1) := by decide +kernel
theorem dX6_ask_31 : decode cX6_ask 31 = .ok (.if_icmp .ge 37, 3) := by decide +kernel
theorem dX6_ask_34 : decode cX6_ask 34 = .ok (.aload_n 0, 1) := by decide +kernel
theorem dX6_ask_35 : decode cX6_ask 35 = .ok (.getfield 26, 3) := by decide +kernel
theorem dX6_ask_38 : decode cX6_ask 38 = .ok (.iload 4, 2) := by decide +kernel
theorem dX6_ask_40 : decode cX6_ask 40 = .ok (.aaload, 1) := by decide +kernel
theorem dX6_ask_41 : decode cX6_ask 41 = .ok (.aload_n 0, 1) := by decide +kernel
theorem dX6_ask_42 : decode cX6_ask 42 = .ok (.getfield 10, 3) := by decide +kernel
theorem dX6_ask_45 : decode cX6_ask 45 = .ok (.invokevirtual 85, 3) := by decide +kernel
theorem dX6_ask_48 : decode cX6_ask 48 = .ok (.aload_n 0, 1) := by decide +kernel
theorem dX6_ask_49 : decode cX6_ask 49 = .ok (.getfield 26, 3) := by decide +kernel
theorem dX6_ask_52 : decode cX6_ask 52 = .ok (.iload 4, 2) := by decide +kernel
theorem dX6_ask_54 : decode cX6_ask 54 = .ok (.aaload, 1) := by decide +kernel
theorem dX6_ask_55 : decode cX6_ask 55 = .ok (.iload_n 1, 1) := by decide +kernel
theorem dX6_ask_56 : decode cX6_ask 56 = .ok (.iconst 0, 1) := by decide +kernel
theorem dX6_ask_57 : decode cX6_ask 57 = .ok (.iload 4, 2) := by decide +kernel
theorem dX6_ask_59 : decode cX6_ask 59 = .ok (.invokevirtual 162, 3) := by decide +kernel
theorem dX6_ask_62 : decode cX6_ask 62 = .ok (.iinc 4 1, 3) := by decide +kernel
theorem dX6_ask_65 : decode cX6_ask 65 = .ok (.goto (-37), 3) := by decide +kernel
theorem dX6_ask_68 : decode cX6_ask 68 = .ok (.iload_n 3, 1) := by decide +kernel
theorem dX6_ask_69 : decode cX6_ask 69 = .ok (.invokestatic 207, 3) := by decide +kernel
theorem dX6_ask_72 : decode cX6_ask 72 = .ok (.istore 4, 2) := by decide +kernel
theorem dX6_ask_74 : decode cX6_ask 74 = .ok (.bipush (-4), 2) := by decide +kernel
theorem dX6_ask_76 : decode cX6_ask 76 = .ok (.istore 5, 2) := by decide +kernel
theorem dX6_ask_78 : decode cX6_ask 78 = .ok (.iconst 0, 1) := by decide +kernel
theorem dX6_ask_79 : decode cX6_ask 79 = .ok (.istore 6, 2) := by decide +kernel
theorem dX6_ask_81 : decode cX6_ask 81 = .ok (.iload 6, 2) := by decide +kernel
theorem dX6_ask_83 : decode cX6_ask 83 = .ok (.bipush 20, 2) := by decide +kernel
theorem dX6_ask_85 : decode cX6_ask 85 = .ok (.if_icmp .gt 58, 3) := by decide +kernel
theorem dX6_ask_88 : decode cX6_ask 88 = .ok (.aload_n 0, 1) := by decide +kernel
theorem dX6_ask_89 : decode cX6_ask 89 = .ok (.iload_n 1, 1) := by decide +kernel
theorem dX6_ask_90 : decode cX6_ask 90 = .ok (.iload_n 3, 1) := by decide +kernel
theorem dX6_ask_91 : decode cX6_ask 91 = .ok (.invokevirtual 212, 3) := by decide +kernel
theorem dX6_ask_94 : decode cX6_ask 94 = .ok (.istore 7, 2) := by decide +kernel
theorem dX6_ask_96 : decode cX6_ask 96 = .ok (.iload 7, 2) := by decide +kernel
theorem dX6_ask_98 : decode cX6_ask 98 = .ok (.iload 4, 2) := by decide +kernel
theorem dX6_ask_100 : decode cX6_ask 100 = .ok (.if_icmp .ge 11, 3) := by decide +kernel
theorem dX6_ask_103 : decode cX6_ask 103 = .ok (.iload 7, 2) := by decide +kernel
theorem dX6_ask_105 : decode cX6_ask 105 = .ok (.istore 4, 2) := by decide +kernel
theorem dX6_ask_107 : decode cX6_ask 107 = .ok (.iload 6, 2) := by decide +kernel
theorem dX6_ask_109 : decode cX6_ask 109 = .ok (.istore 5, 2) := by decide +kernel
theorem dX6_ask_111 : decode cX6_ask 111 = .ok (.iconst 0, 1) := by decide +kernel
theorem dX6_ask_112 : decode cX6_ask 112 = .ok (.istore 8, 2) := by decide +kernel
theorem dX6_ask_114 : decode cX6_ask 114 = .ok (.iload 8, 2) := by decide +kernel
theorem dX6_ask_116 : decode cX6_ask 116 = .ok (.iconst 4, 1) := by decide +kernel
theorem dX6_ask_117 : decode cX6_ask 117 = .ok (.if_icmp .ge 20, 3) := by decide +kernel
theorem dX6_ask_120 : decode cX6_ask 120 = .ok (.aload_n 0, 1) := by decide +kernel
theorem dX6_ask_121 : decode cX6_ask 121 = .ok (.getfield 26, 3) := by decide +kernel
theorem dX6_ask_124 : decode cX6_ask 124 = .ok (.iload 8, 2) := by decide +kernel
theorem dX6_ask_126 : decode cX6_ask 126 = .ok (.aaload, 1) := by decide +kernel
theorem dX6_ask_127 : decode cX6_ask 127 = .ok (.iconst 1, 1) := by decide +kernel
theorem dX6_ask_128 : decode cX6_ask 128 = .ok (.invokevirtual 170, 3) := by decide +kernel
theorem dX6_ask_131 : decode cX6_ask 131 = .ok (.iinc 8 1, 3) := by decide +kernel
theorem dX6_ask_134 : decode cX6_ask 134 = .ok (.goto (-20), 3) := by decide +kernel
theorem dX6_ask_137 : decode cX6_ask 137 = .ok (.iinc 6 1, 3) := by decide +kernel
theorem dX6_ask_140 : decode cX6_ask 140 = .ok (.goto (-59), 3) := by decide +kernel
theorem dX6_ask_143 : decode cX6_ask 143 = .ok (.iload 5, 2) := by decide +kernel
theorem dX6_ask_145 : decode cX6_ask 145 = .ok (.bipush (-4), 2) := by decide +kernel
theorem dX6_ask_147 : decode cX6_ask 147 = .ok (.if_icmp .eq 7, 3) := by decide +kernel
theorem dX6_ask_150 : decode cX6_ask 150 = .ok (.iload_n 2, 1) := by decide +kernel
theorem dX6_ask_151 : decode cX6_ask 151 = .ok (.ifCond .ne 8, 3) := by decide +kernel
theorem dX6_ask_154 : decode cX6_ask 154 = .ok (.iload 5, 2) := by decide +kernel
theorem dX6_ask_156 : decode cX6_ask 156 = .ok (.goto 5, 3) := by decide +kernel
theorem dX6_ask_159 : decode cX6_ask 159 = .ok (.iload 4, 2) := by decide +kernel
theorem dX6_ask_161 : decode cX6_ask 161 = .ok (.ireturn, 1) := by decide +kernel
theorem dX6_drift_0 : decode cX6_drift 0 = .ok (.iload_n 2, 1) := by decide +kernel
theorem dX6_drift_1 : decode cX6_drift 1 = .ok (.iconst 1, 1) := by decide +kernel
theorem dX6_drift_2 : decode cX6_drift 2 = .ok (.if_icmp .lt 17, 3) := by decide +kernel
theorem dX6_drift_5 : decode cX6_drift 5 = .ok (.iload_n 2, 1) := by decide +kernel
theorem dX6_drift_6 : decode cX6_drift 6 = .ok (.bipush 60, 2) := by decide +kernel
theorem dX6_drift_8 : decode cX6_drift 8 = .ok (.if_icmp .gt 11, 3) := by decide +kernel
theorem dX6_drift_11 : decode cX6_drift 11 = .ok (.iload_n 3, 1) := by decide +kernel
theorem dX6_drift_12 : decode cX6_drift 12 = .ok (.iconst 1, 1) := by decide +kernel
theorem dX6_drift_13 : decode cX6_drift 13 = .ok (.invokestatic 51, 3) := by decide +kernel
theorem dX6_drift_16 : decode cX6_drift 16 = .ok (.ifCond .ne 5, 3) := by decide +kernel
theorem dX6_drift_19 : decode cX6_drift 19 = .ok (.iconst (-1), 1) := by decide +kernel
theorem dX6_drift_20 : decode cX6_drift 20 = .ok (.ireturn, 1) := by decide +kernel
theorem dX6_drift_21 : decode cX6_drift 21 = .ok (.aload_n 0, 1) := by decide +kernel
theorem dX6_drift_22 : decode cX6_drift 22 = .ok (.getfield 23, 3) := by decide +kernel
theorem dX6_drift_25 : decode cX6_drift 25 = .ok (.aload_n 0, 1) := by decide +kernel
theorem dX6_drift_26 : decode cX6_drift 26 = .ok (.getfield 10, 3) := by decide +kernel
theorem dX6_drift_29 : decode cX6_drift 29 = .ok (.invokevirtual 85, 3) := by decide +kernel
theorem dX6_drift_32 : decode cX6_drift 32 = .ok (.iload_n 1, 1) := by decide +kernel
theorem dX6_drift_33 : decode cX6_drift 33 = .ok (.istore 4, 2) := by decide +kernel
theorem dX6_drift_35 : decode cX6_drift 35 = .ok (.iconst 0, 1) := by decide +kernel
theorem dX6_drift_36 : decode cX6_drift 36 = .ok (.istore 5, 2) := by decide +kernel
theorem dX6_drift_38 : decode cX6_drift 38 = .ok (.iload 5, 2) := by decide +kernel
theorem dX6_drift_40 : decode cX6_drift 40 = .ok (.iload_n 2, 1) := by decide +kernel
theorem dX6_drift_41 : decode cX6_drift 41 = .ok (.if_icmp .ge 39, 3) := by decide +kernel
theorem dX6_drift_44 : decode cX6_drift 44 = .ok (.iload 4, 2) := by decide +kernel
theorem dX6_drift_46 : decode cX6_drift 46 = .ok (.ldc 215, 2) := by decide +kernel
theorem dX6_drift_48 : decode cX6_drift 48 = .ok (.imul, 1) := by decide +kernel
theorem dX6_drift_49 : decode cX6_drift 49 = .ok (.sipush 12345, 3) := by decide +kernel
theorem dX6_drift_52 : decode cX6_drift 52 = .ok (.iadd, 1) := by decide +kernel
theorem dX6_drift_53 : decode cX6_drift 53 = .ok (.istore 4, 2) := by decide +kernel
theorem dX6_drift_55 : decode cX6_drift 55 = .ok (.aload_n 0, 1) := by decide +kernel
theorem dX6_drift_56 : decode cX6_drift 56 = .ok (.getfield 23, 3) := by decide +kernel
theorem dX6_drift_59 : decode cX6_drift 59 = .ok (.iload 4, 2) := by decide +kernel
theorem dX6_drift_61 : decode cX6_drift 61 = .ok (.bipush 16, 2) := by decide +kernel
theorem dX6_drift_63 : decode cX6_drift 63 = .ok (.iushr, 1) := by decide +kernel
theorem dX6_drift_64 : decode cX6_drift 64 = .ok (.sipush 32767, 3) := by decide +kernel
theorem dX6_drift_67 : decode cX6_drift 67 = .ok (.iand, 1) := by decide +kernel
theorem dX6_drift_68 : decode cX6_drift 68 = .ok (.bipush 12, 2) := by decide +kernel
theorem dX6_drift_70 : decode cX6_drift 70 = .ok (.irem, 1) := by decide +kernel
theorem dX6_drift_71 : decode cX6_drift 71 = .ok (.invokevirtual 216, 3) := by decide +kernel
theorem dX6_drift_74 : decode cX6_drift 74 = .ok (.iinc 5 1, 3) := by decide +kernel
theorem dX6_drift_77 : decode cX6_drift 77 = .ok (.goto (-39), 3) := by decide +kernel
theorem dX6_drift_80 : decode cX6_drift 80 = .ok (.iload_n 3, 1) := by decide +kernel
theorem dX6_drift_81 : decode cX6_drift 81 = .ok (.ifCond .ne 21, 3) := by decide +kernel
theorem dX6_drift_84 : decode cX6_drift 84 = .ok (.aload_n 0, 1) := by decide +kernel
theorem dX6_drift_85 : decode cX6_drift 85 = .ok (.getfield 23, 3) := by decide +kernel
theorem dX6_drift_88 : decode cX6_drift 88 = .ok (.getfield 108, 3) := by decide +kernel
theorem dX6_drift_91 : decode cX6_drift 91 = .ok (.aload_n 0, 1) := by decide +kernel
theorem dX6_drift_92 : decode cX6_drift 92 = .ok (.getfield 10, 3) := by decide +kernel
theorem dX6_drift_95 : decode cX6_drift 95 = .ok (.getfield 108, 3) := by decide +kernel
theorem dX6_drift_98 : decode cX6_drift 98 = .ok (.isub, 1) := by decide +kernel
theorem dX6_drift_99 : decode cX6_drift 99 = .ok (.goto 10, 3) := by decide +kernel
theorem dX6_drift_102 : decode cX6_drift 102 = .ok (.aload_n 0, 1) := by decide +kernel
theorem dX6_drift_103 : decode cX6_drift 103 = .ok (.getfield 23, 3) := by decide +kernel
theorem dX6_drift_106 : decode cX6_drift 106 = .ok (.invokevirtual 219, 3) := by decide +kernel
theorem dX6_drift_109 : decode cX6_drift 109 = .ok (.ireturn, 1) := by decide +kernel
theorem dX6_keep_0 : decode cX6_keep 0 = .ok (.iload_n 1, 1) := by decide +kernel
theorem dX6_keep_1 : decode cX6_keep 1 = .ok (.iconst 1, 1) := by decide +kernel
theorem dX6_keep_2 : decode cX6_keep 2 = .ok (.invokestatic 51, 3) := by decide +kernel
theorem dX6_keep_5 : decode cX6_keep 5 = .ok (.ifCond .ne 5, 3) := by decide +kernel
theorem dX6_keep_8 : decode cX6_keep 8 = .ok (.iconst (-1), 1) := by decide +kernel
theorem dX6_keep_9 : decode cX6_keep 9 = .ok (.ireturn, 1) := by decide +kernel
theorem dX6_keep_10 : decode cX6_keep 10 = .ok (.aload_n 0, 1) := by decide +kernel
theorem dX6_keep_11 : decode cX6_keep 11 = .ok (.getfield 39, 3) := by decide +kernel
theorem dX6_keep_14 : decode cX6_keep 14 = .ok (.iload_n 1, 1) := by decide +kernel
theorem dX6_keep_15 : decode cX6_keep 15 = .ok (.aaload, 1) := by decide +kernel
theorem dX6_keep_16 : decode cX6_keep 16 = .ok (.astore_n 2, 1) := by decide +kernel
theorem dX6_keep_17 : decode cX6_keep 17 = .ok (.aload_n 2, 1) := by decide +kernel
theorem dX6_keep_18 : decode cX6_keep 18 = .ok (.getfield 92, 3) := by decide +kernel
theorem dX6_keep_21 : decode cX6_keep 21 = .ok (.ifCond .eq 7, 3) := by decide +kernel
theorem dX6_keep_24 : decode cX6_keep 24 = .ok (.iconst 1, 1) := by decide +kernel
theorem dX6_keep_25 : decode cX6_keep 25 = .ok (.goto 4, 3) := by decide +kernel
theorem dX6_keep_28 : decode cX6_keep 28 = .ok (.iconst 0, 1) := by decide +kernel
theorem dX6_keep_29 : decode cX6_keep 29 = .ok (.istore_n 3, 1) := by decide +kernel
theorem dX6_keep_30 : decode cX6_keep 30 = .ok (.aload_n 2, 1) := by decide +kernel
theorem dX6_keep_31 : decode cX6_keep 31 = .ok (.iconst 1, 1) := by decide +kernel
theorem dX6_keep_32 : decode cX6_keep 32 = .ok (.putfield 92, 3) := by decide +kernel
theorem dX6_keep_35 : decode cX6_keep 35 = .ok (.aload_n 2, 1) := by decide +kernel
theorem dX6_keep_36 : decode cX6_keep 36 = .ok (.getfield 222, 3) := by decide +kernel
theorem dX6_keep_39 : decode cX6_keep 39 = .ok (.aload_n 0, 1) := by decide +kernel
theorem dX6_keep_40 : decode cX6_keep 40 = .ok (.getfield 10, 3) := by decide +kernel
theorem dX6_keep_43 : decode cX6_keep 43 = .ok (.invokevirtual 85, 3) := by decide +kernel
theorem dX6_keep_46 : decode cX6_keep 46 = .ok (.aload_n 2, 1) := by decide +kernel
theorem dX6_keep_47 : decode cX6_keep 47 = .ok (.getfield 225, 3) := by decide +kernel
theorem dX6_keep_50 : decode cX6_keep 50 = .ok (.aload_n 0, 1) := by decide +kernel
theorem dX6_keep_51 : decode cX6_keep 51 = .ok (.getfield 19, 3) := by decide +kernel
theorem dX6_keep_54 : decode cX6_keep 54 = .ok (.invokevirtual 226, 3) := by decide +kernel
theorem dX6_keep_57 : decode cX6_keep 57 = .ok (.iload_n 3, 1) := by decide +kernel
theorem dX6_keep_58 : decode cX6_keep 58 = .ok (.ireturn, 1) := by decide +kernel
theorem dX6_back_0 : decode cX6_back 0 = .ok (.iload_n 1, 1) := by decide +kernel
theorem dX6_back_1 : decode cX6_back 1 = .ok (.iconst 1, 1) := by decide +kernel
theorem dX6_back_2 : decode cX6_back 2 = .ok (.invokestatic 51, 3) := by decide +kernel
theorem dX6_back_5 : decode cX6_back 5 = .ok (.ifCond .ne 5, 3) := by decide +kernel
theorem dX6_back_8 : decode cX6_back 8 = .ok (.iconst (-1), 1) := by decide +kernel
theorem dX6_back_9 : decode cX6_back 9 = .ok (.ireturn, 1) := by decide +kernel
theorem dX6_back_10 : decode cX6_back 10 = .ok (.aload_n 0, 1) := by decide +kernel
theorem dX6_back_11 : decode cX6_back 11 = .ok (.getfield 39, 3) := by decide +kernel
theorem dX6_back_14 : decode cX6_back 14 = .ok (.iload_n 1, 1) := by decide +kernel
theorem dX6_back_15 : decode cX6_back 15 = .ok (.aaload, 1) := by decide +kernel
theorem dX6_back_16 : decode cX6_back 16 = .ok (.astore_n 2, 1) := by decide +kernel
theorem dX6_back_17 : decode cX6_back 17 = .ok (.aload_n 2, 1) := by decide +kernel
theorem dX6_back_18 : decode cX6_back 18 = .ok (.getfield 92, 3) := by decide +kernel
theorem dX6_back_21 : decode cX6_back 21 = .ok (.ifCond .ne 6, 3) := by decide +kernel
theorem dX6_back_24 : decode cX6_back 24 = .ok (.bipush (-2), 2) := by decide +kernel
theorem dX6_back_26 : decode cX6_back 26 = .ok (.ireturn, 1) := by decide +kernel
theorem dX6_back_27 : decode cX6_back 27 = .ok (.aload_n 0, 1) := by decide +kernel
theorem dX6_back_28 : decode cX6_back 28 = .ok (.getfield 10, 3) := by decide +kernel
theorem dX6_back_31 : decode cX6_back 31 = .ok (.aload_n 2, 1) := by decide +kernel
theorem dX6_back_32 : decode cX6_back 32 = .ok (.getfield 222, 3) := by decide +kernel
theorem dX6_back_35 : decode cX6_back 35 = .ok (.invokevirtual 85, 3) := by decide +kernel
theorem dX6_back_38 : decode cX6_back 38 = .ok (.aload_n 0, 1) := by decide +kernel
theorem dX6_back_39 : decode cX6_back 39 = .ok (.getfield 19, 3) := by decide +kernel
theorem dX6_back_42 : decode cX6_back 42 = .ok (.aload_n 2, 1) := by decide +kernel
theorem dX6_back_43 : decode cX6_back 43 = .ok (.getfield 225, 3) := by decide +kernel
theorem dX6_back_46 : decode cX6_back 46 = .ok (.invokevirtual 226, 3) := by decide +kernel
theorem dX6_back_49 : decode cX6_back 49 = .ok (.aload_n 0, 1) := by decide +kernel
theorem dX6_back_50 : decode cX6_back 50 = .ok (.getfield 10, 3) := by decide +kernel
theorem dX6_back_53 : decode cX6_back 53 = .ok (.getfield 102, 3) := by decide +kernel
theorem dX6_back_56 : decode cX6_back 56 = .ok (.ireturn, 1) := by decide +kernel
theorem dX6_sheet_0 : decode cX6_sheet 0 = .ok (.iload_n 1, 1) := by decide +kernel
theorem dX6_sheet_1 : decode cX6_sheet 1 = .ok (.invokestatic 229, 3) := by decide +kernel
theorem dX6_sheet_4 : decode cX6_sheet 4 = .ok (.ifCond .eq 17, 3) := by decide +kernel
theorem dX6_sheet_7 : decode cX6_sheet 7 = .ok (.iload_n 2, 1) := by decide +kernel
theorem dX6_sheet_8 : decode cX6_sheet 8 = .ok (.iconst 2, 1) := by decide +kernel
theorem dX6_sheet_9 : decode cX6_sheet 9 = .ok (.invokestatic 51, 3) := by decide +kernel
theorem dX6_sheet_12 : decode cX6_sheet 12 = .ok (.ifCond .eq 9, 3) := by decide +kernel
theorem dX6_sheet_15 : decode cX6_sheet 15 = .ok (.iload_n 3, 1) := by decide +kernel
theorem dX6_sheet_16 : decode cX6_sheet 16 = .ok (.bipush 40, 2) := by decide +kernel
theorem dX6_sheet_18 : decode cX6_sheet 18 = .ok (.if_icmp .le 5, 3) := by decide +kernel
theorem dX6_sheet_21 : decode cX6_sheet 21 = .ok (.iconst (-1), 1) := by decide +kernel
theorem dX6_sheet_22 : decode cX6_sheet 22 = .ok (.ireturn, 1) := by decide +kernel
theorem dX6_sheet_23 : decode cX6_sheet 23 = .ok (.iload_n 3, 1) := by decide +kernel
theorem dX6_sheet_24 : decode cX6_sheet 24 = .ok (.ifCond .ge 6, 3) := by decide +kernel
theorem dX6_sheet_27 : decode cX6_sheet 27 = .ok (.bipush (-14), 2) := by decide +kernel
theorem dX6_sheet_29 : decode cX6_sheet 29 = .ok (.ireturn, 1) := by decide +kernel
theorem dX6_sheet_30 : decode cX6_sheet 30 = .ok (.aload_n 0, 1) := by decide +kernel
theorem dX6_sheet_31 : decode cX6_sheet 31 = .ok (.getfield 45, 3) := by decide +kernel
theorem dX6_sheet_34 : decode cX6_sheet 34 = .ok (.iload_n 1, 1) := by decide +kernel
theorem dX6_sheet_35 : decode cX6_sheet 35 = .ok (.aaload, 1) := by decide +kernel
theorem dX6_sheet_36 : decode cX6_sheet 36 = .ok (.iload_n 2, 1) := by decide +kernel
theorem dX6_sheet_37 : decode cX6_sheet 37 = .ok (.iload_n 3, 1) := by decide +kernel
theorem dX6_sheet_38 : decode cX6_sheet 38 = .ok (.invokevirtual 232, 3) := by decide +kernel
theorem dX6_sheet_41 : decode cX6_sheet 41 = .ok (.iconst 1, 1) := by decide +kernel
theorem dX6_sheet_42 : decode cX6_sheet 42 = .ok (.ireturn, 1) := by decide +kernel
theorem dX6_lay_0 : decode cX6_lay 0 = .ok (.iload_n 1, 1) := by decide +kernel
theorem dX6_lay_1 : decode cX6_lay 1 = .ok (.invokestatic 229, 3) := by decide +kernel
theorem dX6_lay_4 : decode cX6_lay 4 = .ok (.ifCond .ne 5, 3) := by decide +kernel
theorem dX6_lay_7 : decode cX6_lay 7 = .ok (.iconst (-1), 1) := by decide +kernel
theorem dX6_lay_8 : decode cX6_lay 8 = .ok (.ireturn, 1) := by decide +kernel
theorem dX6_lay_9 : decode cX6_lay 9 = .ok (.aload_n 0, 1) := by decide +kernel
theorem dX6_lay_10 : decode cX6_lay 10 = .ok (.getfield 45, 3) := by decide +kernel
theorem dX6_lay_13 : decode cX6_lay 13 = .ok (.iload_n 1, 1) := by decide +kernel
theorem dX6_lay_14 : decode cX6_lay 14 = .ok (.aaload, 1) := by decide +kernel
theorem dX6_lay_15 : decode cX6_lay 15 = .ok (.iload_n 2, 1) := by decide +kernel
theorem dX6_lay_16 : decode cX6_lay 16 = .ok (.invokevirtual 236, 3) := by decide +kernel
theorem dX6_lay_19 : decode cX6_lay 19 = .ok (.istore 4, 2) := by decide +kernel
theorem dX6_lay_21 : decode cX6_lay 21 = .ok (.iload 4, 2) := by decide +kernel
theorem dX6_lay_23 : decode cX6_lay 23 = .ok (.ifCond .eq 9, 3) := by decide +kernel
theorem dX6_lay_26 : decode cX6_lay 26 = .ok (.bipush (-10), 2) := by decide +kernel
theorem dX6_lay_28 : decode cX6_lay 28 = .ok (.iload 4, 2) := by decide +kernel
theorem dX6_lay_30 : decode cX6_lay 30 = .ok (.isub, 1) := by decide +kernel
theorem dX6_lay_31 : decode cX6_lay 31 = .ok (.ireturn, 1) := by decide +kernel
theorem dX6_lay_32 : decode cX6_lay 32 = .ok (.aload_n 0, 1) := by decide +kernel
theorem dX6_lay_33 : decode cX6_lay 33 = .ok (.getfield 45, 3) := by decide +kernel
theorem dX6_lay_36 : decode cX6_lay 36 = .ok (.iload_n 1, 1) := by decide +kernel
theorem dX6_lay_37 : decode cX6_lay 37 = .ok (.aaload, 1) := by decide +kernel
theorem dX6_lay_38 : decode cX6_lay 38 = .ok (.getfield 239, 3) := by decide +kernel
theorem dX6_lay_41 : decode cX6_lay 41 = .ok (.iload_n 2, 1) := by decide +kernel
theorem dX6_lay_42 : decode cX6_lay 42 = .ok (.aload_n 0, 1) := by decide +kernel
theorem dX6_lay_43 : decode cX6_lay 43 = .ok (.getfield 45, 3) := by decide +kernel
theorem dX6_lay_46 : decode cX6_lay 46 = .ok (.iload_n 1, 1) := by decide +kernel
theorem dX6_lay_47 : decode cX6_lay 47 = .ok (.aaload, 1) := by decide +kernel
theorem dX6_lay_48 : decode cX6_lay 48 = .ok (.iload_n 3, 1) := by decide +kernel
theorem dX6_lay_49 : decode cX6_lay 49 = .ok (.invokevirtual 242, 3) := by decide +kernel
theorem dX6_lay_52 : decode cX6_lay 52 = .ok (.iastore, 1) := by decide +kernel
theorem dX6_lay_53 : decode cX6_lay 53 = .ok (.iconst 1, 1) := by decide +kernel
theorem dX6_lay_54 : decode cX6_lay 54 = .ok (.ireturn, 1) := by decide +kernel
theorem dX6_read_0 : decode cX6_read 0 = .ok (.iload_n 1, 1) := by decide +kernel
theorem dX6_read_1 : decode cX6_read 1 = .ok (.invokestatic 229, 3) := by decide +kernel
theorem dX6_read_4 : decode cX6_read 4 = .ok (.ifCond .eq 21, 3) := by decide +kernel
theorem dX6_read_7 : decode cX6_read 7 = .ok (.iload_n 2, 1) := by decide +kernel
theorem dX6_read_8 : decode cX6_read 8 = .ok (.iconst 2, 1) := by decide +kernel
theorem dX6_read_9 : decode cX6_read 9 = .ok (.invokestatic 51, 3) := by decide +kernel
theorem dX6_read_12 : decode cX6_read 12 = .ok (.ifCond .eq 13, 3) := by decide +kernel
theorem dX6_read_15 : decode cX6_read 15 = .ok (.iload 4, 2) := by decide +kernel
theorem dX6_read_17 : decode cX6_read 17 = .ok (.bipush 20, 2) := by decide +kernel
theorem dX6_read_19 : decode cX6_read 19 = .ok (.invokestatic 51, 3) := by decide +kernel
theorem dX6_read_22 : decode cX6_read 22 = .ok (.ifCond .ne 5, 3) := by decide +kernel
theorem dX6_read_25 : decode cX6_read 25 = .ok (.iconst (-1), 1) := by decide +kernel
theorem dX6_read_26 : decode cX6_read 26 = .ok (.ireturn, 1) := by decide +kernel
theorem dX6_read_27 : decode cX6_read 27 = .ok (.aload_n 0, 1) := by decide +kernel
theorem dX6_read_28 : decode cX6_read 28 = .ok (.getfield 45, 3) := by decide +kernel
theorem dX6_read_31 : decode cX6_read 31 = .ok (.iload_n 1, 1) := by decide +kernel
theorem dX6_read_32 : decode cX6_read 32 = .ok (.aaload, 1) := by decide +kernel
theorem dX6_read_33 : decode cX6_read 33 = .ok (.astore 5, 2) := by decide +kernel
theorem dX6_read_35 : decode cX6_read 35 = .ok (.iconst 0, 1) := by decide +kernel
theorem dX6_read_36 : decode cX6_read 36 = .ok (.istore 6, 2) := by decide +kernel
theorem dX6_read_38 : decode cX6_read 38 = .ok (.iconst 0, 1) := by decide +kernel
theorem dX6_read_39 : decode cX6_read 39 = .ok (.istore 7, 2) := by decide +kernel
theorem dX6_read_41 : decode cX6_read 41 = .ok (.iconst 0, 1) := by decide +kernel
theorem dX6_read_42 : decode cX6_read 42 = .ok (.istore 8, 2) := by decide +kernel
theorem dX6_read_44 : decode cX6_read 44 = .ok (.iload 8, 2) := by decide +kernel
theorem dX6_read_46 : decode cX6_read 46 = .ok (.iload 4, 2) := by decide +kernel
theorem dX6_read_48 : decode cX6_read 48 = .ok (.if_icmp .ge 76, 3) := by decide +kernel
theorem dX6_read_51 : decode cX6_read 51 = .ok (.iload 6, 2) := by decide +kernel
theorem dX6_read_53 : decode cX6_read 53 = .ok (.ifCond .ne 71, 3) := by decide +kernel
theorem dX6_read_56 : decode cX6_read 56 = .ok (.aload 5, 2) := by decide +kernel
theorem dX6_read_58 : decode cX6_read 58 = .ok (.iload_n 2, 1) := by decide +kernel
theorem dX6_read_59 : decode cX6_read 59 = .ok (.iload_n 3, 1) := by decide +kernel
theorem dX6_read_60 : decode cX6_read 60 = .ok (.iconst 2, 1) := by decide +kernel
theorem dX6_read_61 : decode cX6_read 61 = .ok (.iload 8, 2) := by decide +kernel
theorem dX6_read_63 : decode cX6_read 63 = .ok (.imul, 1) := by decide +kernel
theorem dX6_read_64 : decode cX6_read 64 = .ok (.iadd, 1) := by decide +kernel
theorem dX6_read_65 : decode cX6_read 65 = .ok (.invokevirtual 245, 3) := by decide +kernel
theorem dX6_read_68 : decode cX6_read 68 = .ok (.istore 6, 2) := by decide +kernel
theorem dX6_read_70 : decode cX6_read 70 = .ok (.iload 6, 2) := by decide +kernel
theorem dX6_read_72 : decode cX6_read 72 = .ok (.ifCond .ne 46, 3) := by decide +kernel
theorem dX6_read_75 : decode cX6_read 75 = .ok (.aload_n 0, 1) := by decide +kernel
theorem dX6_read_76 : decode cX6_read 76 = .ok (.aload 5, 2) := by decide +kernel
theorem dX6_read_78 : decode cX6_read 78 = .ok (.getfield 239, 3) := by decide +kernel
theorem dX6_read_81 : decode cX6_read 81 = .ok (.iload_n 3, 1) := by decide +kernel
theorem dX6_read_82 : decode cX6_read 82 = .ok (.iconst 2, 1) := by decide +kernel
theorem dX6_read_83 : decode cX6_read 83 = .ok (.iload 8, 2) := by decide +kernel
theorem dX6_read_85 : decode cX6_read 85 = .ok (.imul, 1) := by decide +kernel
theorem dX6_read_86 : decode cX6_read 86 = .ok (.iadd, 1) := by decide +kernel
theorem dX6_read_87 : decode cX6_read 87 = .ok (.iaload, 1) := by decide +kernel
theorem dX6_read_88 : decode cX6_read 88 = .ok (.iconst 1, 1) := by decide +kernel
theorem dX6_read_89 : decode cX6_read 89 = .ok (.aload 5, 2) := by decide +kernel
theorem dX6_read_91 : decode cX6_read 91 = .ok (.getfield 239, 3) := by decide +kernel
theorem dX6_read_94 : decode cX6_read 94 = .ok (.iload_n 3, 1) := by decide +kernel
theorem dX6_read_95 : decode cX6_read 95 = .ok (.iconst 2, 1) := by decide +kernel
theorem dX6_read_96 : decode cX6_read 96 = .ok (.iload 8, 2) := by decide +kernel
theorem dX6_read_98 : decode cX6_read 98 = .ok (.imul, 1) := by decide +kernel
theorem dX6_read_99 : decode cX6_read 99 = .ok (.iadd, 1) := by decide +kernel
theorem dX6_read_100 : decode cX6_read 100 = .ok (.iconst 1, 1) := by decide +kernel
theorem dX6_read_101 : decode cX6_read 101 = .ok (.iadd, 1) := by decide +kernel
theorem dX6_read_102 : decode cX6_read 102 = .ok (.iaload, 1) := by decide +kernel
theorem dX6_read_103 : decode cX6_read 103 = .ok (.invokevirtual 158, 3) := by decide +kernel
theorem dX6_read_106 : decode cX6_read 106 = .ok (.ifCond .eq 9, 3) := by decide +kernel
theorem dX6_read_109 : decode cX6_read 109 = .ok (.bipush (-20), 2) := by decide +kernel
theorem dX6_read_111 : decode cX6_read 111 = .ok (.iload 8, 2) := by decide +kernel
theorem dX6_read_113 : decode cX6_read 113 = .ok (.isub, 1) := by decide +kernel
theorem dX6_read_114 : decode cX6_read 114 = .ok (.ireturn, 1) := by decide +kernel
theorem dX6_read_115 : decode cX6_read 115 = .ok (.iinc 7 1, 3) := by decide +kernel
theorem dX6_read_118 : decode cX6_read 118 = .ok (.iinc 8 1, 3) := by decide +kernel
theorem dX6_read_121 : decode cX6_read 121 = .ok (.goto (-77), 3) := by decide +kernel
theorem dX6_read_124 : decode cX6_read 124 = .ok (.iconst 0, 1) := by decide +kernel
theorem dX6_read_125 : decode cX6_read 125 = .ok (.istore 8, 2) := by decide +kernel
theorem dX6_read_127 : decode cX6_read 127 = .ok (.iload 8, 2) := by decide +kernel
theorem dX6_read_129 : decode cX6_read 129 = .ok (.iload 7, 2) := by decide +kernel
theorem dX6_read_131 : decode cX6_read 131 = .ok (.if_icmp .ge 43, 3) := by decide +kernel
theorem dX6_read_134 : decode cX6_read 134 = .ok (.aload_n 0, 1) := by decide +kernel
theorem dX6_read_135 : decode cX6_read 135 = .ok (.getfield 10, 3) := by decide +kernel
theorem dX6_read_138 : decode cX6_read 138 = .ok (.aload 5, 2) := by decide +kernel
theorem dX6_read_140 : decode cX6_read 140 = .ok (.getfield 239, 3) := by decide +kernel
theorem dX6_read_143 : decode cX6_read 143 = .ok (.iload_n 3, 1) := by decide +kernel
theorem dX6_read_144 : decode cX6_read 144 = .ok (.iconst 2, 1) := by decide +kernel
theorem dX6_read_145 : decode cX6_read 145 = .ok (.iload 8, 2) := by decide +kernel
theorem dX6_read_147 : decode cX6_read 147 = .ok (.imul, 1) := by decide +kernel
theorem dX6_read_148 : decode cX6_read 148 = .ok (.iadd, 1) := by decide +kernel
theorem dX6_read_149 : decode cX6_read 149 = .ok (.iaload, 1) := by decide +kernel
theorem dX6_read_150 : decode cX6_read 150 = .ok (.iconst 1, 1) := by decide +kernel
theorem dX6_read_151 : decode cX6_read 151 = .ok (.aload 5, 2) := by decide +kernel
theorem dX6_read_153 : decode cX6_read 153 = .ok (.getfield 239, 3) := by decide +kernel
theorem dX6_read_156 : decode cX6_read 156 = .ok (.iload_n 3, 1) := by decide +kernel
theorem dX6_read_157 : decode cX6_read 157 = .ok (.iconst 2, 1) := by decide +kernel
theorem dX6_read_158 : decode cX6_read 158 = .ok (.iload 8, 2) := by decide +kernel
theorem dX6_read_160 : decode cX6_read 160 = .ok (.imul, 1) := by decide +kernel
theorem dX6_read_161 : decode cX6_read 161 = .ok (.iadd, 1) := by decide +kernel
theorem dX6_read_162 : decode cX6_read 162 = .ok (.iconst 1, 1) := by decide +kernel
theorem dX6_read_163 : decode cX6_read 163 = .ok (.iadd, 1) := by decide +kernel
theorem dX6_read_164 : decode cX6_read 164 = .ok (.iaload, 1) := by decide +kernel
theorem dX6_read_165 : decode cX6_read 165 = .ok (.invokevirtual 162, 3) := by decide +kernel
theorem dX6_read_168 : decode cX6_read 168 = .ok (.iinc 8 1, 3) := by decide +kernel
theorem dX6_read_171 : decode cX6_read 171 = .ok (.goto (-44), 3) := by decide +kernel
theorem dX6_read_174 : decode cX6_read 174 = .ok (.aload_n 0, 1) := by decide +kernel
theorem dX6_read_175 : decode cX6_read 175 = .ok (.iload 6, 2) := by decide +kernel
theorem dX6_read_177 : decode cX6_read 177 = .ok (.putfield 248, 3) := by decide +kernel
theorem dX6_read_180 : decode cX6_read 180 = .ok (.iload 7, 2) := by decide +kernel
theorem dX6_read_182 : decode cX6_read 182 = .ok (.ireturn, 1) := by decide +kernel
theorem dX6_torn_0 : decode cX6_torn 0 = .ok (.aload_n 0, 1) := by decide +kernel
theorem dX6_torn_1 : decode cX6_torn 1 = .ok (.getfield 248, 3) := by decide +kernel
theorem dX6_torn_4 : decode cX6_torn 4 = .ok (.ireturn, 1) := by decide +kernel
theorem dX6_count_0 : decode cX6_count 0 = .ok (.iload_n 1, 1) := by decide +kernel
theorem dX6_count_1 : decode cX6_count 1 = .ok (.tableswitch 121 0 5 #[39, 47, 52, 63, 90, 108], 39) := by decide +kernel
theorem dX6_count_40 : decode cX6_count 40 = .ok (.aload_n 0, 1) := by decide +kernel
theorem dX6_count_41 : decode cX6_count 41 = .ok (.getfield 19, 3) := by decide +kernel
theorem dX6_count_44 : decode cX6_count 44 = .ok (.getfield 89, 3) := by decide +kernel
theorem dX6_count_47 : decode cX6_count 47 = .ok (.ireturn, 1) := by decide +kernel
theorem dX6_count_48 : decode cX6_count 48 = .ok (.aload_n 0, 1) := by decide +kernel
theorem dX6_count_49 : decode cX6_count 49 = .ok (.invokevirtual 251, 3) := by decide +kernel
theorem dX6_count_52 : decode cX6_count 52 = .ok (.ireturn, 1) := by decide +kernel
theorem dX6_count_53 : decode cX6_count 53 = .ok (.aload_n 0, 1) := by decide +kernel
theorem dX6_count_54 : decode cX6_count 54 = .ok (.getfield 33, 3) := by decide +kernel
theorem dX6_count_57 : decode cX6_count 57 = .ok (.getfield 55, 3) := by decide +kernel
theorem dX6_count_60 : decode cX6_count 60 = .ok (.getfield 59, 3) := by decide +kernel
theorem dX6_count_63 : decode cX6_count 63 = .ok (.ireturn, 1) := by decide +kernel
theorem dX6_count_64 : decode cX6_count 64 = .ok (.aload_n 0, 1) := by decide +kernel
theorem dX6_count_65 : decode cX6_count 65 = .ok (.getfield 45, 3) := by decide +kernel
theorem dX6_count_68 : decode cX6_count 68 = .ok (.iconst 0, 1) := by decide +kernel
theorem dX6_count_69 : decode cX6_count 69 = .ok (.aaload, 1) := by decide +kernel
theorem dX6_count_70 : decode cX6_count 70 = .ok (.invokevirtual 254, 3) := by decide +kernel
theorem dX6_count_73 : decode cX6_count 73 = .ok (.ifCond .eq 8, 3) := by decide +kernel
theorem dX6_count_76 : decode cX6_count 76 = .ok (.bipush (-4), 2) := by decide +kernel
theorem dX6_count_78 : decode cX6_count 78 = .ok (.goto 12, 3) := by decide +kernel
theorem dX6_count_81 : decode cX6_count 81 = .ok (.aload_n 0, 1) := by decide +kernel
theorem dX6_count_82 : decode cX6_count 82 = .ok (.getfield 45, 3) := by decide +kernel
theorem dX6_count_85 : decode cX6_count 85 = .ok (.iconst 0, 1) := by decide +kernel
theorem dX6_count_86 : decode cX6_count 86 = .ok (.aaload, 1) := by decide +kernel
theorem dX6_count_87 : decode cX6_count 87 = .ok (.getfield 257, 3) := by decide +kernel
theorem dX6_count_90 : decode cX6_count 90 = .ok (.ireturn, 1) := by decide +kernel
theorem dX6_count_91 : decode cX6_count 91 = .ok (.aload_n 0, 1) := by decide +kernel
theorem dX6_count_92 : decode cX6_count 92 = .ok (.getfield 10, 3) := by decide +kernel
theorem dX6_count_95 : decode cX6_count 95 = .ok (.getfield 176, 3) := by decide +kernel
theorem dX6_count_98 : decode cX6_count 98 = .ok (.aload_n 0, 1) := by decide +kernel
theorem dX6_count_99 : decode cX6_count 99 = .ok (.getfield 10, 3) := by decide +kernel
theorem dX6_count_102 : decode cX6_count 102 = .ok (.getfield 99, 3) := by decide +kernel
theorem dX6_count_105 : decode cX6_count 105 = .ok (.invokestatic 260, 3) := by decide +kernel
theorem dX6_count_108 : decode cX6_count 108 = .ok (.ireturn, 1) := by decide +kernel
theorem dX6_count_109 : decode cX6_count 109 = .ok (.aload_n 0, 1) := by decide +kernel
theorem dX6_count_110 : decode cX6_count 110 = .ok (.getfield 10, 3) := by decide +kernel
theorem dX6_count_113 : decode cX6_count 113 = .ok (.getfield 146, 3) := by decide +kernel
theorem dX6_count_116 : decode cX6_count 116 = .ok (.bipush 12, 2) := by decide +kernel
theorem dX6_count_118 : decode cX6_count 118 = .ok (.invokestatic 260, 3) := by decide +kernel
theorem dX6_count_121 : decode cX6_count 121 = .ok (.ireturn, 1) := by decide +kernel
theorem dX6_count_122 : decode cX6_count 122 = .ok (.iconst (-1), 1) := by decide +kernel
theorem dX6_count_123 : decode cX6_count 123 = .ok (.ireturn, 1) := by decide +kernel
theorem dX6_isWithin_0 : decode cX6_isWithin 0 = .ok (.iload_n 0, 1) := by decide +kernel
theorem dX6_isWithin_1 : decode cX6_isWithin 1 = .ok (.ifCond .lt 12, 3) := by decide +kernel
theorem dX6_isWithin_4 : decode cX6_isWithin 4 = .ok (.iload_n 0, 1) := by decide +kernel
theorem dX6_isWithin_5 : decode cX6_isWithin 5 = .ok (.iload_n 1, 1) := by decide +kernel
theorem dX6_isWithin_6 : decode cX6_isWithin 6 = .ok (.if_icmp .gt 7, 3) := by decide +kernel
theorem dX6_isWithin_9 : decode cX6_isWithin 9 = .ok (.iconst 1, 1) := by decide +kernel
theorem dX6_isWithin_10 : decode cX6_isWithin 10 = .ok (.goto 4, 3) := by decide +kernel
theorem dX6_isWithin_13 : decode cX6_isWithin 13 = .ok (.iconst 0, 1) := by decide +kernel
theorem dX6_isWithin_14 : decode cX6_isWithin 14 = .ok (.ireturn, 1) := by decide +kernel
theorem dX6_isDoor_0 : decode cX6_isDoor 0 = .ok (.iload_n 0, 1) := by decide +kernel
theorem dX6_isDoor_1 : decode cX6_isDoor 1 = .ok (.bipush 11, 2) := by decide +kernel
theorem dX6_isDoor_3 : decode cX6_isDoor 3 = .ok (.invokestatic 51, 3) := by decide +kernel
theorem dX6_isDoor_6 : decode cX6_isDoor 6 = .ok (.ireturn, 1) := by decide +kernel
theorem dX6_isSheet_0 : decode cX6_isSheet 0 = .ok (.iload_n 0, 1) := by decide +kernel
theorem dX6_isSheet_1 : decode cX6_isSheet 1 = .ok (.iconst 3, 1) := by decide +kernel
theorem dX6_isSheet_2 : decode cX6_isSheet 2 = .ok (.invokestatic 51, 3) := by decide +kernel
theorem dX6_isSheet_5 : decode cX6_isSheet 5 = .ok (.ireturn, 1) := by decide +kernel
theorem dX6_isGlove_0 : decode cX6_isGlove 0 = .ok (.iload_n 1, 1) := by decide +kernel
theorem dX6_isGlove_1 : decode cX6_isGlove 1 = .ok (.aload_n 0, 1) := by decide +kernel
theorem dX6_isGlove_2 : decode cX6_isGlove 2 = .ok (.getfield 10, 3) := by decide +kernel
theorem dX6_isGlove_5 : decode cX6_isGlove 5 = .ok (.getfield 99, 3) := by decide +kernel
theorem dX6_isGlove_8 : decode cX6_isGlove 8 = .ok (.iconst 1, 1) := by decide +kernel
theorem dX6_isGlove_9 : decode cX6_isGlove 9 = .ok (.isub, 1) := by decide +kernel
theorem dX6_isGlove_10 : decode cX6_isGlove 10 = .ok (.invokestatic 51, 3) := by decide +kernel
theorem dX6_isGlove_13 : decode cX6_isGlove 13 = .ok (.ireturn, 1) := by decide +kernel
theorem dX6_isCall_0 : decode cX6_isCall 0 = .ok (.iload_n 1, 1) := by decide +kernel
theorem dX6_isCall_1 : decode cX6_isCall 1 = .ok (.aload_n 0, 1) := by decide +kernel
theorem dX6_isCall_2 : decode cX6_isCall 2 = .ok (.getfield 10, 3) := by decide +kernel
theorem dX6_isCall_5 : decode cX6_isCall 5 = .ok (.getfield 118, 3) := by decide +kernel
theorem dX6_isCall_8 : decode cX6_isCall 8 = .ok (.iconst 1, 1) := by decide +kernel
theorem dX6_isCall_9 : decode cX6_isCall 9 = .ok (.isub, 1) := by decide +kernel
theorem dX6_isCall_10 : decode cX6_isCall 10 = .ok (.invokestatic 51, 3) := by decide +kernel
theorem dX6_isCall_13 : decode cX6_isCall 13 = .ok (.ireturn, 1) := by decide +kernel
theorem dX6_greatestOf_0 : decode cX6_greatestOf 0 = .ok (.iload_n 0, 1) := by decide +kernel
theorem dX6_greatestOf_1 : decode cX6_greatestOf 1 = .ok (.tableswitch 35 0 2 #[27, 29, 32], 27) := by decide +kernel
theorem dX6_greatestOf_28 : decode cX6_greatestOf 28 = .ok (.iconst 3, 1) := by decide +kernel
theorem dX6_greatestOf_29 : decode cX6_greatestOf 29 = .ok (.ireturn, 1) := by decide +kernel
theorem dX6_greatestOf_30 : decode cX6_greatestOf 30 = .ok (.bipush 11, 2) := by decide +kernel
theorem dX6_greatestOf_32 : decode cX6_greatestOf 32 = .ok (.ireturn, 1) := by decide +kernel
theorem dX6_greatestOf_33 : decode cX6_greatestOf 33 = .ok (.bipush 20, 2) := by decide +kernel
theorem dX6_greatestOf_35 : decode cX6_greatestOf 35 = .ok (.ireturn, 1) := by decide +kernel
theorem dX6_greatestOf_36 : decode cX6_greatestOf 36 = .ok (.iconst (-1), 1) := by decide +kernel
theorem dX6_greatestOf_37 : decode cX6_greatestOf 37 = .ok (.ireturn, 1) := by decide +kernel
theorem dX6_refusalOf_0 : decode cX6_refusalOf 0 = .ok (.aload_n 0, 1) := by decide +kernel
theorem dX6_refusalOf_1 : decode cX6_refusalOf 1 = .ok (.iload_n 1, 1) := by decide +kernel
theorem dX6_refusalOf_2 : decode cX6_refusalOf 2 = .ok (.invokevirtual 121, 3) := by decide +kernel
theorem dX6_refusalOf_5 : decode cX6_refusalOf 5 = .ok (.ifCond .eq 14, 3) := by decide +kernel
theorem dX6_refusalOf_8 : decode cX6_refusalOf 8 = .ok (.iload_n 3, 1) := by decide +kernel
theorem dX6_refusalOf_9 : decode cX6_refusalOf 9 = .ok (.iload_n 2, 1) := by decide +kernel
theorem dX6_refusalOf_10 : decode cX6_refusalOf 10 = .ok (.invokestatic 264, 3) := by decide +kernel
theorem dX6_refusalOf_13 : decode cX6_refusalOf 13 = .ok (.invokestatic 51, 3) := by decide +kernel
theorem dX6_refusalOf_16 : decode cX6_refusalOf 16 = .ok (.ifCond .ne 5, 3) := by decide +kernel
theorem dX6_refusalOf_19 : decode cX6_refusalOf 19 = .ok (.iconst (-1), 1) := by decide +kernel
theorem dX6_refusalOf_20 : decode cX6_refusalOf 20 = .ok (.ireturn, 1) := by decide +kernel
theorem dX6_refusalOf_21 : decode cX6_refusalOf 21 = .ok (.iload_n 2, 1) := by decide +kernel
theorem dX6_refusalOf_22 : decode cX6_refusalOf 22 = .ok (.iconst 1, 1) := by decide +kernel
theorem dX6_refusalOf_23 : decode cX6_refusalOf 23 = .ok (.if_icmp .ne 19, 3) := by decide +kernel
theorem dX6_refusalOf_26 : decode cX6_refusalOf 26 = .ok (.aload_n 0, 1) := by decide +kernel
theorem dX6_refusalOf_27 : decode cX6_refusalOf 27 = .ok (.getfield 10, 3) := by decide +kernel
theorem dX6_refusalOf_30 : decode cX6_refusalOf 30 = .ok (.iload_n 1, 1) := by decide +kernel
theorem dX6_refusalOf_31 : decode cX6_refusalOf 31 = .ok (.invokevirtual 129, 3) := by decide +kernel
theorem dX6_refusalOf_34 : decode cX6_refusalOf 34 = .ok (.ifCond .eq 8, 3) := by decide +kernel
theorem dX6_refusalOf_37 : decode cX6_refusalOf 37 = .ok (.bipush (-2), 2) := by decide +kernel
theorem dX6_refusalOf_39 : decode cX6_refusalOf 39 = .ok (.goto 4, 3) := by decide +kernel
theorem dX6_refusalOf_42 : decode cX6_refusalOf 42 = .ok (.iconst 0, 1) := by decide +kernel
theorem dX6_refusalOf_43 : decode cX6_refusalOf 43 = .ok (.ireturn, 1) := by decide +kernel
theorem dX6_farOf_0 : decode cX6_farOf 0 = .ok (.iload_n 0, 1) := by decide +kernel
theorem dX6_farOf_1 : decode cX6_farOf 1 = .ok (.iload_n 1, 1) := by decide +kernel
theorem dX6_farOf_2 : decode cX6_farOf 2 = .ok (.if_icmp .ge 9, 3) := by decide +kernel
theorem dX6_farOf_5 : decode cX6_farOf 5 = .ok (.iload_n 1, 1) := by decide +kernel
theorem dX6_farOf_6 : decode cX6_farOf 6 = .ok (.iload_n 0, 1) := by decide +kernel
theorem dX6_farOf_7 : decode cX6_farOf 7 = .ok (.isub, 1) := by decide +kernel
theorem dX6_farOf_8 : decode cX6_farOf 8 = .ok (.goto 6, 3) := by decide +kernel
theorem dX6_farOf_11 : decode cX6_farOf 11 = .ok (.iload_n 0, 1) := by decide +kernel
theorem dX6_farOf_12 : decode cX6_farOf 12 = .ok (.iload_n 1, 1) := by decide +kernel
theorem dX6_farOf_13 : decode cX6_farOf 13 = .ok (.isub, 1) := by decide +kernel
theorem dX6_farOf_14 : decode cX6_farOf 14 = .ok (.istore_n 2, 1) := by decide +kernel
theorem dX6_farOf_15 : decode cX6_farOf 15 = .ok (.iload_n 2, 1) := by decide +kernel
theorem dX6_farOf_16 : decode cX6_farOf 16 = .ok (.bipush 12, 2) := by decide +kernel
theorem dX6_farOf_18 : decode cX6_farOf 18 = .ok (.iload_n 2, 1) := by decide +kernel
theorem dX6_farOf_19 : decode cX6_farOf 19 = .ok (.isub, 1) := by decide +kernel
theorem dX6_farOf_20 : decode cX6_farOf 20 = .ok (.if_icmp .ge 7, 3) := by decide +kernel
theorem dX6_farOf_23 : decode cX6_farOf 23 = .ok (.iload_n 2, 1) := by decide +kernel
theorem dX6_farOf_24 : decode cX6_farOf 24 = .ok (.goto 7, 3) := by decide +kernel
theorem dX6_farOf_27 : decode cX6_farOf 27 = .ok (.bipush 12, 2) := by decide +kernel
theorem dX6_farOf_29 : decode cX6_farOf 29 = .ok (.iload_n 2, 1) := by decide +kernel
theorem dX6_farOf_30 : decode cX6_farOf 30 = .ok (.isub, 1) := by decide +kernel
theorem dX6_farOf_31 : decode cX6_farOf 31 = .ok (.ireturn, 1) := by decide +kernel
theorem dX6_sumOf_0 : decode cX6_sumOf 0 = .ok (.iconst 0, 1) := by decide +kernel
theorem dX6_sumOf_1 : decode cX6_sumOf 1 = .ok (.istore_n 2, 1) := by decide +kernel
theorem dX6_sumOf_2 : decode cX6_sumOf 2 = .ok (.iconst 0, 1) := by decide +kernel
theorem dX6_sumOf_3 : decode cX6_sumOf 3 = .ok (.istore_n 3, 1) := by decide +kernel
theorem dX6_sumOf_4 : decode cX6_sumOf 4 = .ok (.iload_n 3, 1) := by decide +kernel
theorem dX6_sumOf_5 : decode cX6_sumOf 5 = .ok (.iload_n 1, 1) := by decide +kernel
theorem dX6_sumOf_6 : decode cX6_sumOf 6 = .ok (.if_icmp .ge 21, 3) := by decide +kernel
theorem dX6_sumOf_9 : decode cX6_sumOf 9 = .ok (.iload_n 3, 1) := by decide +kernel
theorem dX6_sumOf_10 : decode cX6_sumOf 10 = .ok (.aload_n 0, 1) := by decide +kernel
theorem dX6_sumOf_11 : decode cX6_sumOf 11 = .ok (.arraylength, 1) := by decide +kernel
theorem dX6_sumOf_12 : decode cX6_sumOf 12 = .ok (.if_icmp .ge 15, 3) := by decide +kernel
theorem dX6_sumOf_15 : decode cX6_sumOf 15 = .ok (.iload_n 2, 1) := by decide +kernel
theorem dX6_sumOf_16 : decode cX6_sumOf 16 = .ok (.aload_n 0, 1) := by decide +kernel
theorem dX6_sumOf_17 : decode cX6_sumOf 17 = .ok (.iload_n 3, 1) := by decide +kernel
theorem dX6_sumOf_18 : decode cX6_sumOf 18 = .ok (.iaload, 1) := by decide +kernel
theorem dX6_sumOf_19 : decode cX6_sumOf 19 = .ok (.iadd, 1) := by decide +kernel
theorem dX6_sumOf_20 : decode cX6_sumOf 20 = .ok (.istore_n 2, 1) := by decide +kernel
theorem dX6_sumOf_21 : decode cX6_sumOf 21 = .ok (.iinc 3 1, 3) := by decide +kernel
theorem dX6_sumOf_24 : decode cX6_sumOf 24 = .ok (.goto (-20), 3) := by decide +kernel
theorem dX6_sumOf_27 : decode cX6_sumOf 27 = .ok (.iload_n 2, 1) := by decide +kernel
theorem dX6_sumOf_28 : decode cX6_sumOf 28 = .ok (.ireturn, 1) := by decide +kernel
theorem dX6_imagesKept_0 : decode cX6_imagesKept 0 = .ok (.iconst 0, 1) := by decide +kernel
theorem dX6_imagesKept_1 : decode cX6_imagesKept 1 = .ok (.istore_n 1, 1) := by decide +kernel
theorem dX6_imagesKept_2 : decode cX6_imagesKept 2 = .ok (.iconst 0, 1) := by decide +kernel
theorem dX6_imagesKept_3 : decode cX6_imagesKept 3 = .ok (.istore_n 2, 1) := by decide +kernel
theorem dX6_imagesKept_4 : decode cX6_imagesKept 4 = .ok (.iload_n 2, 1) := by decide +kernel
theorem dX6_imagesKept_5 : decode cX6_imagesKept 5 = .ok (.aload_n 0, 1) := by decide +kernel
theorem dX6_imagesKept_6 : decode cX6_imagesKept 6 = .ok (.getfield 39, 3) := by decide +kernel
theorem dX6_imagesKept_9 : decode cX6_imagesKept 9 = .ok (.arraylength, 1) := by decide +kernel
theorem dX6_imagesKept_10 : decode cX6_imagesKept 10 = .ok (.if_icmp .ge 24, 3) := by decide +kernel
theorem dX6_imagesKept_13 : decode cX6_imagesKept 13 = .ok (.aload_n 0, 1) := by decide +kernel
theorem dX6_imagesKept_14 : decode cX6_imagesKept 14 = .ok (.getfield 39, 3) := by decide +kernel
theorem dX6_imagesKept_17 : decode cX6_imagesKept 17 = .ok (.iload_n 2, 1) := by decide +kernel
theorem dX6_imagesKept_18 : decode cX6_imagesKept 18 = .ok (.aaload, 1) := by decide +kernel
theorem dX6_imagesKept_19 : decode cX6_imagesKept 19 = .ok (.getfield 92, 3) := by decide +kernel
theorem dX6_imagesKept_22 : decode cX6_imagesKept 22 = .ok (.ifCond .eq 6, 3) := by decide +kernel
theorem dX6_imagesKept_25 : decode cX6_imagesKept 25 = .ok (.iinc 1 1, 3) := by decide +kernel
theorem dX6_imagesKept_28 : decode cX6_imagesKept 28 = .ok (.iinc 2 1, 3) := by decide +kernel
theorem dX6_imagesKept_31 : decode cX6_imagesKept 31 = .ok (.goto (-27), 3) := by decide +kernel
theorem dX6_imagesKept_34 : decode cX6_imagesKept 34 = .ok (.iload_n 1, 1) := by decide +kernel
theorem dX6_imagesKept_35 : decode cX6_imagesKept 35 = .ok (.ireturn, 1) := by decide +kernel
theorem dX6_firstPairing_0 : decode cX6_firstPairing 0 = .ok (.iconst 0, 1) := by decide +kernel
theorem dX6_firstPairing_1 : decode cX6_firstPairing 1 = .ok (.istore_n 3, 1) := by decide +kernel
theorem dX6_firstPairing_2 : decode cX6_firstPairing 2 = .ok (.iload_n 3, 1) := by decide +kernel
theorem dX6_firstPairing_3 : decode cX6_firstPairing 3 = .ok (.iload_n 2, 1) := by decide +kernel
theorem dX6_firstPairing_4 : decode cX6_firstPairing 4 = .ok (.if_icmp .gt 31, 3) := by decide +kernel
theorem dX6_firstPairing_7 : decode cX6_firstPairing 7 = .ok (.aload_n 0, 1) := by decide +kernel
theorem dX6_firstPairing_8 : decode cX6_firstPairing 8 = .ok (.getfield 23, 3) := by decide +kernel
theorem dX6_firstPairing_11 : decode cX6_firstPairing 11 = .ok (.getfield 111, 3) := by decide +kernel
theorem dX6_firstPairing_14 : decode cX6_firstPairing 14 = .ok (.iload_n 1, 1) := by decide +kernel
theorem dX6_firstPairing_15 : decode cX6_firstPairing 15 = .ok (.iand, 1) := by decide +kernel
theorem dX6_firstPairing_16 : decode cX6_firstPairing 16 = .ok (.ifCond .eq 5, 3) := by decide +kernel
theorem dX6_firstPairing_19 : decode cX6_firstPairing 19 = .ok (.iload_n 3, 1) := by decide +kernel
theorem dX6_firstPairing_20 : decode cX6_firstPairing 20 = .ok (.ireturn, 1) := by decide +kernel
theorem dX6_firstPairing_21 : decode cX6_firstPairing 21 = .ok (.aload_n 0, 1) := by decide +kernel
theorem dX6_firstPairing_22 : decode cX6_firstPairing 22 = .ok (.getfield 23, 3) := by decide +kernel
theorem dX6_firstPairing_25 : decode cX6_firstPairing 25 = .ok (.iconst 1, 1) := by decide +kernel
theorem dX6_firstPairing_26 : decode cX6_firstPairing 26 = .ok (.invokevirtual 170, 3) := by decide +kernel
theorem dX6_firstPairing_29 : decode cX6_firstPairing 29 = .ok (.iinc 3 1, 3) := by decide +kernel
theorem dX6_firstPairing_32 : decode cX6_firstPairing 32 = .ok (.goto (-30), 3) := by decide +kernel
theorem dX6_firstPairing_35 : decode cX6_firstPairing 35 = .ok (.bipush (-4), 2) := by decide +kernel
theorem dX6_firstPairing_37 : decode cX6_firstPairing 37 = .ok (.ireturn, 1) := by decide +kernel
theorem dX6_nameBehind_0 : decode cX6_nameBehind 0 = .ok (.aload_n 0, 1) := by decide +kernel
theorem dX6_nameBehind_1 : decode cX6_nameBehind 1 = .ok (.getfield 23, 3) := by decide +kernel
theorem dX6_nameBehind_4 : decode cX6_nameBehind 4 = .ok (.aload_n 0, 1) := by decide +kernel
theorem dX6_nameBehind_5 : decode cX6_nameBehind 5 = .ok (.getfield 10, 3) := by decide +kernel
theorem dX6_nameBehind_8 : decode cX6_nameBehind 8 = .ok (.invokevirtual 85, 3) := by decide +kernel
theorem dX6_nameBehind_11 : decode cX6_nameBehind 11 = .ok (.aload_n 0, 1) := by decide +kernel
theorem dX6_nameBehind_12 : decode cX6_nameBehind 12 = .ok (.getfield 23, 3) := by decide +kernel
theorem dX6_nameBehind_15 : decode cX6_nameBehind 15 = .ok (.iload_n 1, 1) := by decide +kernel
theorem dX6_nameBehind_16 : decode cX6_nameBehind 16 = .ok (.invokevirtual 170, 3) := by decide +kernel
theorem dX6_nameBehind_19 : decode cX6_nameBehind 19 = .ok (.aload_n 0, 1) := by decide +kernel
theorem dX6_nameBehind_20 : decode cX6_nameBehind 20 = .ok (.getfield 23, 3) := by decide +kernel
theorem dX6_nameBehind_23 : decode cX6_nameBehind 23 = .ok (.getfield 108, 3) := by decide +kernel
theorem dX6_nameBehind_26 : decode cX6_nameBehind 26 = .ok (.ireturn, 1) := by decide +kernel
theorem dX6_nameWithSwap_0 : decode cX6_nameWithSwap 0 = .ok (.aload_n 0, 1) := by decide +kernel
theorem dX6_nameWithSwap_1 : decode cX6_nameWithSwap 1 = .ok (.getfield 23, 3) := by decide +kernel
theorem dX6_nameWithSwap_4 : decode cX6_nameWithSwap 4 = .ok (.aload_n 0, 1) := by decide +kernel
theorem dX6_nameWithSwap_5 : decode cX6_nameWithSwap 5 = .ok (.getfield 10, 3) := by decide +kernel
theorem dX6_nameWithSwap_8 : decode cX6_nameWithSwap 8 = .ok (.invokevirtual 85, 3) := by decide +kernel
theorem dX6_nameWithSwap_11 : decode cX6_nameWithSwap 11 = .ok (.aload_n 0, 1) := by decide +kernel
theorem dX6_nameWithSwap_12 : decode cX6_nameWithSwap 12 = .ok (.getfield 23, 3) := by decide +kernel
theorem dX6_nameWithSwap_15 : decode cX6_nameWithSwap 15 = .ok (.getfield 155, 3) := by decide +kernel
theorem dX6_nameWithSwap_18 : decode cX6_nameWithSwap 18 = .ok (.iload_n 1, 1) := by decide +kernel
theorem dX6_nameWithSwap_19 : decode cX6_nameWithSwap 19 = .ok (.aload_n 0, 1) := by decide +kernel
theorem dX6_nameWithSwap_20 : decode cX6_nameWithSwap 20 = .ok (.getfield 10, 3) := by decide +kernel
theorem dX6_nameWithSwap_23 : decode cX6_nameWithSwap 23 = .ok (.getfield 155, 3) := by decide +kernel
theorem dX6_nameWithSwap_26 : decode cX6_nameWithSwap 26 = .ok (.iload_n 2, 1) := by decide +kernel
theorem dX6_nameWithSwap_27 : decode cX6_nameWithSwap 27 = .ok (.iaload, 1) := by decide +kernel
theorem dX6_nameWithSwap_28 : decode cX6_nameWithSwap 28 = .ok (.iastore, 1) := by decide +kernel
theorem dX6_nameWithSwap_29 : decode cX6_nameWithSwap 29 = .ok (.aload_n 0, 1) := by decide +kernel
theorem dX6_nameWithSwap_30 : decode cX6_nameWithSwap 30 = .ok (.getfield 23, 3) := by decide +kernel
theorem dX6_nameWithSwap_33 : decode cX6_nameWithSwap 33 = .ok (.getfield 155, 3) := by decide +kernel
theorem dX6_nameWithSwap_36 : decode cX6_nameWithSwap 36 = .ok (.iload_n 2, 1) := by decide +kernel
theorem dX6_nameWithSwap_37 : decode cX6_nameWithSwap 37 = .ok (.aload_n 0, 1) := by decide +kernel
theorem dX6_nameWithSwap_38 : decode cX6_nameWithSwap 38 = .ok (.getfield 10, 3) := by decide +kernel
theorem dX6_nameWithSwap_41 : decode cX6_nameWithSwap 41 = .ok (.getfield 155, 3) := by decide +kernel
theorem dX6_nameWithSwap_44 : decode cX6_nameWithSwap 44 = .ok (.iload_n 1, 1) := by decide +kernel
theorem dX6_nameWithSwap_45 : decode cX6_nameWithSwap 45 = .ok (.iaload, 1) := by decide +kernel
theorem dX6_nameWithSwap_46 : decode cX6_nameWithSwap 46 = .ok (.iastore, 1) := by decide +kernel
theorem dX6_nameWithSwap_47 : decode cX6_nameWithSwap 47 = .ok (.aload_n 0, 1) := by decide +kernel
theorem dX6_nameWithSwap_48 : decode cX6_nameWithSwap 48 = .ok (.getfield 23, 3) := by decide +kernel
theorem dX6_nameWithSwap_51 : decode cX6_nameWithSwap 51 = .ok (.iload_n 3, 1) := by decide +kernel
theorem dX6_nameWithSwap_52 : decode cX6_nameWithSwap 52 = .ok (.invokevirtual 170, 3) := by decide +kernel
theorem dX6_nameWithSwap_55 : decode cX6_nameWithSwap 55 = .ok (.aload_n 0, 1) := by decide +kernel
theorem dX6_nameWithSwap_56 : decode cX6_nameWithSwap 56 = .ok (.getfield 23, 3) := by decide +kernel
theorem dX6_nameWithSwap_59 : decode cX6_nameWithSwap 59 = .ok (.getfield 108, 3) := by decide +kernel
theorem dX6_nameWithSwap_62 : decode cX6_nameWithSwap 62 = .ok (.ireturn, 1) := by decide +kernel
theorem dX6_bestDoorOfCall_0 : decode cX6_bestDoorOfCall 0 = .ok (.iconst (-1), 1) := by decide +kernel
theorem dX6_bestDoorOfCall_1 : decode cX6_bestDoorOfCall 1 = .ok (.istore 4, 2) := by decide +kernel
theorem dX6_bestDoorOfCall_3 : decode cX6_bestDoorOfCall 3 = .ok (.iconst 0, 1) := by decide +kernel
theorem dX6_bestDoorOfCall_4 : decode cX6_bestDoorOfCall 4 = .ok (.istore 5, 2) := by decide +kernel
theorem dX6_bestDoorOfCall_6 : decode cX6_bestDoorOfCall 6 = .ok (.iconst 0, 1) := by decide +kernel
theorem dX6_bestDoorOfCall_7 : decode cX6_bestDoorOfCall 7 = .ok (.istore 6, 2) := by decide +kernel
theorem dX6_bestDoorOfCall_9 : decode cX6_bestDoorOfCall 9 = .ok (.iload 6, 2) := by decide +kernel
theorem dX6_bestDoorOfCall_11 : decode cX6_bestDoorOfCall 11 = .ok (.bipush 12, 2) := by decide +kernel
theorem dX6_bestDoorOfCall_13 : decode cX6_bestDoorOfCall 13 = .ok (.if_icmp .ge 83, 3) := by decide +kernel
theorem dX6_bestDoorOfCall_16 : decode cX6_bestDoorOfCall 16 = .ok (.aload_n 0, 1) := by decide +kernel
theorem dX6_bestDoorOfCall_17 : decode cX6_bestDoorOfCall 17 = .ok (.getfield 23, 3) := by decide +kernel
theorem dX6_bestDoorOfCall_20 : decode cX6_bestDoorOfCall 20 = .ok (.aload_n 0, 1) := by decide +kernel
theorem dX6_bestDoorOfCall_21 : decode cX6_bestDoorOfCall 21 = .ok (.getfield 10, 3) := by decide +kernel
theorem dX6_bestDoorOfCall_24 : decode cX6_bestDoorOfCall 24 = .ok (.invokevirtual 85, 3) := by decide +kernel
theorem dX6_bestDoorOfCall_27 : decode cX6_bestDoorOfCall 27 = .ok (.aload_n 0, 1) := by decide +kernel
theorem dX6_bestDoorOfCall_28 : decode cX6_bestDoorOfCall 28 = .ok (.getfield 23, 3) := by decide +kernel
theorem dX6_bestDoorOfCall_31 : decode cX6_bestDoorOfCall 31 = .ok (.getfield 155, 3) := by decide +kernel
theorem dX6_bestDoorOfCall_34 : decode cX6_bestDoorOfCall 34 = .ok (.iload_n 1, 1) := by decide +kernel
theorem dX6_bestDoorOfCall_35 : decode cX6_bestDoorOfCall 35 = .ok (.iload 6, 2) := by decide +kernel
theorem dX6_bestDoorOfCall_37 : decode cX6_bestDoorOfCall 37 = .ok (.iastore, 1) := by decide +kernel
theorem dX6_bestDoorOfCall_38 : decode cX6_bestDoorOfCall 38 = .ok (.aload_n 0, 1) := by decide +kernel
theorem dX6_bestDoorOfCall_39 : decode cX6_bestDoorOfCall 39 = .ok (.getfield 23, 3) := by decide +kernel
theorem dX6_bestDoorOfCall_42 : decode cX6_bestDoorOfCall 42 = .ok (.aload_n 0, 1) := by decide +kernel
theorem dX6_bestDoorOfCall_43 : decode cX6_bestDoorOfCall 43 = .ok (.getfield 10, 3) := by decide +kernel
theorem dX6_bestDoorOfCall_46 : decode cX6_bestDoorOfCall 46 = .ok (.getfield 118, 3) := by decide +kernel
theorem dX6_bestDoorOfCall_49 : decode cX6_bestDoorOfCall 49 = .ok (.iload_n 1, 1) := by decide +kernel
theorem dX6_bestDoorOfCall_50 : decode cX6_bestDoorOfCall 50 = .ok (.iconst 1, 1) := by decide +kernel
theorem dX6_bestDoorOfCall_51 : decode cX6_bestDoorOfCall 51 = .ok (.iadd, 1) := by decide +kernel
theorem dX6_bestDoorOfCall_52 : decode cX6_bestDoorOfCall 52 = .ok (.invokestatic 267, 3) := by decide +kernel
theorem dX6_bestDoorOfCall_55 : decode cX6_bestDoorOfCall 55 = .ok (.putfield 118, 3) := by decide +kernel
theorem dX6_bestDoorOfCall_58 : decode cX6_bestDoorOfCall 58 = .ok (.aload_n 0, 1) := by decide +kernel
theorem dX6_bestDoorOfCall_59 : decode cX6_bestDoorOfCall 59 = .ok (.getfield 23, 3) := by decide +kernel
theorem dX6_bestDoorOfCall_62 : decode cX6_bestDoorOfCall 62 = .ok (.iload_n 2, 1) := by decide +kernel
theorem dX6_bestDoorOfCall_63 : decode cX6_bestDoorOfCall 63 = .ok (.invokevirtual 170, 3) := by decide +kernel
theorem dX6_bestDoorOfCall_66 : decode cX6_bestDoorOfCall 66 = .ok (.aload_n 0, 1) := by decide +kernel
theorem dX6_bestDoorOfCall_67 : decode cX6_bestDoorOfCall 67 = .ok (.getfield 23, 3) := by decide +kernel
theorem dX6_bestDoorOfCall_70 : decode cX6_bestDoorOfCall 70 = .ok (.invokevirtual 219, 3) := by decide +kernel
theorem dX6_bestDoorOfCall_73 : decode cX6_bestDoorOfCall 73 = .ok (.istore 7, 2) := by decide +kernel
theorem dX6_bestDoorOfCall_75 : decode cX6_bestDoorOfCall 75 = .ok (.iload 7, 2) := by decide +kernel
theorem dX6_bestDoorOfCall_77 : decode cX6_bestDoorOfCall 77 = .ok (.iload 4, 2) := by decide +kernel
theorem dX6_bestDoorOfCall_79 : decode cX6_bestDoorOfCall 79 = .ok (.if_icmp .le 11, 3) := by decide +kernel
theorem dX6_bestDoorOfCall_82 : decode cX6_bestDoorOfCall 82 = .ok (.iload 7, 2) := by decide +kernel
theorem dX6_bestDoorOfCall_84 : decode cX6_bestDoorOfCall 84 = .ok (.istore 4, 2) := by decide +kernel
theorem dX6_bestDoorOfCall_86 : decode cX6_bestDoorOfCall 86 = .ok (.iload 6, 2) := by decide +kernel
theorem dX6_bestDoorOfCall_88 : decode cX6_bestDoorOfCall 88 = .ok (.istore 5, 2) := by decide +kernel
theorem dX6_bestDoorOfCall_90 : decode cX6_bestDoorOfCall 90 = .ok (.iinc 6 1, 3) := by decide +kernel
theorem dX6_bestDoorOfCall_93 : decode cX6_bestDoorOfCall 93 = .ok (.goto (-84), 3) := by decide +kernel
theorem dX6_bestDoorOfCall_96 : decode cX6_bestDoorOfCall 96 = .ok (.iload_n 3, 1) := by decide +kernel
theorem dX6_bestDoorOfCall_97 : decode cX6_bestDoorOfCall 97 = .ok (.ifCond .ne 8, 3) := by decide +kernel
theorem dX6_bestDoorOfCall_100 : decode cX6_bestDoorOfCall 100 = .ok (.iload 5, 2) := by decide +kernel
theorem dX6_bestDoorOfCall_102 : decode cX6_bestDoorOfCall 102 = .ok (.goto 5, 3) := by decide +kernel
theorem dX6_bestDoorOfCall_105 : decode cX6_bestDoorOfCall 105 = .ok (.iload 4, 2) := by decide +kernel
theorem dX6_bestDoorOfCall_107 : decode cX6_bestDoorOfCall 107 = .ok (.ireturn, 1) := by decide +kernel
theorem dX6_mostNamedPart_0 : decode cX6_mostNamedPart 0 = .ok (.iconst (-1), 1) := by decide +kernel
theorem dX6_mostNamedPart_1 : decode cX6_mostNamedPart 1 = .ok (.istore 5, 2) := by decide +kernel
theorem dX6_mostNamedPart_3 : decode cX6_mostNamedPart 3 = .ok (.iconst 0, 1) := by decide +kernel
theorem dX6_mostNamedPart_4 : decode cX6_mostNamedPart 4 = .ok (.istore 6, 2) := by decide +kernel
theorem dX6_mostNamedPart_6 : decode cX6_mostNamedPart 6 = .ok (.iconst 0, 1) := by decide +kernel
theorem dX6_mostNamedPart_7 : decode cX6_mostNamedPart 7 = .ok (.istore 7, 2) := by decide +kernel
theorem dX6_mostNamedPart_9 : decode cX6_mostNamedPart 9 = .ok (.iload 7, 2) := by decide +kernel
theorem dX6_mostNamedPart_11 : decode cX6_mostNamedPart 11 = .ok (.iload_n 2, 1) := by decide +kernel
theorem dX6_mostNamedPart_12 : decode cX6_mostNamedPart 12 = .ok (.invokestatic 264, 3) := by decide +kernel
theorem dX6_mostNamedPart_15 : decode cX6_mostNamedPart 15 = .ok (.if_icmp .gt 64, 3) := by decide +kernel
theorem dX6_mostNamedPart_18 : decode cX6_mostNamedPart 18 = .ok (.aload_n 0, 1) := by decide +kernel
theorem dX6_mostNamedPart_19 : decode cX6_mostNamedPart 19 = .ok (.getfield 23, 3) := by decide +kernel
theorem dX6_mostNamedPart_22 : decode cX6_mostNamedPart 22 = .ok (.aload_n 0, 1) := by decide +kernel
theorem dX6_mostNamedPart_23 : decode cX6_mostNamedPart 23 = .ok (.getfield 10, 3) := by decide +kernel
theorem dX6_mostNamedPart_26 : decode cX6_mostNamedPart 26 = .ok (.invokevirtual 85, 3) := by decide +kernel
theorem dX6_mostNamedPart_29 : decode cX6_mostNamedPart 29 = .ok (.aload_n 0, 1) := by decide +kernel
theorem dX6_mostNamedPart_30 : decode cX6_mostNamedPart 30 = .ok (.getfield 23, 3) := by decide +kernel
theorem dX6_mostNamedPart_33 : decode cX6_mostNamedPart 33 = .ok (.iload_n 1, 1) := by decide +kernel
theorem dX6_mostNamedPart_34 : decode cX6_mostNamedPart 34 = .ok (.iload_n 2, 1) := by decide +kernel
theorem dX6_mostNamedPart_35 : decode cX6_mostNamedPart 35 = .ok (.iload 7, 2) := by decide +kernel
theorem dX6_mostNamedPart_37 : decode cX6_mostNamedPart 37 = .ok (.invokevirtual 162, 3) := by decide +kernel
theorem dX6_mostNamedPart_40 : decode cX6_mostNamedPart 40 = .ok (.aload_n 0, 1) := by decide +kernel
theorem dX6_mostNamedPart_41 : decode cX6_mostNamedPart 41 = .ok (.getfield 23, 3) := by decide +kernel
theorem dX6_mostNamedPart_44 : decode cX6_mostNamedPart 44 = .ok (.iload_n 3, 1) := by decide +kernel
theorem dX6_mostNamedPart_45 : decode cX6_mostNamedPart 45 = .ok (.invokevirtual 170, 3) := by decide +kernel
theorem dX6_mostNamedPart_48 : decode cX6_mostNamedPart 48 = .ok (.aload_n 0, 1) := by decide +kernel
theorem dX6_mostNamedPart_49 : decode cX6_mostNamedPart 49 = .ok (.getfield 23, 3) := by decide +kernel
theorem dX6_mostNamedPart_52 : decode cX6_mostNamedPart 52 = .ok (.getfield 108, 3) := by decide +kernel
theorem dX6_mostNamedPart_55 : decode cX6_mostNamedPart 55 = .ok (.iload 5, 2) := by decide +kernel
theorem dX6_mostNamedPart_57 : decode cX6_mostNamedPart 57 = .ok (.if_icmp .le 16, 3) := by decide +kernel
theorem dX6_mostNamedPart_60 : decode cX6_mostNamedPart 60 = .ok (.aload_n 0, 1) := by decide +kernel
theorem dX6_mostNamedPart_61 : decode cX6_mostNamedPart 61 = .ok (.getfield 23, 3) := by decide +kernel
theorem dX6_mostNamedPart_64 : decode cX6_mostNamedPart 64 = .ok (.getfield 108, 3) := by decide +kernel
theorem dX6_mostNamedPart_67 : decode cX6_mostNamedPart 67 = .ok (.istore 5, 2) := by decide +kernel
theorem dX6_mostNamedPart_69 : decode cX6_mostNamedPart 69 = .ok (.iload 7, 2) := by decide +kernel
theorem dX6_mostNamedPart_71 : decode cX6_mostNamedPart 71 = .ok (.istore 6, 2) := by decide +kernel
theorem dX6_mostNamedPart_73 : decode cX6_mostNamedPart 73 = .ok (.iinc 7 1, 3) := by decide +kernel
theorem dX6_mostNamedPart_76 : decode cX6_mostNamedPart 76 = .ok (.goto (-67), 3) := by decide +kernel
theorem dX6_mostNamedPart_79 : decode cX6_mostNamedPart 79 = .ok (.iload 4, 2) := by decide +kernel
theorem dX6_mostNamedPart_81 : decode cX6_mostNamedPart 81 = .ok (.ifCond .ne 8, 3) := by decide +kernel
theorem dX6_mostNamedPart_84 : decode cX6_mostNamedPart 84 = .ok (.iload 6, 2) := by decide +kernel
theorem dX6_mostNamedPart_86 : decode cX6_mostNamedPart 86 = .ok (.goto 13, 3) := by decide +kernel
theorem dX6_mostNamedPart_89 : decode cX6_mostNamedPart 89 = .ok (.iload 5, 2) := by decide +kernel
theorem dX6_mostNamedPart_91 : decode cX6_mostNamedPart 91 = .ok (.aload_n 0, 1) := by decide +kernel
theorem dX6_mostNamedPart_92 : decode cX6_mostNamedPart 92 = .ok (.getfield 10, 3) := by decide +kernel
theorem dX6_mostNamedPart_95 : decode cX6_mostNamedPart 95 = .ok (.getfield 108, 3) := by decide +kernel
theorem dX6_mostNamedPart_98 : decode cX6_mostNamedPart 98 = .ok (.isub, 1) := by decide +kernel
theorem dX6_mostNamedPart_99 : decode cX6_mostNamedPart 99 = .ok (.ireturn, 1) := by decide +kernel
theorem dX6_partsAsSeen_0 : decode cX6_partsAsSeen 0 = .ok (.iconst 0, 1) := by decide +kernel
theorem dX6_partsAsSeen_1 : decode cX6_partsAsSeen 1 = .ok (.istore_n 3, 1) := by decide +kernel
theorem dX6_partsAsSeen_2 : decode cX6_partsAsSeen 2 = .ok (.iconst 0, 1) := by decide +kernel
theorem dX6_partsAsSeen_3 : decode cX6_partsAsSeen 3 = .ok (.istore 4, 2) := by decide +kernel
theorem dX6_partsAsSeen_5 : decode cX6_partsAsSeen 5 = .ok (.iload 4, 2) := by decide +kernel
theorem dX6_partsAsSeen_7 : decode cX6_partsAsSeen 7 = .ok (.iload_n 2, 1) := by decide +kernel
theorem dX6_partsAsSeen_8 : decode cX6_partsAsSeen 8 = .ok (.invokestatic 264, 3) := by decide +kernel
theorem dX6_partsAsSeen_11 : decode cX6_partsAsSeen 11 = .ok (.if_icmp .gt 45, 3) := by decide +kernel
theorem dX6_partsAsSeen_14 : decode cX6_partsAsSeen 14 = .ok (.aload_n 0, 1) := by decide +kernel
theorem dX6_partsAsSeen_15 : decode cX6_partsAsSeen 15 = .ok (.getfield 23, 3) := by decide +kernel
theorem dX6_partsAsSeen_18 : decode cX6_partsAsSeen 18 = .ok (.aload_n 0, 1) := by decide +kernel
theorem dX6_partsAsSeen_19 : decode cX6_partsAsSeen 19 = .ok (.getfield 10, 3) := by decide +kernel
theorem dX6_partsAsSeen_22 : decode cX6_partsAsSeen 22 = .ok (.invokevirtual 85, 3) := by decide +kernel
theorem dX6_partsAsSeen_25 : decode cX6_partsAsSeen 25 = .ok (.aload_n 0, 1) := by decide +kernel
theorem dX6_partsAsSeen_26 : decode cX6_partsAsSeen 26 = .ok (.getfield 23, 3) := by decide +kernel
theorem dX6_partsAsSeen_29 : decode cX6_partsAsSeen 29 = .ok (.iload_n 1, 1) := by decide +kernel
theorem dX6_partsAsSeen_30 : decode cX6_partsAsSeen 30 = .ok (.iload_n 2, 1) := by decide +kernel
theorem dX6_partsAsSeen_31 : decode cX6_partsAsSeen 31 = .ok (.iload 4, 2) := by decide +kernel
theorem dX6_partsAsSeen_33 : decode cX6_partsAsSeen 33 = .ok (.invokevirtual 162, 3) := by decide +kernel
theorem dX6_partsAsSeen_36 : decode cX6_partsAsSeen 36 = .ok (.aload_n 0, 1) := by decide +kernel
theorem dX6_partsAsSeen_37 : decode cX6_partsAsSeen 37 = .ok (.invokevirtual 272, 3) := by decide +kernel
theorem dX6_partsAsSeen_40 : decode cX6_partsAsSeen 40 = .ok (.ifCond .eq 10, 3) := by decide +kernel
theorem dX6_partsAsSeen_43 : decode cX6_partsAsSeen 43 = .ok (.iload_n 3, 1) := by decide +kernel
theorem dX6_partsAsSeen_44 : decode cX6_partsAsSeen 44 = .ok (.iconst 1, 1) := by decide +kernel
theorem dX6_partsAsSeen_45 : decode cX6_partsAsSeen 45 = .ok (.iload 4, 2) := by decide +kernel
theorem dX6_partsAsSeen_47 : decode cX6_partsAsSeen 47 = .ok (.ishl, 1) := by decide +kernel
theorem dX6_partsAsSeen_48 : decode cX6_partsAsSeen 48 = .ok (.ior, 1) := by decide +kernel
theorem dX6_partsAsSeen_49 : decode cX6_partsAsSeen 49 = .ok (.istore_n 3, 1) := by decide +kernel
theorem dX6_partsAsSeen_50 : decode cX6_partsAsSeen 50 = .ok (.iinc 4 1, 3) := by decide +kernel
theorem dX6_partsAsSeen_53 : decode cX6_partsAsSeen 53 = .ok (.goto (-48), 3) := by decide +kernel
theorem dX6_partsAsSeen_56 : decode cX6_partsAsSeen 56 = .ok (.iload_n 3, 1) := by decide +kernel
theorem dX6_partsAsSeen_57 : decode cX6_partsAsSeen 57 = .ok (.ireturn, 1) := by decide +kernel
theorem dX6_trialGoesAsSeen_0 : decode cX6_trialGoesAsSeen 0 = .ok (.aload_n 0, 1) := by decide +kernel
theorem dX6_trialGoesAsSeen_1 : decode cX6_trialGoesAsSeen 1 = .ok (.getfield 19, 3) := by decide +kernel
theorem dX6_trialGoesAsSeen_4 : decode cX6_trialGoesAsSeen 4 = .ok (.invokevirtual 275, 3) := by decide +kernel
theorem dX6_trialGoesAsSeen_7 : decode cX6_trialGoesAsSeen 7 = .ok (.istore_n 1, 1) := by decide +kernel
theorem dX6_trialGoesAsSeen_8 : decode cX6_trialGoesAsSeen 8 = .ok (.iconst 0, 1) := by decide +kernel
theorem dX6_trialGoesAsSeen_9 : decode cX6_trialGoesAsSeen 9 = .ok (.istore_n 2, 1) := by decide +kernel
theorem dX6_trialGoesAsSeen_10 : decode cX6_trialGoesAsSeen 10 = .ok (.iload_n 2, 1) := by decide +kernel
theorem dX6_trialGoesAsSeen_11 : decode cX6_trialGoesAsSeen 11 = .ok (.iload_n 1, 1) := by decide +kernel
theorem dX6_trialGoesAsSeen_12 : decode cX6_trialGoesAsSeen 12 = .ok (.if_icmp .gt 34, 3) := by decide +kernel
theorem dX6_trialGoesAsSeen_15 : decode cX6_trialGoesAsSeen 15 = .ok (.aload_n 0, 1) := by decide +kernel
theorem dX6_trialGoesAsSeen_16 : decode cX6_trialGoesAsSeen 16 = .ok (.getfield 19, 3) := by decide +kernel
theorem dX6_trialGoesAsSeen_19 : decode cX6_trialGoesAsSeen 19 = .ok (.iload_n 2, 1) := by decide +kernel
theorem dX6_trialGoesAsSeen_20 : decode cX6_trialGoesAsSeen 20 = .ok (.aload_n 0, 1) := by decide +kernel
theorem dX6_trialGoesAsSeen_21 : decode cX6_trialGoesAsSeen 21 = .ok (.getfield 23, 3) := by decide +kernel
theorem dX6_trialGoesAsSeen_24 : decode cX6_trialGoesAsSeen 24 = .ok (.invokevirtual 278, 3) := by decide +kernel
theorem dX6_trialGoesAsSeen_27 : decode cX6_trialGoesAsSeen 27 = .ok (.ifCond .ne 5, 3) := by decide +kernel
theorem dX6_trialGoesAsSeen_30 : decode cX6_trialGoesAsSeen 30 = .ok (.iconst 0, 1) := by decide +kernel
theorem dX6_trialGoesAsSeen_31 : decode cX6_trialGoesAsSeen 31 = .ok (.ireturn, 1) := by decide +kernel
