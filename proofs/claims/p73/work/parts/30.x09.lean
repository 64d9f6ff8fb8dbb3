theorem dX0_allRules_0 : decode cX0_allRules 0 = .ok (.iconst 0, 1) := by decide +kernel
theorem dX0_allRules_1 : decode cX0_allRules 1 = .ok (.istore_n 1, 1) := by decide +kernel
theorem dX0_allRules_2 : decode cX0_allRules 2 = .ok (.iconst 0, 1) := by decide +kernel
theorem dX0_allRules_3 : decode cX0_allRules 3 = .ok (.istore_n 2, 1) := by decide +kernel
theorem dX0_allRules_4 : decode cX0_allRules 4 = .ok (.iload_n 2, 1) := by decide +kernel
theorem dX0_allRules_5 : decode cX0_allRules 5 = .ok (.aload_n 0, 1) := by decide +kernel
theorem dX0_allRules_6 : decode cX0_allRules 6 = .ok (.getfield 58, 3) := by decide +kernel
theorem dX0_allRules_9 : decode cX0_allRules 9 = .ok (.if_icmp .ge 18, 3) := by decide +kernel
theorem dX0_allRules_12 : decode cX0_allRules 12 = .ok (.iload_n 1, 1) := by decide +kernel
theorem dX0_allRules_13 : decode cX0_allRules 13 = .ok (.aload_n 0, 1) := by decide +kernel
theorem dX0_allRules_14 : decode cX0_allRules 14 = .ok (.getfield 18, 3) := by decide +kernel
theorem dX0_allRules_17 : decode cX0_allRules 17 = .ok (.iload_n 2, 1) := by decide +kernel
theorem dX0_allRules_18 : decode cX0_allRules 18 = .ok (.iaload, 1) := by decide +kernel
theorem dX0_allRules_19 : decode cX0_allRules 19 = .ok (.iadd, 1) := by decide +kernel
theorem dX0_allRules_20 : decode cX0_allRules 20 = .ok (.istore_n 1, 1) := by decide +kernel
theorem dX0_allRules_21 : decode cX0_allRules 21 = .ok (.iinc 2 1, 3) := by decide +kernel
theorem dX0_allRules_24 : decode cX0_allRules 24 = .ok (.goto (-20), 3) := by decide +kernel
theorem dX0_allRules_27 : decode cX0_allRules 27 = .ok (.iload_n 1, 1) := by decide +kernel
theorem dX0_allRules_28 : decode cX0_allRules 28 = .ok (.ireturn, 1) := by decide +kernel
theorem dX0_takeBackAct_0 : decode cX0_takeBackAct 0 = .ok (.aload_n 0, 1) := by decide +kernel
theorem dX0_takeBackAct_1 : decode cX0_takeBackAct 1 = .ok (.getfield 64, 3) := by decide +kernel
theorem dX0_takeBackAct_4 : decode cX0_takeBackAct 4 = .ok (.ifCond .gt 4, 3) := by decide +kernel
theorem dX0_takeBackAct_7 : decode cX0_takeBackAct 7 = .ok (.return_, 1) := by decide +kernel
theorem dX0_takeBackAct_8 : decode cX0_takeBackAct 8 = .ok (.aload_n 0, 1) := by decide +kernel
theorem dX0_takeBackAct_9 : decode cX0_takeBackAct 9 = .ok (.dup, 1) := by decide +kernel
theorem dX0_takeBackAct_10 : decode cX0_takeBackAct 10 = .ok (.getfield 64, 3) := by decide +kernel
theorem dX0_takeBackAct_13 : decode cX0_takeBackAct 13 = .ok (.iconst 1, 1) := by decide +kernel
theorem dX0_takeBackAct_14 : decode cX0_takeBackAct 14 = .ok (.isub, 1) := by decide +kernel
theorem dX0_takeBackAct_15 : decode cX0_takeBackAct 15 = .ok (.putfield 64, 3) := by decide +kernel
theorem dX0_takeBackAct_18 : decode cX0_takeBackAct 18 = .ok (.aload_n 0, 1) := by decide +kernel
theorem dX0_takeBackAct_19 : decode cX0_takeBackAct 19 = .ok (.getfield 33, 3) := by decide +kernel
theorem dX0_takeBackAct_22 : decode cX0_takeBackAct 22 = .ok (.aload_n 0, 1) := by decide +kernel
theorem dX0_takeBackAct_23 : decode cX0_takeBackAct 23 = .ok (.getfield 64, 3) := by decide +kernel
theorem dX0_takeBackAct_26 : decode cX0_takeBackAct 26 = .ok (.iaload, 1) := by decide +kernel
theorem dX0_takeBackAct_27 : decode cX0_takeBackAct 27 = .ok (.iconst (-1), 1) := by decide +kernel
theorem dX0_takeBackAct_28 : decode cX0_takeBackAct 28 = .ok (.if_icmp .ne 19, 3) := by decide +kernel
theorem dX0_takeBackAct_31 : decode cX0_takeBackAct 31 = .ok (.aload_n 0, 1) := by decide +kernel
theorem dX0_takeBackAct_32 : decode cX0_takeBackAct 32 = .ok (.aload_n 0, 1) := by decide +kernel
theorem dX0_takeBackAct_33 : decode cX0_takeBackAct 33 = .ok (.getfield 36, 3) := by decide +kernel
theorem dX0_takeBackAct_36 : decode cX0_takeBackAct 36 = .ok (.aload_n 0, 1) := by decide +kernel
theorem dX0_takeBackAct_37 : decode cX0_takeBackAct 37 = .ok (.getfield 64, 3) := by decide +kernel
theorem dX0_takeBackAct_40 : decode cX0_takeBackAct 40 = .ok (.iaload, 1) := by decide +kernel
theorem dX0_takeBackAct_41 : decode cX0_takeBackAct 41 = .ok (.putfield 52, 3) := by decide +kernel
theorem dX0_takeBackAct_44 : decode cX0_takeBackAct 44 = .ok (.goto 34, 3) := by decide +kernel
theorem dX0_takeBackAct_47 : decode cX0_takeBackAct 47 = .ok (.aload_n 0, 1) := by decide +kernel
theorem dX0_takeBackAct_48 : decode cX0_takeBackAct 48 = .ok (.aload_n 0, 1) := by decide +kernel
theorem dX0_takeBackAct_49 : decode cX0_takeBackAct 49 = .ok (.getfield 33, 3) := by decide +kernel
theorem dX0_takeBackAct_52 : decode cX0_takeBackAct 52 = .ok (.aload_n 0, 1) := by decide +kernel
theorem dX0_takeBackAct_53 : decode cX0_takeBackAct 53 = .ok (.getfield 64, 3) := by decide +kernel
theorem dX0_takeBackAct_56 : decode cX0_takeBackAct 56 = .ok (.iaload, 1) := by decide +kernel
theorem dX0_takeBackAct_57 : decode cX0_takeBackAct 57 = .ok (.aload_n 0, 1) := by decide +kernel
theorem dX0_takeBackAct_58 : decode cX0_takeBackAct 58 = .ok (.getfield 36, 3) := by decide +kernel
theorem dX0_takeBackAct_61 : decode cX0_takeBackAct 61 = .ok (.aload_n 0, 1) := by decide +kernel
theorem dX0_takeBackAct_62 : decode cX0_takeBackAct 62 = .ok (.getfield 64, 3) := by decide +kernel
theorem dX0_takeBackAct_65 : decode cX0_takeBackAct 65 = .ok (.iaload, 1) := by decide +kernel
theorem dX0_takeBackAct_66 : decode cX0_takeBackAct 66 = .ok (.aload_n 0, 1) := by decide +kernel
theorem dX0_takeBackAct_67 : decode cX0_takeBackAct 67 = .ok (.getfield 39, 3) := by decide +kernel
theorem dX0_takeBackAct_70 : decode cX0_takeBackAct 70 = .ok (.aload_n 0, 1) := by decide +kernel
theorem dX0_takeBackAct_71 : decode cX0_takeBackAct 71 = .ok (.getfield 64, 3) := by decide +kernel
theorem dX0_takeBackAct_74 : decode cX0_takeBackAct 74 = .ok (.iaload, 1) := by decide +kernel
theorem dX0_takeBackAct_75 : decode cX0_takeBackAct 75 = .ok (.invokevirtual 89, 3) := by decide +kernel
theorem dX0_takeBackAct_78 : decode cX0_takeBackAct 78 = .ok (.return_, 1) := by decide +kernel
theorem dX11_anew_0 : decode cX11_anew 0 = .ok (.aload_n 0, 1) := by decide +kernel
theorem dX11_anew_1 : decode cX11_anew 1 = .ok (.getfield 28, 3) := by decide +kernel
theorem dX11_anew_4 : decode cX11_anew 4 = .ok (.getfield 109, 3) := by decide +kernel
theorem dX11_anew_7 : decode cX11_anew 7 = .ok (.getfield 112, 3) := by decide +kernel
theorem dX11_anew_10 : decode cX11_anew 10 = .ok (.ifCond .ne 6, 3) := by decide +kernel
theorem dX11_anew_13 : decode cX11_anew 13 = .ok (.bipush (-2), 2) := by decide +kernel
theorem dX11_anew_15 : decode cX11_anew 15 = .ok (.ireturn, 1) := by decide +kernel
theorem dX11_anew_16 : decode cX11_anew 16 = .ok (.aload_n 0, 1) := by decide +kernel
theorem dX11_anew_17 : decode cX11_anew 17 = .ok (.getfield 28, 3) := by decide +kernel
theorem dX11_anew_20 : decode cX11_anew 20 = .ok (.getfield 109, 3) := by decide +kernel
theorem dX11_anew_23 : decode cX11_anew 23 = .ok (.getfield 354, 3) := by decide +kernel
theorem dX11_anew_26 : decode cX11_anew 26 = .ok (.istore_n 1, 1) := by decide +kernel
theorem dX11_anew_27 : decode cX11_anew 27 = .ok (.iconst 0, 1) := by decide +kernel
theorem dX11_anew_28 : decode cX11_anew 28 = .ok (.istore_n 2, 1) := by decide +kernel
theorem dX11_anew_29 : decode cX11_anew 29 = .ok (.iload_n 2, 1) := by decide +kernel
theorem dX11_anew_30 : decode cX11_anew 30 = .ok (.iload_n 1, 1) := by decide +kernel
theorem dX11_anew_31 : decode cX11_anew 31 = .ok (.if_icmp .ge 19, 3) := by decide +kernel
theorem dX11_anew_34 : decode cX11_anew 34 = .ok (.aload_n 0, 1) := by decide +kernel
theorem dX11_anew_35 : decode cX11_anew 35 = .ok (.getfield 28, 3) := by decide +kernel
theorem dX11_anew_38 : decode cX11_anew 38 = .ok (.getfield 109, 3) := by decide +kernel
theorem dX11_anew_41 : decode cX11_anew 41 = .ok (.invokevirtual 367, 3) := by decide +kernel
theorem dX11_anew_44 : decode cX11_anew 44 = .ok (.iinc 2 1, 3) := by decide +kernel
theorem dX11_anew_47 : decode cX11_anew 47 = .ok (.goto (-18), 3) := by decide +kernel
theorem dX11_anew_50 : decode cX11_anew 50 = .ok (.iload_n 1, 1) := by decide +kernel
theorem dX11_anew_51 : decode cX11_anew 51 = .ok (.ireturn, 1) := by decide +kernel
theorem dX11_count_0 : decode cX11_count 0 = .ok (.iload_n 1, 1) := by decide +kernel
theorem dX11_count_1 : decode cX11_count 1 = .ok (.tableswitch 156 0 9 #[55, 66, 77, 88, 99, 110, 121, 132, 143, 151], 55) := by decide +kernel
theorem dX11_count_56 : decode cX11_count 56 = .ok (.aload_n 0, 1) := by decide +kernel
theorem dX11_count_57 : decode cX11_count 57 = .ok (.getfield 28, 3) := by decide +kernel
theorem dX11_count_60 : decode cX11_count 60 = .ok (.getfield 109, 3) := by decide +kernel
theorem dX11_count_63 : decode cX11_count 63 = .ok (.getfield 376, 3) := by decide +kernel
theorem dX11_count_66 : decode cX11_count 66 = .ok (.ireturn, 1) := by decide +kernel
theorem dX11_count_67 : decode cX11_count 67 = .ok (.aload_n 0, 1) := by decide +kernel
theorem dX11_count_68 : decode cX11_count 68 = .ok (.getfield 28, 3) := by decide +kernel
theorem dX11_count_71 : decode cX11_count 71 = .ok (.getfield 109, 3) := by decide +kernel
theorem dX11_count_74 : decode cX11_count 74 = .ok (.getfield 379, 3) := by decide +kernel
theorem dX11_count_77 : decode cX11_count 77 = .ok (.ireturn, 1) := by decide +kernel
theorem dX11_count_78 : decode cX11_count 78 = .ok (.aload_n 0, 1) := by decide +kernel
theorem dX11_count_79 : decode cX11_count 79 = .ok (.getfield 28, 3) := by decide +kernel
theorem dX11_count_82 : decode cX11_count 82 = .ok (.getfield 109, 3) := by decide +kernel
theorem dX11_count_85 : decode cX11_count 85 = .ok (.getfield 180, 3) := by decide +kernel
theorem dX11_count_88 : decode cX11_count 88 = .ok (.ireturn, 1) := by decide +kernel
theorem dX11_count_89 : decode cX11_count 89 = .ok (.aload_n 0, 1) := by decide +kernel
theorem dX11_count_90 : decode cX11_count 90 = .ok (.getfield 28, 3) := by decide +kernel
theorem dX11_count_93 : decode cX11_count 93 = .ok (.getfield 109, 3) := by decide +kernel
theorem dX11_count_96 : decode cX11_count 96 = .ok (.getfield 309, 3) := by decide +kernel
theorem dX11_count_99 : decode cX11_count 99 = .ok (.ireturn, 1) := by decide +kernel
theorem dX11_count_100 : decode cX11_count 100 = .ok (.aload_n 0, 1) := by decide +kernel
theorem dX11_count_101 : decode cX11_count 101 = .ok (.getfield 28, 3) := by decide +kernel
theorem dX11_count_104 : decode cX11_count 104 = .ok (.getfield 109, 3) := by decide +kernel
theorem dX11_count_107 : decode cX11_count 107 = .ok (.invokevirtual 382, 3) := by decide +kernel
theorem dX11_count_110 : decode cX11_count 110 = .ok (.ireturn, 1) := by decide +kernel
theorem dX11_count_111 : decode cX11_count 111 = .ok (.aload_n 0, 1) := by decide +kernel
theorem dX11_count_112 : decode cX11_count 112 = .ok (.getfield 28, 3) := by decide +kernel
theorem dX11_count_115 : decode cX11_count 115 = .ok (.getfield 109, 3) := by decide +kernel
theorem dX11_count_118 : decode cX11_count 118 = .ok (.getfield 251, 3) := by decide +kernel
theorem dX11_count_121 : decode cX11_count 121 = .ok (.ireturn, 1) := by decide +kernel
theorem dX11_count_122 : decode cX11_count 122 = .ok (.aload_n 0, 1) := by decide +kernel
theorem dX11_count_123 : decode cX11_count 123 = .ok (.getfield 28, 3) := by decide +kernel
theorem dX11_count_126 : decode cX11_count 126 = .ok (.getfield 109, 3) := by decide +kernel
theorem dX11_count_129 : decode cX11_count 129 = .ok (.getfield 354, 3) := by decide +kernel
theorem dX11_count_132 : decode cX11_count 132 = .ok (.ireturn, 1) := by decide +kernel
theorem dX11_count_133 : decode cX11_count 133 = .ok (.aload_n 0, 1) := by decide +kernel
theorem dX11_count_134 : decode cX11_count 134 = .ok (.getfield 28, 3) := by decide +kernel
theorem dX11_count_137 : decode cX11_count 137 = .ok (.getfield 109, 3) := by decide +kernel
theorem dX11_count_140 : decode cX11_count 140 = .ok (.getfield 112, 3) := by decide +kernel
theorem dX11_count_143 : decode cX11_count 143 = .ok (.ireturn, 1) := by decide +kernel
theorem dX11_count_144 : decode cX11_count 144 = .ok (.aload_n 0, 1) := by decide +kernel
theorem dX11_count_145 : decode cX11_count 145 = .ok (.getfield 10, 3) := by decide +kernel
theorem dX11_count_148 : decode cX11_count 148 = .ok (.getfield 89, 3) := by decide +kernel
theorem dX11_count_151 : decode cX11_count 151 = .ok (.ireturn, 1) := by decide +kernel
theorem dX11_count_152 : decode cX11_count 152 = .ok (.aload_n 0, 1) := by decide +kernel
theorem dX11_count_153 : decode cX11_count 153 = .ok (.invokevirtual 385, 3) := by decide +kernel
theorem dX11_count_156 : decode cX11_count 156 = .ok (.ireturn, 1) := by decide +kernel
theorem dX11_count_157 : decode cX11_count 157 = .ok (.iconst (-1), 1) := by decide +kernel
theorem dX11_count_158 : decode cX11_count 158 = .ok (.ireturn, 1) := by decide +kernel
theorem dX11_drawn_0 : decode cX11_drawn 0 = .ok (.aload_n 0, 1) := by decide +kernel
theorem dX11_drawn_1 : decode cX11_drawn 1 = .ok (.getfield 28, 3) := by decide +kernel
theorem dX11_drawn_4 : decode cX11_drawn 4 = .ok (.getfield 109, 3) := by decide +kernel
theorem dX11_drawn_7 : decode cX11_drawn 7 = .ok (.getfield 112, 3) := by decide +kernel
theorem dX11_drawn_10 : decode cX11_drawn 10 = .ok (.ifCond .eq 17, 3) := by decide +kernel
theorem dX11_drawn_13 : decode cX11_drawn 13 = .ok (.iload_n 1, 1) := by decide +kernel
theorem dX11_drawn_14 : decode cX11_drawn 14 = .ok (.invokestatic 370, 3) := by decide +kernel
theorem dX11_drawn_17 : decode cX11_drawn 17 = .ok (.ifCond .eq 10, 3) := by decide +kernel
theorem dX11_drawn_20 : decode cX11_drawn 20 = .ok (.iload_n 2, 1) := by decide +kernel
theorem dX11_drawn_21 : decode cX11_drawn 21 = .ok (.invokestatic 341, 3) := by decide +kernel
theorem dX11_drawn_24 : decode cX11_drawn 24 = .ok (.ifCond .ne 6, 3) := by decide +kernel
theorem dX11_drawn_27 : decode cX11_drawn 27 = .ok (.bipush (-2), 2) := by decide +kernel
theorem dX11_drawn_29 : decode cX11_drawn 29 = .ok (.ireturn, 1) := by decide +kernel
theorem dX11_drawn_30 : decode cX11_drawn 30 = .ok (.aload_n 0, 1) := by decide +kernel
theorem dX11_drawn_31 : decode cX11_drawn 31 = .ok (.getfield 85, 3) := by decide +kernel
theorem dX11_drawn_34 : decode cX11_drawn 34 = .ok (.iload_n 1, 1) := by decide +kernel
theorem dX11_drawn_35 : decode cX11_drawn 35 = .ok (.iload_n 2, 1) := by decide +kernel
theorem dX11_drawn_36 : decode cX11_drawn 36 = .ok (.invokevirtual 373, 3) := by decide +kernel
theorem dX11_drawn_39 : decode cX11_drawn 39 = .ok (.ireturn, 1) := by decide +kernel
theorem dX11_image_0 : decode cX11_image 0 = .ok (.iload_n 1, 1) := by decide +kernel
theorem dX11_image_1 : decode cX11_image 1 = .ok (.ifCond .lt 8, 3) := by decide +kernel
theorem dX11_image_4 : decode cX11_image 4 = .ok (.iload_n 1, 1) := by decide +kernel
theorem dX11_image_5 : decode cX11_image 5 = .ok (.iconst 3, 1) := by decide +kernel
theorem dX11_image_6 : decode cX11_image 6 = .ok (.if_icmp .lt 6, 3) := by decide +kernel
theorem dX11_image_9 : decode cX11_image 9 = .ok (.bipush (-2), 2) := by decide +kernel
theorem dX11_image_11 : decode cX11_image 11 = .ok (.ireturn, 1) := by decide +kernel
theorem dX11_image_12 : decode cX11_image 12 = .ok (.aload_n 0, 1) := by decide +kernel
theorem dX11_image_13 : decode cX11_image 13 = .ok (.getfield 34, 3) := by decide +kernel
theorem dX11_image_16 : decode cX11_image 16 = .ok (.iload_n 1, 1) := by decide +kernel
theorem dX11_image_17 : decode cX11_image 17 = .ok (.aaload, 1) := by decide +kernel
theorem dX11_image_18 : decode cX11_image 18 = .ok (.aload_n 0, 1) := by decide +kernel
theorem dX11_image_19 : decode cX11_image 19 = .ok (.getfield 28, 3) := by decide +kernel
theorem dX11_image_22 : decode cX11_image 22 = .ok (.getfield 109, 3) := by decide +kernel
theorem dX11_image_25 : decode cX11_image 25 = .ok (.invokevirtual 388, 3) := by decide +kernel
theorem dX11_image_28 : decode cX11_image 28 = .ok (.aload_n 0, 1) := by decide +kernel
theorem dX11_image_29 : decode cX11_image 29 = .ok (.getfield 39, 3) := by decide +kernel
theorem dX11_image_32 : decode cX11_image 32 = .ok (.iload_n 1, 1) := by decide +kernel
theorem dX11_image_33 : decode cX11_image 33 = .ok (.iconst 1, 1) := by decide +kernel
theorem dX11_image_34 : decode cX11_image 34 = .ok (.bastore, 1) := by decide +kernel
theorem dX11_image_35 : decode cX11_image 35 = .ok (.iconst 0, 1) := by decide +kernel
theorem dX11_image_36 : decode cX11_image 36 = .ok (.ireturn, 1) := by decide +kernel
theorem dX11_isSeed_0 : decode cX11_isSeed 0 = .ok (.iload_n 0, 1) := by decide +kernel
theorem dX11_isSeed_1 : decode cX11_isSeed 1 = .ok (.ifCond .lt 14, 3) := by decide +kernel
theorem dX11_isSeed_4 : decode cX11_isSeed 4 = .ok (.iload_n 0, 1) := by decide +kernel
theorem dX11_isSeed_5 : decode cX11_isSeed 5 = .ok (.ldc_w 419, 3) := by decide +kernel
theorem dX11_isSeed_8 : decode cX11_isSeed 8 = .ok (.if_icmp .gt 7, 3) := by decide +kernel
theorem dX11_isSeed_11 : decode cX11_isSeed 11 = .ok (.iconst 1, 1) := by decide +kernel
theorem dX11_isSeed_12 : decode cX11_isSeed 12 = .ok (.goto 4, 3) := by decide +kernel
theorem dX11_isSeed_15 : decode cX11_isSeed 15 = .ok (.iconst 0, 1) := by decide +kernel
theorem dX11_isSeed_16 : decode cX11_isSeed 16 = .ok (.ireturn, 1) := by decide +kernel
theorem dX11_luck_0 : decode cX11_luck 0 = .ok (.iload_n 1, 1) := by decide +kernel
theorem dX11_luck_1 : decode cX11_luck 1 = .ok (.invokestatic 370, 3) := by decide +kernel
theorem dX11_luck_4 : decode cX11_luck 4 = .ok (.ifCond .eq 26, 3) := by decide +kernel
theorem dX11_luck_7 : decode cX11_luck 7 = .ok (.iload_n 2, 1) := by decide +kernel
theorem dX11_luck_8 : decode cX11_luck 8 = .ok (.iconst 1, 1) := by decide +kernel
theorem dX11_luck_9 : decode cX11_luck 9 = .ok (.if_icmp .lt 21, 3) := by decide +kernel
theorem dX11_luck_12 : decode cX11_luck 12 = .ok (.iload_n 2, 1) := by decide +kernel
theorem dX11_luck_13 : decode cX11_luck 13 = .ok (.bipush 20, 2) := by decide +kernel
theorem dX11_luck_15 : decode cX11_luck 15 = .ok (.if_icmp .gt 15, 3) := by decide +kernel
theorem dX11_luck_18 : decode cX11_luck 18 = .ok (.aload_n 0, 1) := by decide +kernel
theorem dX11_luck_19 : decode cX11_luck 19 = .ok (.iload_n 3, 1) := by decide +kernel
theorem dX11_luck_20 : decode cX11_luck 20 = .ok (.iload 4, 2) := by decide +kernel
theorem dX11_luck_22 : decode cX11_luck 22 = .ok (.iload 5, 2) := by decide +kernel
theorem dX11_luck_24 : decode cX11_luck 24 = .ok (.invokevirtual 191, 3) := by decide +kernel
theorem dX11_luck_27 : decode cX11_luck 27 = .ok (.ifCond .ne 6, 3) := by decide +kernel
theorem dX11_luck_30 : decode cX11_luck 30 = .ok (.bipush (-2), 2) := by decide +kernel
theorem dX11_luck_32 : decode cX11_luck 32 = .ok (.ireturn, 1) := by decide +kernel
theorem dX11_luck_33 : decode cX11_luck 33 = .ok (.iconst 0, 1) := by decide +kernel
theorem dX11_luck_34 : decode cX11_luck 34 = .ok (.istore 6, 2) := by decide +kernel
theorem dX11_luck_36 : decode cX11_luck 36 = .ok (.iconst 0, 1) := by decide +kernel
theorem dX11_luck_37 : decode cX11_luck 37 = .ok (.istore 7, 2) := by decide +kernel
theorem dX11_luck_39 : decode cX11_luck 39 = .ok (.iload 7, 2) := by decide +kernel
theorem dX11_luck_41 : decode cX11_luck 41 = .ok (.iload_n 2, 1) := by decide +kernel
theorem dX11_luck_42 : decode cX11_luck 42 = .ok (.if_icmp .ge 41, 3) := by decide +kernel
theorem dX11_luck_45 : decode cX11_luck 45 = .ok (.aload_n 0, 1) := by decide +kernel
theorem dX11_luck_46 : decode cX11_luck 46 = .ok (.getfield 28, 3) := by decide +kernel
theorem dX11_luck_49 : decode cX11_luck 49 = .ok (.iload_n 3, 1) := by decide +kernel
theorem dX11_luck_50 : decode cX11_luck 50 = .ok (.iload 4, 2) := by decide +kernel
theorem dX11_luck_52 : decode cX11_luck 52 = .ok (.aload_n 0, 1) := by decide +kernel
theorem dX11_luck_53 : decode cX11_luck 53 = .ok (.getfield 85, 3) := by decide +kernel
theorem dX11_luck_56 : decode cX11_luck 56 = .ok (.iload_n 1, 1) := by decide +kernel
theorem dX11_luck_57 : decode cX11_luck 57 = .ok (.iload 7, 2) := by decide +kernel
theorem dX11_luck_59 : decode cX11_luck 59 = .ok (.iadd, 1) := by decide +kernel
theorem dX11_luck_60 : decode cX11_luck 60 = .ok (.bipush 7, 2) := by decide +kernel
theorem dX11_luck_62 : decode cX11_luck 62 = .ok (.invokevirtual 373, 3) := by decide +kernel
theorem dX11_luck_65 : decode cX11_luck 65 = .ok (.iadd, 1) := by decide +kernel
theorem dX11_luck_66 : decode cX11_luck 66 = .ok (.iload 5, 2) := by decide +kernel
theorem dX11_luck_68 : decode cX11_luck 68 = .ok (.invokevirtual 230, 3) := by decide +kernel
theorem dX11_luck_71 : decode cX11_luck 71 = .ok (.ifCond .eq 6, 3) := by decide +kernel
theorem dX11_luck_74 : decode cX11_luck 74 = .ok (.iinc 6 1, 3) := by decide +kernel
theorem dX11_luck_77 : decode cX11_luck 77 = .ok (.iinc 7 1, 3) := by decide +kernel
theorem dX11_luck_80 : decode cX11_luck 80 = .ok (.goto (-41), 3) := by decide +kernel
theorem dX11_luck_83 : decode cX11_luck 83 = .ok (.iload 6, 2) := by decide +kernel
theorem dX11_luck_85 : decode cX11_luck 85 = .ok (.ireturn, 1) := by decide +kernel
theorem dX11_rate_0 : decode cX11_rate 0 = .ok (.aload_n 0, 1) := by decide +kernel
theorem dX11_rate_1 : decode cX11_rate 1 = .ok (.iload_n 1, 1) := by decide +kernel
theorem dX11_rate_2 : decode cX11_rate 2 = .ok (.invokevirtual 121, 3) := by decide +kernel
theorem dX11_rate_5 : decode cX11_rate 5 = .ok (.ifCond .eq 29, 3) := by decide +kernel
theorem dX11_rate_8 : decode cX11_rate 8 = .ok (.aload_n 0, 1) := by decide +kernel
theorem dX11_rate_9 : decode cX11_rate 9 = .ok (.getfield 28, 3) := by decide +kernel
theorem dX11_rate_12 : decode cX11_rate 12 = .ok (.getfield 109, 3) := by decide +kernel
theorem dX11_rate_15 : decode cX11_rate 15 = .ok (.getfield 128, 3) := by decide +kernel
theorem dX11_rate_18 : decode cX11_rate 18 = .ok (.iload_n 1, 1) := by decide +kernel
theorem dX11_rate_19 : decode cX11_rate 19 = .ok (.iaload, 1) := by decide +kernel
theorem dX11_rate_20 : decode cX11_rate 20 = .ok (.iconst 1, 1) := by decide +kernel
theorem dX11_rate_21 : decode cX11_rate 21 = .ok (.if_icmp .gt 13, 3) := by decide +kernel
theorem dX11_rate_24 : decode cX11_rate 24 = .ok (.iload_n 2, 1) := by decide +kernel
theorem dX11_rate_25 : decode cX11_rate 25 = .ok (.ifCond .lt 9, 3) := by decide +kernel
theorem dX11_rate_28 : decode cX11_rate 28 = .ok (.iload_n 2, 1) := by decide +kernel
theorem dX11_rate_29 : decode cX11_rate 29 = .ok (.bipush 99, 2) := by decide +kernel
theorem dX11_rate_31 : decode cX11_rate 31 = .ok (.if_icmp .le 6, 3) := by decide +kernel
theorem dX11_rate_34 : decode cX11_rate 34 = .ok (.bipush (-2), 2) := by decide +kernel
theorem dX11_rate_36 : decode cX11_rate 36 = .ok (.ireturn, 1) := by decide +kernel
theorem dX11_rate_37 : decode cX11_rate 37 = .ok (.aload_n 0, 1) := by decide +kernel
theorem dX11_rate_38 : decode cX11_rate 38 = .ok (.getfield 28, 3) := by decide +kernel
theorem dX11_rate_41 : decode cX11_rate 41 = .ok (.getfield 109, 3) := by decide +kernel
theorem dX11_rate_44 : decode cX11_rate 44 = .ok (.getfield 354, 3) := by decide +kernel
theorem dX11_rate_47 : decode cX11_rate 47 = .ok (.ifCond .le 6, 3) := by decide +kernel
theorem dX11_rate_50 : decode cX11_rate 50 = .ok (.bipush (-5), 2) := by decide +kernel
theorem dX11_rate_52 : decode cX11_rate 52 = .ok (.ireturn, 1) := by decide +kernel
theorem dX11_rate_53 : decode cX11_rate 53 = .ok (.aload_n 0, 1) := by decide +kernel
theorem dX11_rate_54 : decode cX11_rate 54 = .ok (.getfield 28, 3) := by decide +kernel
theorem dX11_rate_57 : decode cX11_rate 57 = .ok (.getfield 109, 3) := by decide +kernel
theorem dX11_rate_60 : decode cX11_rate 60 = .ok (.getfield 132, 3) := by decide +kernel
theorem dX11_rate_63 : decode cX11_rate 63 = .ok (.iload_n 1, 1) := by decide +kernel
theorem dX11_rate_64 : decode cX11_rate 64 = .ok (.iaload, 1) := by decide +kernel
theorem dX11_rate_65 : decode cX11_rate 65 = .ok (.istore_n 3, 1) := by decide +kernel
theorem dX11_rate_66 : decode cX11_rate 66 = .ok (.aload_n 0, 1) := by decide +kernel
theorem dX11_rate_67 : decode cX11_rate 67 = .ok (.getfield 28, 3) := by decide +kernel
theorem dX11_rate_70 : decode cX11_rate 70 = .ok (.getfield 109, 3) := by decide +kernel
theorem dX11_rate_73 : decode cX11_rate 73 = .ok (.getfield 132, 3) := by decide +kernel
theorem dX11_rate_76 : decode cX11_rate 76 = .ok (.iload_n 1, 1) := by decide +kernel
theorem dX11_rate_77 : decode cX11_rate 77 = .ok (.iload_n 2, 1) := by decide +kernel
theorem dX11_rate_78 : decode cX11_rate 78 = .ok (.iastore, 1) := by decide +kernel
theorem dX11_rate_79 : decode cX11_rate 79 = .ok (.iload_n 3, 1) := by decide +kernel
theorem dX11_rate_80 : decode cX11_rate 80 = .ok (.ireturn, 1) := by decide +kernel
theorem dX11_rowsPresent_0 : decode cX11_rowsPresent 0 = .ok (.iconst 0, 1) := by decide +kernel
theorem dX11_rowsPresent_1 : decode cX11_rowsPresent 1 = .ok (.istore_n 1, 1) := by decide +kernel
theorem dX11_rowsPresent_2 : decode cX11_rowsPresent 2 = .ok (.iconst 0, 1) := by decide +kernel
theorem dX11_rowsPresent_3 : decode cX11_rowsPresent 3 = .ok (.istore_n 2, 1) := by decide +kernel
theorem dX11_rowsPresent_4 : decode cX11_rowsPresent 4 = .ok (.iload_n 2, 1) := by decide +kernel
theorem dX11_rowsPresent_5 : decode cX11_rowsPresent 5 = .ok (.iconst 4, 1) := by decide +kernel
theorem dX11_rowsPresent_6 : decode cX11_rowsPresent 6 = .ok (.if_icmp .ge 24, 3) := by decide +kernel
theorem dX11_rowsPresent_9 : decode cX11_rowsPresent 9 = .ok (.aload_n 0, 1) := by decide +kernel
theorem dX11_rowsPresent_10 : decode cX11_rowsPresent 10 = .ok (.getfield 45, 3) := by decide +kernel
theorem dX11_rowsPresent_13 : decode cX11_rowsPresent 13 = .ok (.iload_n 2, 1) := by decide +kernel
theorem dX11_rowsPresent_14 : decode cX11_rowsPresent 14 = .ok (.aaload, 1) := by decide +kernel
theorem dX11_rowsPresent_15 : decode cX11_rowsPresent 15 = .ok (.getfield 395, 3) := by decide +kernel
theorem dX11_rowsPresent_18 : decode cX11_rowsPresent 18 = .ok (.ifCond .eq 6, 3) := by decide +kernel
theorem dX11_rowsPresent_21 : decode cX11_rowsPresent 21 = .ok (.iinc 1 1, 3) := by decide +kernel
theorem dX11_rowsPresent_24 : decode cX11_rowsPresent 24 = .ok (.iinc 2 1, 3) := by decide +kernel
theorem dX11_rowsPresent_27 : decode cX11_rowsPresent 27 = .ok (.goto (-23), 3) := by decide +kernel
theorem dX11_rowsPresent_30 : decode cX11_rowsPresent 30 = .ok (.iload_n 1, 1) := by decide +kernel
theorem dX11_rowsPresent_31 : decode cX11_rowsPresent 31 = .ok (.ireturn, 1) := by decide +kernel
theorem dX11_stock_0 : decode cX11_stock 0 = .ok (.aload_n 0, 1) := by decide +kernel
theorem dX11_stock_1 : decode cX11_stock 1 = .ok (.getfield 28, 3) := by decide +kernel
theorem dX11_stock_4 : decode cX11_stock 4 = .ok (.getfield 109, 3) := by decide +kernel
theorem dX11_stock_7 : decode cX11_stock 7 = .ok (.getfield 112, 3) := by decide +kernel
theorem dX11_stock_10 : decode cX11_stock 10 = .ok (.ifCond .eq 13, 3) := by decide +kernel
theorem dX11_stock_13 : decode cX11_stock 13 = .ok (.iload_n 1, 1) := by decide +kernel
theorem dX11_stock_14 : decode cX11_stock 14 = .ok (.ifCond .lt 9, 3) := by decide +kernel
theorem dX11_stock_17 : decode cX11_stock 17 = .ok (.iload_n 1, 1) := by decide +kernel
theorem dX11_stock_18 : decode cX11_stock 18 = .ok (.bipush 99, 2) := by decide +kernel
theorem dX11_stock_20 : decode cX11_stock 20 = .ok (.if_icmp .le 6, 3) := by decide +kernel
theorem dX11_stock_23 : decode cX11_stock 23 = .ok (.bipush (-2), 2) := by decide +kernel
theorem dX11_stock_25 : decode cX11_stock 25 = .ok (.ireturn, 1) := by decide +kernel
theorem dX11_stock_26 : decode cX11_stock 26 = .ok (.aload_n 0, 1) := by decide +kernel
theorem dX11_stock_27 : decode cX11_stock 27 = .ok (.getfield 28, 3) := by decide +kernel
theorem dX11_stock_30 : decode cX11_stock 30 = .ok (.getfield 109, 3) := by decide +kernel
theorem dX11_stock_33 : decode cX11_stock 33 = .ok (.getfield 354, 3) := by decide +kernel
theorem dX11_stock_36 : decode cX11_stock 36 = .ok (.bipush 30, 2) := by decide +kernel
theorem dX11_stock_38 : decode cX11_stock 38 = .ok (.if_icmp .lt 6, 3) := by decide +kernel
theorem dX11_stock_41 : decode cX11_stock 41 = .ok (.bipush (-5), 2) := by decide +kernel
theorem dX11_stock_43 : decode cX11_stock 43 = .ok (.ireturn, 1) := by decide +kernel
theorem dX11_stock_44 : decode cX11_stock 44 = .ok (.aload_n 0, 1) := by decide +kernel
theorem dX11_stock_45 : decode cX11_stock 45 = .ok (.getfield 28, 3) := by decide +kernel
theorem dX11_stock_48 : decode cX11_stock 48 = .ok (.getfield 109, 3) := by decide +kernel
theorem dX11_stock_51 : decode cX11_stock 51 = .ok (.getfield 248, 3) := by decide +kernel
theorem dX11_stock_54 : decode cX11_stock 54 = .ok (.istore_n 2, 1) := by decide +kernel
theorem dX11_stock_55 : decode cX11_stock 55 = .ok (.aload_n 0, 1) := by decide +kernel
theorem dX11_stock_56 : decode cX11_stock 56 = .ok (.getfield 28, 3) := by decide +kernel
theorem dX11_stock_59 : decode cX11_stock 59 = .ok (.getfield 109, 3) := by decide +kernel
theorem dX11_stock_62 : decode cX11_stock 62 = .ok (.iconst (-1), 1) := by decide +kernel
theorem dX11_stock_63 : decode cX11_stock 63 = .ok (.iload_n 2, 1) := by decide +kernel
theorem dX11_stock_64 : decode cX11_stock 64 = .ok (.iconst 0, 1) := by decide +kernel
theorem dX11_stock_65 : decode cX11_stock 65 = .ok (.invokevirtual 360, 3) := by decide +kernel
theorem dX11_stock_68 : decode cX11_stock 68 = .ok (.aload_n 0, 1) := by decide +kernel
theorem dX11_stock_69 : decode cX11_stock 69 = .ok (.getfield 28, 3) := by decide +kernel
theorem dX11_stock_72 : decode cX11_stock 72 = .ok (.getfield 109, 3) := by decide +kernel
theorem dX11_stock_75 : decode cX11_stock 75 = .ok (.iload_n 1, 1) := by decide +kernel
theorem dX11_stock_76 : decode cX11_stock 76 = .ok (.putfield 248, 3) := by decide +kernel
theorem dX11_stock_79 : decode cX11_stock 79 = .ok (.iload_n 2, 1) := by decide +kernel
theorem dX11_stock_80 : decode cX11_stock 80 = .ok (.ireturn, 1) := by decide +kernel
theorem dX11_undo_0 : decode cX11_undo 0 = .ok (.aload_n 0, 1) := by decide +kernel
theorem dX11_undo_1 : decode cX11_undo 1 = .ok (.getfield 28, 3) := by decide +kernel
theorem dX11_undo_4 : decode cX11_undo 4 = .ok (.getfield 109, 3) := by decide +kernel
theorem dX11_undo_7 : decode cX11_undo 7 = .ok (.getfield 112, 3) := by decide +kernel
theorem dX11_undo_10 : decode cX11_undo 10 = .ok (.ifCond .ne 6, 3) := by decide +kernel
theorem dX11_undo_13 : decode cX11_undo 13 = .ok (.bipush (-2), 2) := by decide +kernel
theorem dX11_undo_15 : decode cX11_undo 15 = .ok (.ireturn, 1) := by decide +kernel
theorem dX11_undo_16 : decode cX11_undo 16 = .ok (.aload_n 0, 1) := by decide +kernel
theorem dX11_undo_17 : decode cX11_undo 17 = .ok (.getfield 28, 3) := by decide +kernel
theorem dX11_undo_20 : decode cX11_undo 20 = .ok (.getfield 109, 3) := by decide +kernel
theorem dX11_undo_23 : decode cX11_undo 23 = .ok (.getfield 354, 3) := by decide +kernel
theorem dX11_undo_26 : decode cX11_undo 26 = .ok (.ifCond .ne 6, 3) := by decide +kernel
theorem dX11_undo_29 : decode cX11_undo 29 = .ok (.bipush (-5), 2) := by decide +kernel
theorem dX11_undo_31 : decode cX11_undo 31 = .ok (.ireturn, 1) := by decide +kernel
theorem dX11_undo_32 : decode cX11_undo 32 = .ok (.aload_n 0, 1) := by decide +kernel
theorem dX11_undo_33 : decode cX11_undo 33 = .ok (.getfield 28, 3) := by decide +kernel
theorem dX11_undo_36 : decode cX11_undo 36 = .ok (.getfield 109, 3) := by decide +kernel
theorem dX11_undo_39 : decode cX11_undo 39 = .ok (.invokevirtual 367, 3) := by decide +kernel
theorem dX11_undo_42 : decode cX11_undo 42 = .ok (.aload_n 0, 1) := by decide +kernel
theorem dX11_undo_43 : decode cX11_undo 43 = .ok (.getfield 28, 3) := by decide +kernel
theorem dX11_undo_46 : decode cX11_undo 46 = .ok (.getfield 109, 3) := by decide +kernel
theorem dX11_undo_49 : decode cX11_undo 49 = .ok (.getfield 354, 3) := by decide +kernel
theorem dX11_undo_52 : decode cX11_undo 52 = .ok (.ireturn, 1) := by decide +kernel
theorem dX5_drawDelay_0 : decode cX5_drawDelay 0 = .ok (.iload_n 1, 1) := by decide +kernel
theorem dX5_drawDelay_1 : decode cX5_drawDelay 1 = .ok (.i2l, 1) := by decide +kernel
theorem dX5_drawDelay_2 : decode cX5_drawDelay 2 = .ok (.lstore_n 3, 1) := by decide +kernel
theorem dX5_drawDelay_3 : decode cX5_drawDelay 3 = .ok (.iconst 0, 1) := by decide +kernel
theorem dX5_drawDelay_4 : decode cX5_drawDelay 4 = .ok (.istore 5, 2) := by decide +kernel
theorem dX5_drawDelay_6 : decode cX5_drawDelay 6 = .ok (.iconst 0, 1) := by decide +kernel
theorem dX5_drawDelay_7 : decode cX5_drawDelay 7 = .ok (.istore 6, 2) := by decide +kernel
theorem dX5_drawDelay_9 : decode cX5_drawDelay 9 = .ok (.iload 6, 2) := by decide +kernel
theorem dX5_drawDelay_11 : decode cX5_drawDelay 11 = .ok (.iload_n 2, 1) := by decide +kernel
theorem dX5_drawDelay_12 : decode cX5_drawDelay 12 = .ok (.if_icmp .ge 50, 3) := by decide +kernel
theorem dX5_drawDelay_15 : decode cX5_drawDelay 15 = .ok (.ldc2_w 39, 3) := by decide +kernel
theorem dX5_drawDelay_18 : decode cX5_drawDelay 18 = .ok (.lload_n 3, 1) := by decide +kernel
theorem dX5_drawDelay_19 : decode cX5_drawDelay 19 = .ok (.lmul, 1) := by decide +kernel
theorem dX5_drawDelay_20 : decode cX5_drawDelay 20 = .ok (.ldc2_w 41, 3) := by decide +kernel
theorem dX5_drawDelay_23 : decode cX5_drawDelay 23 = .ok (.ladd, 1) := by decide +kernel
theorem dX5_drawDelay_24 : decode cX5_drawDelay 24 = .ok (.ldc2_w 43, 3) := by decide +kernel
theorem dX5_drawDelay_27 : decode cX5_drawDelay 27 = .ok (.lrem, 1) := by decide +kernel
theorem dX5_drawDelay_28 : decode cX5_drawDelay 28 = .ok (.lstore_n 3, 1) := by decide +kernel
theorem dX5_drawDelay_29 : decode cX5_drawDelay 29 = .ok (.lload_n 3, 1) := by decide +kernel
theorem dX5_drawDelay_30 : decode cX5_drawDelay 30 = .ok (.ldc2_w 45, 3) := by decide +kernel
theorem dX5_drawDelay_33 : decode cX5_drawDelay 33 = .ok (.ldiv, 1) := by decide +kernel
theorem dX5_drawDelay_34 : decode cX5_drawDelay 34 = .ok (.ldc2_w 37, 3) := by decide +kernel
theorem dX5_drawDelay_37 : decode cX5_drawDelay 37 = .ok (.lrem, 1) := by decide +kernel
theorem dX5_drawDelay_38 : decode cX5_drawDelay 38 = .ok (.aload_n 0, 1) := by decide +kernel
theorem dX5_drawDelay_39 : decode cX5_drawDelay 39 = .ok (.getfield 15, 3) := by decide +kernel
theorem dX5_drawDelay_42 : decode cX5_drawDelay 42 = .ok (.getfield 25, 3) := by decide +kernel
theorem dX5_drawDelay_45 : decode cX5_drawDelay 45 = .ok (.getfield 31, 3) := by decide +kernel
theorem dX5_drawDelay_48 : decode cX5_drawDelay 48 = .ok (.i2l, 1) := by decide +kernel
theorem dX5_drawDelay_49 : decode cX5_drawDelay 49 = .ok (.lcmp, 1) := by decide +kernel
theorem dX5_drawDelay_50 : decode cX5_drawDelay 50 = .ok (.ifCond .ge 6, 3) := by decide +kernel
theorem dX5_drawDelay_53 : decode cX5_drawDelay 53 = .ok (.iinc 5 1, 3) := by decide +kernel
theorem dX5_drawDelay_56 : decode cX5_drawDelay 56 = .ok (.iinc 6 1, 3) := by decide +kernel
theorem dX5_drawDelay_59 : decode cX5_drawDelay 59 = .ok (.goto (-50), 3) := by decide +kernel
theorem dX5_drawDelay_62 : decode cX5_drawDelay 62 = .ok (.iload 5, 2) := by decide +kernel
theorem dX5_drawDelay_64 : decode cX5_drawDelay 64 = .ok (.ireturn, 1) := by decide +kernel
theorem mm_k2000000000 : mm_rg 2000000000 2000000000 2000000000 := ⟨by decide, by decide⟩
theorem mm_kl10 : mm_rl 10 10 10 := ⟨by decide, by decide⟩
theorem mm_kl1103515245 : mm_rl 1103515245 1103515245 1103515245 := ⟨by decide, by decide⟩
theorem mm_kl12345 : mm_rl 12345 12345 12345 := ⟨by decide, by decide⟩
theorem mm_kl2147483648 : mm_rl 2147483648 2147483648 2147483648 := ⟨by decide, by decide⟩
theorem mm_kl65536 : mm_rl 65536 65536 65536 := ⟨by decide, by decide⟩
theorem hd_X0_allRules : yX0_allRules.cls = RX0 ∧ yX0_allRules.cls ≠ "java/lang/invoke/MethodHandle" ∧ yX0_allRules.cls ≠ "java/lang/invoke/VarHandle" ∧ (parseMethodDescriptor yX0_allRules.desc).map (fun d => d.parameters.length) = some 0 := by decide +kernel
theorem hd_X0_takeBackAct : yX0_takeBackAct.cls = RX0 ∧ yX0_takeBackAct.cls ≠ "java/lang/invoke/MethodHandle" ∧ yX0_takeBackAct.cls ≠ "java/lang/invoke/VarHandle" ∧ (parseMethodDescriptor yX0_takeBackAct.desc).map (fun d => d.parameters.length) = some 0 := by decide +kernel
theorem hd_X11_rowsPresent : yX11_rowsPresent.cls = RX11 ∧ yX11_rowsPresent.cls ≠ "java/lang/invoke/MethodHandle" ∧ yX11_rowsPresent.cls ≠ "java/lang/invoke/VarHandle" ∧ (parseMethodDescriptor yX11_rowsPresent.desc).map (fun d => d.parameters.length) = some 0 := by decide +kernel
theorem hd_X5_drawDelay : yX5_drawDelay.cls = RX5 ∧ yX5_drawDelay.cls ≠ "java/lang/invoke/MethodHandle" ∧ yX5_drawDelay.cls ≠ "java/lang/invoke/VarHandle" ∧ (parseMethodDescriptor yX5_drawDelay.desc).map (fun d => d.parameters.length) = some 2 := by decide +kernel
theorem hs_X11_isSeed : yX11_isSeed.cls ≠ "java/lang/invoke/MethodHandle" ∧ yX11_isSeed.cls ≠ "java/lang/invoke/VarHandle" ∧ (parseMethodDescriptor yX11_isSeed.desc).map (fun d => d.parameters.length) = some 1 := by decide +kernel
theorem mm_cases10 {v : Int32} (h : mm_rg v 0 9) : v = 0 ∨ v = 1 ∨ v = 2 ∨ v = 3 ∨ v = 4 ∨ v = 5 ∨ v = 6 ∨ v = 7 ∨ v = 8 ∨ v = 9 := by
  have q : v.toInt = 0 ∨ v.toInt = 1 ∨ v.toInt = 2 ∨ v.toInt = 3 ∨ v.toInt = 4 ∨ v.toInt = 5 ∨ v.toInt = 6 ∨ v.toInt = 7 ∨ v.toInt = 8 ∨ v.toInt = 9 := by have := h.1; have := h.2; omega
  rcases q with q | q | q | q | q | q | q | q | q | q
  · exact Or.inl (mm_eq (q.trans (by decide)))
  · exact Or.inr (Or.inl (mm_eq (q.trans (by decide))))
  · exact Or.inr (Or.inr (Or.inl (mm_eq (q.trans (by decide)))))
  · exact Or.inr (Or.inr (Or.inr (Or.inl (mm_eq (q.trans (by decide))))))
  · exact Or.inr (Or.inr (Or.inr (Or.inr (Or.inl (mm_eq (q.trans (by decide)))))))
  · exact Or.inr (Or.inr (Or.inr (Or.inr (Or.inr (Or.inl (mm_eq (q.trans (by decide))))))))
  · exact Or.inr (Or.inr (Or.inr (Or.inr (Or.inr (Or.inr (Or.inl (mm_eq (q.trans (by decide)))))))))
  · exact Or.inr (Or.inr (Or.inr (Or.inr (Or.inr (Or.inr (Or.inr (Or.inl (mm_eq (q.trans (by decide))))))))))
  · exact Or.inr (Or.inr (Or.inr (Or.inr (Or.inr (Or.inr (Or.inr (Or.inr (Or.inl (mm_eq (q.trans (by decide)))))))))))
  · exact Or.inr (Or.inr (Or.inr (Or.inr (Or.inr (Or.inr (Or.inr (Or.inr (Or.inr ((mm_eq (q.trans (by decide))))))))))))
set_option maxHeartbeats 4000000 in
set_option maxRecDepth 100000 in
theorem K498_X0_noteAct (l : Launch) (G : va_G) (cy : Nat → ClassId) (sz : Nat) (a_0 : Nat) (i_0 : Int32) (i_1 : Int32) (i_2 : Int32) (i_3 : Int32) (i_4 : Int32) (i_5 : Int32) (i_6 : Int32) (i_7 : Int32) (i_8 : Int32) (a_1 : Nat) (a_2 : Nat) (a_3 : Nat) (a_4 : Nat) (a_5 : Nat) (a_6 : Nat) (a_7 : Nat) (a_8 : Nat) (a_9 : Nat) (a_10 : Nat) (f_0 : Nat → Int32) (f_1 : Nat → Int32) (f_2 : Nat → Int32) (h0 : mm_rg i_0 0 99) (h1 : mm_rg i_8 0 30) (h2 : mm_ar f_0 (-1) 2) (h3 : mm_ar f_1 0 99) (h4 : mm_ar f_2 0 9) (h5 : mm_act f_0 f_1)  : mm_CV l yX0_noteAct (mm_ws yX0_noteAct cX0_noteAct 4 (none)) ({ frames := 0, cells := 0, slots := 0, locals := 0 } : Room) G cy sz [(a_0, .inr (0, [.int i_1, .int i_2, .int i_3, .int i_4, .int i_5, .int i_6, .int i_7, .int i_8, .ref a_1, .ref a_2, .ref a_3, .ref a_4, .ref a_5, .ref a_6, .ref a_7, .ref a_8, .ref a_9, .ref a_10])), (a_8, .inl (cy 1, 30, .inl f_0)), (a_9, .inl (cy 1, 30, .inl f_1)), (a_10, .inl (cy 1, 30, .inl f_2))] [.ref a_0, .int (-1), .int i_0, .int 0] (fun u : Int32 × (Nat → Int32) × (Nat → Int32) × (Nat → Int32) => [(a_0, .inr (0, [.int i_1, .int i_2, .int i_3, .int i_4, .int i_5, .int i_6, .int i_7, .int u.1, .ref a_1, .ref a_2, .ref a_3, .ref a_4, .ref a_5, .ref a_6, .ref a_7, .ref a_8, .ref a_9, .ref a_10])), (a_8, .inl (cy 1, 30, .inl u.2.1)), (a_9, .inl (cy 1, 30, .inl u.2.2.1)), (a_10, .inl (cy 1, 30, .inl u.2.2.2))]) (fun u : Int32 × (Nat → Int32) × (Nat → Int32) × (Nat → Int32) => mm_rg u.1 1 30 ∧ mm_ar u.2.1 (-1) 2 ∧ mm_ar u.2.2.1 0 99 ∧ mm_ar u.2.2.2 0 9 ∧ mm_act u.2.1 u.2.2.1) 0 0 := by
  refine mm_begin (lv := [(0, .ref a_0), (1, .int (-1)), (2, .int i_0), (3, .int 0)]) (by decide) (Nat.le_of_ble_eq_true rfl) rfl ?_
  intro p e s m below meth c A ls R args Q H locs hRe hQ hAe hx hb hr hlocks hml hown hnm hts hsz hA hS hP hK hD hZ hl
  have hRf : R.frames = 0 := by rw [hRe]
  have hRl : R.locals = 0 := by rw [hRe]
  have hRc : R.cells = 0 := by rw [hRe]
  have hRs : R.slots = 0 := by rw [hRe]
  refine lv_aload_n hx hb dX0_noteAct_0 rfl (lv_at hl 0 rfl) ?_
  refine va_get (D := G) (ci := 0) (v := .int i_8) (C := RX0) (T := TX0) (N := 18) hx hb hts (mm_i inlX0) hown hK.1 hP 0 rfl rfl 7 (by decide) (mm_h hts mm_w222) (fun _ h9 => h9) rfl dX0_noteAct_1 ?_
  refine lv_bipush (v := 30) hx hb dX0_noteAct_4 (by decide) ?_
  refine lv_icmp_ge (tgt := 49) hx hb dX0_noteAct_6 (by decide) (fun c1 => ?_) (fun c1 => ?_)
  · have q2 := mm_leR (mm_le c1) mm_k30 h1
    subst hAe
    rw [hQ]
    exact W.vret hx hb hr (fun t ht hW => ⟨⟨(i_8, f_0, f_1, f_2), rfl, ⟨(mm_wk q2 (by decide)), h2, h3, h4, h5⟩, by rw [ht]; exact hP, hK.warm hW, hD⟩, hS.F ht⟩) hS.2.2 dX0_noteAct_49
  · have q3 := mm_ltL (h := 29) (mm_nle c1) h1 mm_k30 (by decide)
    refine lv_aload_n hx hb dX0_noteAct_9 rfl (lv_at hl 0 rfl) ?_
    refine va_get (D := G) (ci := 0) (v := .ref a_8) (C := RX0) (T := TX0) (N := 18) hx hb hts (mm_i inlX0) hown hK.1 hP 0 rfl rfl 15 (by decide) (mm_h hts mm_w79) (fun _ h9 => h9) rfl dX0_noteAct_10 ?_
    refine lv_aload_n hx hb dX0_noteAct_13 rfl (lv_at hl 0 rfl) ?_
    refine va_get (D := G) (ci := 0) (v := .int i_8) (C := RX0) (T := TX0) (N := 18) hx hb hts (mm_i inlX0) hown hK.1 hP 0 rfl rfl 7 (by decide) (mm_h hts mm_w222) (fun _ h9 => h9) rfl dX0_noteAct_14 ?_
    refine lv_iload_n hx hb dX0_noteAct_17 rfl (lv_at hl 1 rfl) ?_
    refine va_iast hx hb hK.1 hP hD hS 1 1 rfl rfl (mm_in q3 (by decide)) dX0_noteAct_18 ?_
    clear hP hD hS
    clear H locs
    obtain ⟨g4, eg4⟩ : ∃ z : Nat → Int32, z = upd f_0 i_8.toNatClampNeg (-1) := ⟨_, rfl⟩
    rw [← eg4]
    intro H locs (hP : va_P G vwCl [(a_0, .inr (0, [.int i_1, .int i_2, .int i_3, .int i_4, .int i_5, .int i_6, .int i_7, .int i_8, .ref a_1, .ref a_2, .ref a_3, .ref a_4, .ref a_5, .ref a_6, .ref a_7, .ref a_8, .ref a_9, .ref a_10])), (a_8, .inl (cy 1, 30, .inl g4)), (a_9, .inl (cy 1, 30, .inl f_1)), (a_10, .inl (cy 1, 30, .inl f_2))] H) (hD : va_D A [(a_0, .inr (0, [.int i_1, .int i_2, .int i_3, .int i_4, .int i_5, .int i_6, .int i_7, .int i_8, .ref a_1, .ref a_2, .ref a_3, .ref a_4, .ref a_5, .ref a_6, .ref a_7, .ref a_8, .ref a_9, .ref a_10])), (a_8, .inl (cy 1, 30, .inl g4)), (a_9, .inl (cy 1, 30, .inl f_1)), (a_10, .inl (cy 1, 30, .inl f_2))]) hS
    have rg4 : mm_ar g4 (-1) 2 := by rw [eg4]; exact mm_ar_upd (mm_ar_wk h2 (by decide)) (mm_wk mm_km1 (by decide)) _
    refine lv_aload_n hx hb dX0_noteAct_19 rfl (lv_at hl 0 rfl) ?_
    refine va_get (D := G) (ci := 0) (v := .ref a_9) (C := RX0) (T := TX0) (N := 18) hx hb hts (mm_i inlX0) hown hK.1 hP 0 rfl rfl 16 (by decide) (mm_h hts mm_w80) (fun _ h9 => h9) rfl dX0_noteAct_20 ?_
    refine lv_aload_n hx hb dX0_noteAct_23 rfl (lv_at hl 0 rfl) ?_
    refine va_get (D := G) (ci := 0) (v := .int i_8) (C := RX0) (T := TX0) (N := 18) hx hb hts (mm_i inlX0) hown hK.1 hP 0 rfl rfl 7 (by decide) (mm_h hts mm_w222) (fun _ h9 => h9) rfl dX0_noteAct_24 ?_
    refine lv_iload_n hx hb dX0_noteAct_27 rfl (lv_at hl 2 rfl) ?_
    refine va_iast hx hb hK.1 hP hD hS 2 1 rfl rfl (mm_in q3 (by decide)) dX0_noteAct_28 ?_
    clear hP hD hS
    clear H locs
    obtain ⟨g5, eg5⟩ : ∃ z : Nat → Int32, z = upd f_1 i_8.toNatClampNeg i_0 := ⟨_, rfl⟩
    rw [← eg5]
    intro H locs (hP : va_P G vwCl [(a_0, .inr (0, [.int i_1, .int i_2, .int i_3, .int i_4, .int i_5, .int i_6, .int i_7, .int i_8, .ref a_1, .ref a_2, .ref a_3, .ref a_4, .ref a_5, .ref a_6, .ref a_7, .ref a_8, .ref a_9, .ref a_10])), (a_8, .inl (cy 1, 30, .inl g4)), (a_9, .inl (cy 1, 30, .inl g5)), (a_10, .inl (cy 1, 30, .inl f_2))] H) (hD : va_D A [(a_0, .inr (0, [.int i_1, .int i_2, .int i_3, .int i_4, .int i_5, .int i_6, .int i_7, .int i_8, .ref a_1, .ref a_2, .ref a_3, .ref a_4, .ref a_5, .ref a_6, .ref a_7, .ref a_8, .ref a_9, .ref a_10])), (a_8, .inl (cy 1, 30, .inl g4)), (a_9, .inl (cy 1, 30, .inl g5)), (a_10, .inl (cy 1, 30, .inl f_2))]) hS
    have rg5 : mm_ar g5 0 99 := by rw [eg5]; exact mm_ar_upd (mm_ar_wk h3 (by decide)) (mm_wk h0 (by decide)) _
    refine lv_aload_n hx hb dX0_noteAct_29 rfl (lv_at hl 0 rfl) ?_
    refine va_get (D := G) (ci := 0) (v := .ref a_10) (C := RX0) (T := TX0) (N := 18) hx hb hts (mm_i inlX0) hown hK.1 hP 0 rfl rfl 17 (by decide) (mm_h hts mm_w81) (fun _ h9 => h9) rfl dX0_noteAct_30 ?_
    refine lv_aload_n hx hb dX0_noteAct_33 rfl (lv_at hl 0 rfl) ?_
    refine va_get (D := G) (ci := 0) (v := .int i_8) (C := RX0) (T := TX0) (N := 18) hx hb hts (mm_i inlX0) hown hK.1 hP 0 rfl rfl 7 (by decide) (mm_h hts mm_w222) (fun _ h9 => h9) rfl dX0_noteAct_34 ?_
    refine lv_iload_n hx hb dX0_noteAct_37 rfl (lv_at hl 3 rfl) ?_
    refine va_iast hx hb hK.1 hP hD hS 3 1 rfl rfl (mm_in q3 (by decide)) dX0_noteAct_38 ?_
    clear hP hD hS
    clear H locs
    obtain ⟨g6, eg6⟩ : ∃ z : Nat → Int32, z = upd f_2 i_8.toNatClampNeg 0 := ⟨_, rfl⟩
    rw [← eg6]
    intro H locs (hP : va_P G vwCl [(a_0, .inr (0, [.int i_1, .int i_2, .int i_3, .int i_4, .int i_5, .int i_6, .int i_7, .int i_8, .ref a_1, .ref a_2, .ref a_3, .ref a_4, .ref a_5, .ref a_6, .ref a_7, .ref a_8, .ref a_9, .ref a_10])), (a_8, .inl (cy 1, 30, .inl g4)), (a_9, .inl (cy 1, 30, .inl g5)), (a_10, .inl (cy 1, 30, .inl g6))] H) (hD : va_D A [(a_0, .inr (0, [.int i_1, .int i_2, .int i_3, .int i_4, .int i_5, .int i_6, .int i_7, .int i_8, .ref a_1, .ref a_2, .ref a_3, .ref a_4, .ref a_5, .ref a_6, .ref a_7, .ref a_8, .ref a_9, .ref a_10])), (a_8, .inl (cy 1, 30, .inl g4)), (a_9, .inl (cy 1, 30, .inl g5)), (a_10, .inl (cy 1, 30, .inl g6))]) hS
    have rg6 : mm_ar g6 0 9 := by rw [eg6]; exact mm_ar_upd (mm_ar_wk h4 (by decide)) (mm_wk mm_k0 (by decide)) _
    refine lv_aload_n hx hb dX0_noteAct_39 rfl (lv_at hl 0 rfl) ?_
    refine lv_dup hx hb dX0_noteAct_40 rfl ?_
    refine va_get (D := G) (ci := 0) (v := .int i_8) (C := RX0) (T := TX0) (N := 18) hx hb hts (mm_i inlX0) hown hK.1 hP 0 rfl rfl 7 (by decide) (mm_h hts mm_w222) (fun _ h9 => h9) rfl dX0_noteAct_41 ?_
    refine lv_iconst (v := 1) hx hb dX0_noteAct_44 (by decide) ?_
    refine lv_iadd hx hb dX0_noteAct_45 ?_
    refine lv_topi (fun v7 ev7 => ?_)
    have rv7 : mm_rg v7 1 30 := mm_add ev7 q3 mm_k1 (by decide) (by decide)
    have tv7 := mm_addEc ev7 q3 mm_k1 (by decide) (k := 1) (by decide)
    refine va_put (D := G) (ci := 0) (v := .int v7) (ty := tyX0 7) (C := RX0) (T := TX0) (N := 18) hx hb hts (mm_i inlX0) tyX0 tyX0_ok nmX0 hown hK.1 hP hD hS 0 rfl rfl 7 (by decide) (mm_h hts mm_w222) (fun _ h9 => h9) rfl (tyX0_ok 7 (by decide)) rfl rfl (Nat.le_of_ble_eq_true rfl) dX0_noteAct_46 ?_
    clear hP hD hS
    clear H locs
    intro H locs (hP : va_P G vwCl [(a_0, .inr (0, [.int i_1, .int i_2, .int i_3, .int i_4, .int i_5, .int i_6, .int i_7, .int v7, .ref a_1, .ref a_2, .ref a_3, .ref a_4, .ref a_5, .ref a_6, .ref a_7, .ref a_8, .ref a_9, .ref a_10])), (a_8, .inl (cy 1, 30, .inl g4)), (a_9, .inl (cy 1, 30, .inl g5)), (a_10, .inl (cy 1, 30, .inl g6))] H) (hD : va_D A [(a_0, .inr (0, [.int i_1, .int i_2, .int i_3, .int i_4, .int i_5, .int i_6, .int i_7, .int v7, .ref a_1, .ref a_2, .ref a_3, .ref a_4, .ref a_5, .ref a_6, .ref a_7, .ref a_8, .ref a_9, .ref a_10])), (a_8, .inl (cy 1, 30, .inl g4)), (a_9, .inl (cy 1, 30, .inl g5)), (a_10, .inl (cy 1, 30, .inl g6))]) hS
    subst hAe
    rw [hQ]
    exact W.vret hx hb hr (fun t ht hW => ⟨⟨(v7, g4, g5, g6), rfl, ⟨rv7, rg4, rg5, rg6, (by rw [eg4, eg5]; exact mm_act_u1 h5 mm_km1 (by decide))⟩, by rw [ht]; exact hP, hK.warm hW, hD⟩, hS.F ht⟩) hS.2.2 dX0_noteAct_49

set_option maxHeartbeats 4000000 in
set_option maxRecDepth 100000 in
theorem K499_X11_stock (l : Launch) (G : va_G) (cy : Nat → ClassId) (sz : Nat) (a_0 : Nat) (i_0 : Int32) (a_1 : Nat) (a_2 : Nat) (a_3 : Nat) (a_4 : Nat) (a_5 : Nat) (a_6 : Nat) (a_7 : Nat) (a_8 : Nat) (a_9 : Nat) (a_10 : Nat) (a_11 : Nat) (a_12 : Nat) (a_13 : Nat) (i_1 : Int32) (i_2 : Int32) (i_3 : Int32) (i_4 : Int32) (i_5 : Int32) (i_6 : Int32) (i_7 : Int32) (i_8 : Int32) (a_14 : Nat) (a_15 : Nat) (a_16 : Nat) (a_17 : Nat) (a_18 : Nat) (a_19 : Nat) (a_20 : Nat) (a_21 : Nat) (a_22 : Nat) (a_23 : Nat) (f_0 : Nat → Int32) (f_1 : Nat → Int32) (f_2 : Nat → Int32) (h0 : mm_rg i_4 0 99) (h1 : mm_rg i_8 0 30) (h2 : mm_ar f_0 (-1) 2) (h3 : mm_ar f_1 0 99) (h4 : mm_ar f_2 0 9) (h5 : mm_act f_0 f_1)  : mm_CI l yX11_stock (mm_ws yX11_stock cX11_stock 3 (some .int)) ({ frames := 1, cells := 0, slots := 0, locals := 23 } : Room) G cy sz [(a_0, .inr (11, [.ref a_1, .ref a_2, .ref a_3, .ref a_4, .ref a_5, .ref a_6, .ref a_7, .ref a_8, .ref a_9, .ref a_10, .ref a_11])), (a_3, .inr (10, [.ref a_12, .ref a_13])), (a_12, .inr (0, [.int i_1, .int i_2, .int i_3, .int i_4, .int i_5, .int i_6, .int i_7, .int i_8, .ref a_14, .ref a_15, .ref a_16, .ref a_17, .ref a_18, .ref a_19, .ref a_20, .ref a_21, .ref a_22, .ref a_23])), (a_21, .inl (cy 1, 30, .inl f_0)), (a_22, .inl (cy 1, 30, .inl f_1)), (a_23, .inl (cy 1, 30, .inl f_2))] [.ref a_0, .int i_0] (fun u : Int32 × Int32 × (Nat → Int32) × (Nat → Int32) × (Nat → Int32) => [(a_0, .inr (11, [.ref a_1, .ref a_2, .ref a_3, .ref a_4, .ref a_5, .ref a_6, .ref a_7, .ref a_8, .ref a_9, .ref a_10, .ref a_11])), (a_3, .inr (10, [.ref a_12, .ref a_13])), (a_12, .inr (0, [.int i_1, .int i_2, .int i_3, .int u.1, .int i_5, .int i_6, .int i_7, .int u.2.1, .ref a_14, .ref a_15, .ref a_16, .ref a_17, .ref a_18, .ref a_19, .ref a_20, .ref a_21, .ref a_22, .ref a_23])), (a_21, .inl (cy 1, 30, .inl u.2.2.1)), (a_22, .inl (cy 1, 30, .inl u.2.2.2.1)), (a_23, .inl (cy 1, 30, .inl u.2.2.2.2))]) (fun (r : Int32) (u : Int32 × Int32 × (Nat → Int32) × (Nat → Int32) × (Nat → Int32)) => mm_rg u.1 0 99 ∧ mm_rg u.2.1 0 30 ∧ mm_ar u.2.2.1 (-1) 2 ∧ mm_ar u.2.2.2.1 0 99 ∧ mm_ar u.2.2.2.2 0 9 ∧ mm_act u.2.2.1 u.2.2.2.1 ∧ mm_rg r (-5) 99) 0 0 := by
  refine mm_begin (lv := [(0, .ref a_0), (1, .int i_0)]) (by decide) (Nat.le_of_ble_eq_true rfl) rfl ?_
  intro p e s m below meth c A ls R args Q H locs hRe hQ hAe hx hb hr hlocks hml hown hnm hts hsz hA hS hP hK hD hZ hl
  have hRf : R.frames = 1 := by rw [hRe]
  have hRl : R.locals = 23 := by rw [hRe]
  have hRc : R.cells = 0 := by rw [hRe]
  have hRs : R.slots = 0 := by rw [hRe]
  refine lv_aload_n hx hb dX11_stock_0 rfl (lv_at hl 0 rfl) ?_
  refine va_get (D := G) (ci := 11) (v := .ref a_3) (C := RX11) (T := TX11) (N := 11) hx hb hts (mm_i inlX11) hown hK.1 hP 0 rfl rfl 2 (by decide) (mm_h hts mm_w24) (fun _ h9 => h9) rfl dX11_stock_1 ?_
  refine va_get (D := G) (ci := 10) (v := .ref a_12) (C := RX10) (T := TX10) (N := 2) hx hb hts (mm_i inlX10) hown hK.1 hP 1 rfl rfl 0 (by decide) (mm_h hts mm_w199) (fun _ h9 => h9) rfl dX11_stock_4 ?_
  refine va_get (D := G) (ci := 0) (v := .int i_1) (C := RX0) (T := TX0) (N := 18) hx hb hts (mm_i inlX0) hown hK.1 hP 2 rfl rfl 0 (by decide) (mm_h hts mm_w200) (fun _ h9 => h9) rfl dX11_stock_7 ?_
  refine lv_if_eq (tgt := 23) hx hb dX11_stock_10 (by decide) (fun c1 => ?_) (fun c1 => ?_)
  · have q2 := mm_eqI (lo := 0) (hi := 0) c1 (mm_top i_1) mm_k0 (by decide)
    refine lv_bipush (v := (-2)) hx hb dX11_stock_23 (by decide) ?_
    subst hAe
    rw [hQ]
    exact W.iret (v := (-2)) hx hb hr (fun t ht hW => ⟨⟨(-2), (i_4, i_8, f_0, f_1, f_2), rfl, ⟨h0, h1, h2, h3, h4, h5, (mm_wk mm_km2 (by decide))⟩, by rw [ht]; exact hP, hK.warm hW, hD⟩, hS.F ht⟩) hS.2.2 dX11_stock_25
  · refine lv_iload_n hx hb dX11_stock_13 rfl (lv_at hl 1 rfl) ?_
    refine lv_if_lt (tgt := 23) hx hb dX11_stock_14 (by decide) (fun c3 => ?_) (fun c3 => ?_)
    · have q4 := mm_ltL (h := (-1)) (mm_lt c3) (mm_top i_0) mm_k0 (by decide)
      refine lv_bipush (v := (-2)) hx hb dX11_stock_23 (by decide) ?_
      subst hAe
      rw [hQ]
      exact W.iret (v := (-2)) hx hb hr (fun t ht hW => ⟨⟨(-2), (i_4, i_8, f_0, f_1, f_2), rfl, ⟨h0, h1, h2, h3, h4, h5, (mm_wk mm_km2 (by decide))⟩, by rw [ht]; exact hP, hK.warm hW, hD⟩, hS.F ht⟩) hS.2.2 dX11_stock_25
    · have q5 := mm_leR (mm_nlt c3) mm_k0 (mm_top i_0)
      refine lv_iload_n hx hb dX11_stock_17 rfl (lv_at hl 1 rfl) ?_
      refine lv_bipush (v := 99) hx hb dX11_stock_18 (by decide) ?_
      refine lv_icmp_le (tgt := 26) hx hb dX11_stock_20 (by decide) (fun c6 => ?_) (fun c6 => ?_)
      · have q7 := mm_leL (mm_le c6) q5 mm_k99
        refine lv_aload_n hx hb dX11_stock_26 rfl (lv_at hl 0 rfl) ?_
        refine va_get (D := G) (ci := 11) (v := .ref a_3) (C := RX11) (T := TX11) (N := 11) hx hb hts (mm_i inlX11) hown hK.1 hP 0 rfl rfl 2 (by decide) (mm_h hts mm_w24) (fun _ h9 => h9) rfl dX11_stock_27 ?_
        refine va_get (D := G) (ci := 10) (v := .ref a_12) (C := RX10) (T := TX10) (N := 2) hx hb hts (mm_i inlX10) hown hK.1 hP 1 rfl rfl 0 (by decide) (mm_h hts mm_w199) (fun _ h9 => h9) rfl dX11_stock_30 ?_
        refine va_get (D := G) (ci := 0) (v := .int i_8) (C := RX0) (T := TX0) (N := 18) hx hb hts (mm_i inlX0) hown hK.1 hP 2 rfl rfl 7 (by decide) (mm_h hts mm_w1540) (fun _ h9 => h9) rfl dX11_stock_33 ?_
        refine lv_bipush (v := 30) hx hb dX11_stock_36 (by decide) ?_
        refine lv_icmp_lt (tgt := 44) hx hb dX11_stock_38 (by decide) (fun c8 => ?_) (fun c8 => ?_)
        · have q9 := mm_ltL (h := 29) (mm_lt c8) h1 mm_k30 (by decide)
          refine lv_aload_n hx hb dX11_stock_44 rfl (lv_at hl 0 rfl) ?_
          refine va_get (D := G) (ci := 11) (v := .ref a_3) (C := RX11) (T := TX11) (N := 11) hx hb hts (mm_i inlX11) hown hK.1 hP 0 rfl rfl 2 (by decide) (mm_h hts mm_w24) (fun _ h9 => h9) rfl dX11_stock_45 ?_
          refine va_get (D := G) (ci := 10) (v := .ref a_12) (C := RX10) (T := TX10) (N := 2) hx hb hts (mm_i inlX10) hown hK.1 hP 1 rfl rfl 0 (by decide) (mm_h hts mm_w199) (fun _ h9 => h9) rfl dX11_stock_48 ?_
          refine va_get (D := G) (ci := 0) (v := .int i_4) (C := RX0) (T := TX0) (N := 18) hx hb hts (mm_i inlX0) hown hK.1 hP 2 rfl rfl 3 (by decide) (mm_h hts mm_w1095) (fun _ h9 => h9) rfl dX11_stock_51 ?_
          refine lv_istore_n (lv' := [(2, .int i_4), (0, .ref a_0), (1, .int i_0)]) hx hb dX11_stock_54 rfl hl (by decide) rfl ?_
          clear hl
          clear ls
          intro ls hl
          refine lv_aload_n hx hb dX11_stock_55 rfl (lv_at hl 1 rfl) ?_
          refine va_get (D := G) (ci := 11) (v := .ref a_3) (C := RX11) (T := TX11) (N := 11) hx hb hts (mm_i inlX11) hown hK.1 hP 0 rfl rfl 2 (by decide) (mm_h hts mm_w24) (fun _ h9 => h9) rfl dX11_stock_56 ?_
          refine va_get (D := G) (ci := 10) (v := .ref a_12) (C := RX10) (T := TX10) (N := 2) hx hb hts (mm_i inlX10) hown hK.1 hP 1 rfl rfl 0 (by decide) (mm_h hts mm_w199) (fun _ h9 => h9) rfl dX11_stock_59 ?_
          refine lv_iconst (v := (-1)) hx hb dX11_stock_62 (by decide) ?_
          refine lv_iload_n hx hb dX11_stock_63 rfl (lv_at hl 0 rfl) ?_
          refine lv_iconst (v := 0) hx hb dX11_stock_64 (by decide) ?_
          refine mm_finv (va_runV (As := [.int (-1), .int i_4, .int 0]) (rest := []) ⟨hx, hb, hml, hown, hts⟩ (K498_X0_noteAct l G cy H.size a_12 i_4 i_1 i_2 i_3 i_4 i_5 i_6 i_7 i_8 a_14 a_15 a_16 a_17 a_18 a_19 a_20 a_21 a_22 a_23 f_0 f_1 f_2 h0 (mm_wk q9 (by decide)) h2 h3 h4 h5) (cwV 3 hts (mm_gV mm_w1542 mm_w1543 mm_w1544 mm_w28 mm_w1545) rfl rfl rfl hd_X0_noteAct ⟨by rw [hRf]; exact Nat.le_of_ble_eq_true rfl, by rw [hRl]; exact Nat.le_of_ble_eq_true rfl⟩) (mm_preV hK hZ hS hA hP hD [2, 3, 4, 5] rfl rfl 2 rfl rfl rfl) rfl rfl hl.1 rfl (lv_room (Nat.le_of_ble_eq_true rfl)) dX11_stock_65 ⟨by rw [hRc]; exact Nat.le_of_ble_eq_true rfl, by rw [hRs]; exact Nat.le_of_ble_eq_true rfl⟩) hP hD hS hA (fun u : Int32 × (Nat → Int32) × (Nat → Int32) × (Nat → Int32) => [(a_0, .inr (11, [.ref a_1, .ref a_2, .ref a_3, .ref a_4, .ref a_5, .ref a_6, .ref a_7, .ref a_8, .ref a_9, .ref a_10, .ref a_11])), (a_3, .inr (10, [.ref a_12, .ref a_13])), (a_12, .inr (0, [.int i_1, .int i_2, .int i_3, .int i_4, .int i_5, .int i_6, .int i_7, .int u.1, .ref a_14, .ref a_15, .ref a_16, .ref a_17, .ref a_18, .ref a_19, .ref a_20, .ref a_21, .ref a_22, .ref a_23])), (a_21, .inl (cy 1, 30, .inl u.2.1)), (a_22, .inl (cy 1, 30, .inl u.2.2.1)), (a_23, .inl (cy 1, 30, .inl u.2.2.2))]) [2, 3, 4, 5] [0, 1] (n := 6) (fun _ => rfl) (by decide +kernel) (by decide +kernel) rfl (fun _ => rfl) (wr := [(a_0, .inr (11, [.ref a_1, .ref a_2, .ref a_3, .ref a_4, .ref a_5, .ref a_6, .ref a_7, .ref a_8, .ref a_9, .ref a_10, .ref a_11])), (a_3, .inr (10, [.ref a_12, .ref a_13]))]) rfl (fun _ => rfl) (fun _ => rfl) ?_
          clear hP hD hS
          clear H locs
          intro u
          obtain ⟨n10, n11, n12, n13⟩ := u
          intro H locs hw (hP : va_P G vwCl [(a_0, .inr (11, [.ref a_1, .ref a_2, .ref a_3, .ref a_4, .ref a_5, .ref a_6, .ref a_7, .ref a_8, .ref a_9, .ref a_10, .ref a_11])), (a_3, .inr (10, [.ref a_12, .ref a_13])), (a_12, .inr (0, [.int i_1, .int i_2, .int i_3, .int i_4, .int i_5, .int i_6, .int i_7, .int n10, .ref a_14, .ref a_15, .ref a_16, .ref a_17, .ref a_18, .ref a_19, .ref a_20, .ref a_21, .ref a_22, .ref a_23])), (a_21, .inl (cy 1, 30, .inl n11)), (a_22, .inl (cy 1, 30, .inl n12)), (a_23, .inl (cy 1, 30, .inl n13))] H) (hD : va_D A [(a_0, .inr (11, [.ref a_1, .ref a_2, .ref a_3, .ref a_4, .ref a_5, .ref a_6, .ref a_7, .ref a_8, .ref a_9, .ref a_10, .ref a_11])), (a_3, .inr (10, [.ref a_12, .ref a_13])), (a_12, .inr (0, [.int i_1, .int i_2, .int i_3, .int i_4, .int i_5, .int i_6, .int i_7, .int n10, .ref a_14, .ref a_15, .ref a_16, .ref a_17, .ref a_18, .ref a_19, .ref a_20, .ref a_21, .ref a_22, .ref a_23])), (a_21, .inl (cy 1, 30, .inl n11)), (a_22, .inl (cy 1, 30, .inl n12)), (a_23, .inl (cy 1, 30, .inl n13))]) hS
          obtain ⟨w14, w15, w16, w17, w18⟩ := hw
          refine lv_aload_n hx hb dX11_stock_68 rfl (lv_at hl 1 rfl) ?_
          refine va_get (D := G) (ci := 11) (v := .ref a_3) (C := RX11) (T := TX11) (N := 11) hx hb hts (mm_i inlX11) hown hK.1 hP 0 rfl rfl 2 (by decide) (mm_h hts mm_w24) (fun _ h9 => h9) rfl dX11_stock_69 ?_
          refine va_get (D := G) (ci := 10) (v := .ref a_12) (C := RX10) (T := TX10) (N := 2) hx hb hts (mm_i inlX10) hown hK.1 hP 1 rfl rfl 0 (by decide) (mm_h hts mm_w199) (fun _ h9 => h9) rfl dX11_stock_72 ?_
          refine lv_iload_n hx hb dX11_stock_75 rfl (lv_at hl 2 rfl) ?_
          refine va_put (D := G) (ci := 0) (v := .int i_0) (ty := tyX0 3) (C := RX0) (T := TX0) (N := 18) hx hb hts (mm_i inlX0) tyX0 tyX0_ok nmX0 hown hK.1 hP hD hS 2 rfl rfl 3 (by decide) (mm_h hts mm_w1095) (fun _ h9 => h9) rfl (tyX0_ok 3 (by decide)) rfl rfl (Nat.le_of_ble_eq_true rfl) dX11_stock_76 ?_
          clear hP hD hS
          clear H locs
          intro H locs (hP : va_P G vwCl [(a_0, .inr (11, [.ref a_1, .ref a_2, .ref a_3, .ref a_4, .ref a_5, .ref a_6, .ref a_7, .ref a_8, .ref a_9, .ref a_10, .ref a_11])), (a_3, .inr (10, [.ref a_12, .ref a_13])), (a_12, .inr (0, [.int i_1, .int i_2, .int i_3, .int i_0, .int i_5, .int i_6, .int i_7, .int n10, .ref a_14, .ref a_15, .ref a_16, .ref a_17, .ref a_18, .ref a_19, .ref a_20, .ref a_21, .ref a_22, .ref a_23])), (a_21, .inl (cy 1, 30, .inl n11)), (a_22, .inl (cy 1, 30, .inl n12)), (a_23, .inl (cy 1, 30, .inl n13))] H) (hD : va_D A [(a_0, .inr (11, [.ref a_1, .ref a_2, .ref a_3, .ref a_4, .ref a_5, .ref a_6, .ref a_7, .ref a_8, .ref a_9, .ref a_10, .ref a_11])), (a_3, .inr (10, [.ref a_12, .ref a_13])), (a_12, .inr (0, [.int i_1, .int i_2, .int i_3, .int i_0, .int i_5, .int i_6, .int i_7, .int n10, .ref a_14, .ref a_15, .ref a_16, .ref a_17, .ref a_18, .ref a_19, .ref a_20, .ref a_21, .ref a_22, .ref a_23])), (a_21, .inl (cy 1, 30, .inl n11)), (a_22, .inl (cy 1, 30, .inl n12)), (a_23, .inl (cy 1, 30, .inl n13))]) hS
          refine lv_iload_n hx hb dX11_stock_79 rfl (lv_at hl 0 rfl) ?_
          subst hAe
          rw [hQ]
          exact W.iret (v := i_4) hx hb hr (fun t ht hW => ⟨⟨i_4, (i_0, n10, n11, n12, n13), rfl, ⟨q7, (mm_wk w14 (by decide)), w15, w16, w17, w18, (mm_wk h0 (by decide))⟩, by rw [ht]; exact hP, hK.warm hW, hD⟩, hS.F ht⟩) hS.2.2 dX11_stock_80
        · have q19 := mm_leR (mm_nlt c8) mm_k30 h1
          refine lv_bipush (v := (-5)) hx hb dX11_stock_41 (by decide) ?_
          subst hAe
          rw [hQ]
          exact W.iret (v := (-5)) hx hb hr (fun t ht hW => ⟨⟨(-5), (i_4, i_8, f_0, f_1, f_2), rfl, ⟨h0, (mm_wk q19 (by decide)), h2, h3, h4, h5, (mm_wk mm_km5 (by decide))⟩, by rw [ht]; exact hP, hK.warm hW, hD⟩, hS.F ht⟩) hS.2.2 dX11_stock_43
      · have q20 := mm_ltR (lo := 100) (mm_nle c6) mm_k99 q5 (by decide)
        refine lv_bipush (v := (-2)) hx hb dX11_stock_23 (by decide) ?_
        subst hAe
        rw [hQ]
        exact W.iret (v := (-2)) hx hb hr (fun t ht hW => ⟨⟨(-2), (i_4, i_8, f_0, f_1, f_2), rfl, ⟨h0, h1, h2, h3, h4, h5, (mm_wk mm_km2 (by decide))⟩, by rw [ht]; exact hP, hK.warm hW, hD⟩, hS.F ht⟩) hS.2.2 dX11_stock_25

set_option maxHeartbeats 4000000 in
set_option maxRecDepth 100000 in
theorem K500_X0_takeBackAct (l : Launch) (G : va_G) (cy : Nat → ClassId) (sz : Nat) (a_0 : Nat) (i_0 : Int32) (i_1 : Int32) (i_2 : Int32) (i_3 : Int32) (i_4 : Int32) (i_5 : Int32) (i_6 : Int32) (i_7 : Int32) (a_1 : Nat) (a_2 : Nat) (a_3 : Nat) (a_4 : Nat) (a_5 : Nat) (a_6 : Nat) (a_7 : Nat) (a_8 : Nat) (a_9 : Nat) (a_10 : Nat) (f_0 : Nat → Int32) (f_1 : Nat → Int32) (f_2 : Nat → Int32) (f_3 : Nat → Int32) (h0 : mm_rg i_3 0 99) (h1 : mm_rg i_7 0 30) (h2 : mm_ar f_0 0 9) (h3 : mm_ar f_1 (-1) 2) (h4 : mm_ar f_2 0 99) (h5 : mm_ar f_3 0 9) (h6 : mm_act f_1 f_2)  : mm_CV l yX0_takeBackAct (mm_ws yX0_takeBackAct cX0_takeBackAct 1 (none)) ({ frames := 1, cells := 0, slots := 0, locals := 24 } : Room) G cy sz [(a_0, .inr (0, [.int i_0, .int i_1, .int i_2, .int i_3, .int i_4, .int i_5, .int i_6, .int i_7, .ref a_1, .ref a_2, .ref a_3, .ref a_4, .ref a_5, .ref a_6, .ref a_7, .ref a_8, .ref a_9, .ref a_10])), (a_7, .inl (cy 1, 30, .inl f_0)), (a_8, .inl (cy 1, 30, .inl f_1)), (a_9, .inl (cy 1, 30, .inl f_2)), (a_10, .inl (cy 1, 30, .inl f_3))] [.ref a_0] (fun u : Int32 × Int32 × (Nat → Int32) => [(a_0, .inr (0, [.int i_0, .int i_1, .int i_2, .int u.1, .int i_4, .int i_5, .int i_6, .int u.2.1, .ref a_1, .ref a_2, .ref a_3, .ref a_4, .ref a_5, .ref a_6, .ref a_7, .ref a_8, .ref a_9, .ref a_10])), (a_7, .inl (cy 1, 30, .inl u.2.2)), (a_8, .inl (cy 1, 30, .inl f_1)), (a_9, .inl (cy 1, 30, .inl f_2)), (a_10, .inl (cy 1, 30, .inl f_3))]) (fun u : Int32 × Int32 × (Nat → Int32) => mm_rg u.1 0 99 ∧ mm_rg u.2.1 0 29 ∧ mm_ar u.2.2 0 9) 0 0 := by
  refine mm_begin (lv := [(0, .ref a_0)]) (by decide) (Nat.le_of_ble_eq_true rfl) rfl ?_
  intro p e s m below meth c A ls R args Q H locs hRe hQ hAe hx hb hr hlocks hml hown hnm hts hsz hA hS hP hK hD hZ hl
  have hRf : R.frames = 1 := by rw [hRe]
  have hRl : R.locals = 24 := by rw [hRe]
  have hRc : R.cells = 0 := by rw [hRe]
  have hRs : R.slots = 0 := by rw [hRe]
  refine lv_aload_n hx hb dX0_takeBackAct_0 rfl (lv_at hl 0 rfl) ?_
  refine va_get (D := G) (ci := 0) (v := .int i_7) (C := RX0) (T := TX0) (N := 18) hx hb hts (mm_i inlX0) hown hK.1 hP 0 rfl rfl 7 (by decide) (mm_h hts mm_w222) (fun _ h9 => h9) rfl dX0_takeBackAct_1 ?_
  refine lv_if_gt (tgt := 8) hx hb dX0_takeBackAct_4 (by decide) (fun c1 => ?_) (fun c1 => ?_)
  · have q2 := mm_ltR (lo := 1) (mm_lt c1) mm_k0 h1 (by decide)
    refine lv_aload_n hx hb dX0_takeBackAct_8 rfl (lv_at hl 0 rfl) ?_
    refine lv_dup hx hb dX0_takeBackAct_9 rfl ?_
    refine va_get (D := G) (ci := 0) (v := .int i_7) (C := RX0) (T := TX0) (N := 18) hx hb hts (mm_i inlX0) hown hK.1 hP 0 rfl rfl 7 (by decide) (mm_h hts mm_w222) (fun _ h9 => h9) rfl dX0_takeBackAct_10 ?_
    refine lv_iconst (v := 1) hx hb dX0_takeBackAct_13 (by decide) ?_
    refine lv_isub hx hb dX0_takeBackAct_14 ?_
    refine lv_topi (fun v3 ev3 => ?_)
    have rv3 : mm_rg v3 0 29 := mm_sub ev3 q2 mm_k1 (by decide) (by decide)
    have tv3 := mm_subEc ev3 q2 mm_k1 (by decide) (k := (-1)) (by decide)
    refine va_put (D := G) (ci := 0) (v := .int v3) (ty := tyX0 7) (C := RX0) (T := TX0) (N := 18) hx hb hts (mm_i inlX0) tyX0 tyX0_ok nmX0 hown hK.1 hP hD hS 0 rfl rfl 7 (by decide) (mm_h hts mm_w222) (fun _ h9 => h9) rfl (tyX0_ok 7 (by decide)) rfl rfl (Nat.le_of_ble_eq_true rfl) dX0_takeBackAct_15 ?_
    clear hP hD hS
    clear H locs
    intro H locs (hP : va_P G vwCl [(a_0, .inr (0, [.int i_0, .int i_1, .int i_2, .int i_3, .int i_4, .int i_5, .int i_6, .int v3, .ref a_1, .ref a_2, .ref a_3, .ref a_4, .ref a_5, .ref a_6, .ref a_7, .ref a_8, .ref a_9, .ref a_10])), (a_7, .inl (cy 1, 30, .inl f_0)), (a_8, .inl (cy 1, 30, .inl f_1)), (a_9, .inl (cy 1, 30, .inl f_2)), (a_10, .inl (cy 1, 30, .inl f_3))] H) (hD : va_D A [(a_0, .inr (0, [.int i_0, .int i_1, .int i_2, .int i_3, .int i_4, .int i_5, .int i_6, .int v3, .ref a_1, .ref a_2, .ref a_3, .ref a_4, .ref a_5, .ref a_6, .ref a_7, .ref a_8, .ref a_9, .ref a_10])), (a_7, .inl (cy 1, 30, .inl f_0)), (a_8, .inl (cy 1, 30, .inl f_1)), (a_9, .inl (cy 1, 30, .inl f_2)), (a_10, .inl (cy 1, 30, .inl f_3))]) hS
    refine lv_aload_n hx hb dX0_takeBackAct_18 rfl (lv_at hl 0 rfl) ?_
    refine va_get (D := G) (ci := 0) (v := .ref a_8) (C := RX0) (T := TX0) (N := 18) hx hb hts (mm_i inlX0) hown hK.1 hP 0 rfl rfl 15 (by decide) (mm_h hts mm_w79) (fun _ h9 => h9) rfl dX0_takeBackAct_19 ?_
    refine lv_aload_n hx hb dX0_takeBackAct_22 rfl (lv_at hl 0 rfl) ?_
    refine va_get (D := G) (ci := 0) (v := .int v3) (C := RX0) (T := TX0) (N := 18) hx hb hts (mm_i inlX0) hown hK.1 hP 0 rfl rfl 7 (by decide) (mm_h hts mm_w222) (fun _ h9 => h9) rfl dX0_takeBackAct_23 ?_
    refine va_iald hx hb hK.1 hP 2 1 rfl rfl (mm_in rv3 (by decide)) dX0_takeBackAct_26 ?_
    refine lv_topi (fun v4 ev4 => ?_)
    have rv4 : mm_rg v4 (-1) 2 := mm_eqv ev4 (h3 _)
    refine lv_iconst (v := (-1)) hx hb dX0_takeBackAct_27 (by decide) ?_
    refine lv_icmp_ne (tgt := 47) hx hb dX0_takeBackAct_28 (by decide) (fun c5 => ?_) (fun c5 => ?_)
    · have q6 := mm_neL (lo := 0) (mm_ne c5) rv4 mm_km1 (by decide) (by decide)
      refine lv_aload_n hx hb dX0_takeBackAct_47 rfl (lv_at hl 0 rfl) ?_
      refine lv_aload_n hx hb dX0_takeBackAct_48 rfl (lv_at hl 0 rfl) ?_
      refine va_get (D := G) (ci := 0) (v := .ref a_8) (C := RX0) (T := TX0) (N := 18) hx hb hts (mm_i inlX0) hown hK.1 hP 0 rfl rfl 15 (by decide) (mm_h hts mm_w79) (fun _ h9 => h9) rfl dX0_takeBackAct_49 ?_
      refine lv_aload_n hx hb dX0_takeBackAct_52 rfl (lv_at hl 0 rfl) ?_
      refine va_get (D := G) (ci := 0) (v := .int v3) (C := RX0) (T := TX0) (N := 18) hx hb hts (mm_i inlX0) hown hK.1 hP 0 rfl rfl 7 (by decide) (mm_h hts mm_w222) (fun _ h9 => h9) rfl dX0_takeBackAct_53 ?_
      refine va_iald hx hb hK.1 hP 2 1 rfl rfl (mm_in rv3 (by decide)) dX0_takeBackAct_56 ?_
      refine lv_topi (fun v7 ev7 => ?_)
      have rv7 : mm_rg v7 (-1) 2 := mm_eqv ev7 (h3 _)
      obtain rfl : v4 = v7 := ev4.trans ev7.symm
      refine lv_aload_n hx hb dX0_takeBackAct_57 rfl (lv_at hl 0 rfl) ?_
      refine va_get (D := G) (ci := 0) (v := .ref a_9) (C := RX0) (T := TX0) (N := 18) hx hb hts (mm_i inlX0) hown hK.1 hP 0 rfl rfl 16 (by decide) (mm_h hts mm_w80) (fun _ h9 => h9) rfl dX0_takeBackAct_58 ?_
      refine lv_aload_n hx hb dX0_takeBackAct_61 rfl (lv_at hl 0 rfl) ?_
      refine va_get (D := G) (ci := 0) (v := .int v3) (C := RX0) (T := TX0) (N := 18) hx hb hts (mm_i inlX0) hown hK.1 hP 0 rfl rfl 7 (by decide) (mm_h hts mm_w222) (fun _ h9 => h9) rfl dX0_takeBackAct_62 ?_
      refine va_iald hx hb hK.1 hP 3 1 rfl rfl (mm_in rv3 (by decide)) dX0_takeBackAct_65 ?_
      refine lv_topi (fun v8 ev8 => ?_)
      have rv8 : mm_rg v8 0 99 := mm_eqv ev8 (h4 _)
      have q9 : mm_rg v8 0 9 := mm_act_ld h6 ev4 ev8 q6 rv8 (by decide)
      refine lv_aload_n hx hb dX0_takeBackAct_66 rfl (lv_at hl 0 rfl) ?_
      refine va_get (D := G) (ci := 0) (v := .ref a_10) (C := RX0) (T := TX0) (N := 18) hx hb hts (mm_i inlX0) hown hK.1 hP 0 rfl rfl 17 (by decide) (mm_h hts mm_w81) (fun _ h9 => h9) rfl dX0_takeBackAct_67 ?_
      refine lv_aload_n hx hb dX0_takeBackAct_70 rfl (lv_at hl 0 rfl) ?_
      refine va_get (D := G) (ci := 0) (v := .int v3) (C := RX0) (T := TX0) (N := 18) hx hb hts (mm_i inlX0) hown hK.1 hP 0 rfl rfl 7 (by decide) (mm_h hts mm_w222) (fun _ h9 => h9) rfl dX0_takeBackAct_71 ?_
      refine va_iald hx hb hK.1 hP 4 1 rfl rfl (mm_in rv3 (by decide)) dX0_takeBackAct_74 ?_
      refine lv_topi (fun v10 ev10 => ?_)
      have rv10 : mm_rg v10 0 9 := mm_eqv ev10 (h5 _)
      refine mm_finv (va_runV (As := [.int v4, .int v8, .int v10]) (rest := []) ⟨hx, hb, hml, hown, hts⟩ (K496_X0_swapStart l G cy H.size a_0 v4 v8 v10 i_0 i_1 i_2 i_3 i_4 i_5 i_6 v3 a_1 a_2 a_3 a_4 a_5 a_6 a_7 a_8 a_9 a_10 f_0 q6 q9 rv10 h2) (cwV 3 hts (mm_gV mm_w1575 mm_w1547 mm_w1548 mm_w28 mm_w1549) rfl rfl rfl hd_X0_swapStart ⟨by rw [hRf]; exact Nat.le_of_ble_eq_true rfl, by rw [hRl]; exact Nat.le_of_ble_eq_true rfl⟩) (mm_preV hK hZ hS hA hP hD [0, 1] rfl rfl 0 rfl rfl rfl) rfl rfl hl.1 rfl (lv_room (Nat.le_of_ble_eq_true rfl)) dX0_takeBackAct_75 ⟨by rw [hRc]; exact Nat.le_of_ble_eq_true rfl, by rw [hRs]; exact Nat.le_of_ble_eq_true rfl⟩) hP hD hS hA (fun u : (Nat → Int32) => [(a_0, .inr (0, [.int i_0, .int i_1, .int i_2, .int i_3, .int i_4, .int i_5, .int i_6, .int v3, .ref a_1, .ref a_2, .ref a_3, .ref a_4, .ref a_5, .ref a_6, .ref a_7, .ref a_8, .ref a_9, .ref a_10])), (a_7, .inl (cy 1, 30, .inl u)), (a_8, .inl (cy 1, 30, .inl f_1)), (a_9, .inl (cy 1, 30, .inl f_2)), (a_10, .inl (cy 1, 30, .inl f_3))]) [0, 1] [2, 3, 4] (n := 5) (fun _ => rfl) (by decide +kernel) (by decide +kernel) rfl (fun _ => rfl) (wr := [(a_8, .inl (cy 1, 30, .inl f_1)), (a_9, .inl (cy 1, 30, .inl f_2)), (a_10, .inl (cy 1, 30, .inl f_3))]) rfl (fun _ => rfl) (fun _ => rfl) ?_
      clear hP hD hS
      clear H locs
      intro n11 H locs hw (hP : va_P G vwCl [(a_0, .inr (0, [.int i_0, .int i_1, .int i_2, .int i_3, .int i_4, .int i_5, .int i_6, .int v3, .ref a_1, .ref a_2, .ref a_3, .ref a_4, .ref a_5, .ref a_6, .ref a_7, .ref a_8, .ref a_9, .ref a_10])), (a_7, .inl (cy 1, 30, .inl n11)), (a_8, .inl (cy 1, 30, .inl f_1)), (a_9, .inl (cy 1, 30, .inl f_2)), (a_10, .inl (cy 1, 30, .inl f_3))] H) (hD : va_D A [(a_0, .inr (0, [.int i_0, .int i_1, .int i_2, .int i_3, .int i_4, .int i_5, .int i_6, .int v3, .ref a_1, .ref a_2, .ref a_3, .ref a_4, .ref a_5, .ref a_6, .ref a_7, .ref a_8, .ref a_9, .ref a_10])), (a_7, .inl (cy 1, 30, .inl n11)), (a_8, .inl (cy 1, 30, .inl f_1)), (a_9, .inl (cy 1, 30, .inl f_2)), (a_10, .inl (cy 1, 30, .inl f_3))]) hS
      have w12 := hw
      subst hAe
      rw [hQ]
      exact W.vret hx hb hr (fun t ht hW => ⟨⟨(i_3, v3, n11), rfl, ⟨h0, rv3, w12⟩, by rw [ht]; exact hP, hK.warm hW, hD⟩, hS.F ht⟩) hS.2.2 dX0_takeBackAct_78
    · have q13 := mm_eqI (lo := (-1)) (hi := (-1)) c5 rv4 mm_km1 (by decide)
      refine lv_aload_n hx hb dX0_takeBackAct_31 rfl (lv_at hl 0 rfl) ?_
      refine lv_aload_n hx hb dX0_takeBackAct_32 rfl (lv_at hl 0 rfl) ?_
      refine va_get (D := G) (ci := 0) (v := .ref a_9) (C := RX0) (T := TX0) (N := 18) hx hb hts (mm_i inlX0) hown hK.1 hP 0 rfl rfl 16 (by decide) (mm_h hts mm_w80) (fun _ h9 => h9) rfl dX0_takeBackAct_33 ?_
      refine lv_aload_n hx hb dX0_takeBackAct_36 rfl (lv_at hl 0 rfl) ?_
      refine va_get (D := G) (ci := 0) (v := .int v3) (C := RX0) (T := TX0) (N := 18) hx hb hts (mm_i inlX0) hown hK.1 hP 0 rfl rfl 7 (by decide) (mm_h hts mm_w222) (fun _ h9 => h9) rfl dX0_takeBackAct_37 ?_
      refine va_iald hx hb hK.1 hP 3 1 rfl rfl (mm_in rv3 (by decide)) dX0_takeBackAct_40 ?_
      refine lv_topi (fun v14 ev14 => ?_)
      have rv14 : mm_rg v14 0 99 := mm_eqv ev14 (h4 _)
      refine va_put (D := G) (ci := 0) (v := .int v14) (ty := tyX0 3) (C := RX0) (T := TX0) (N := 18) hx hb hts (mm_i inlX0) tyX0 tyX0_ok nmX0 hown hK.1 hP hD hS 0 rfl rfl 3 (by decide) (mm_h hts mm_w218) (fun _ h9 => h9) rfl (tyX0_ok 3 (by decide)) rfl rfl (Nat.le_of_ble_eq_true rfl) dX0_takeBackAct_41 ?_
      clear hP hD hS
      clear H locs
      intro H locs (hP : va_P G vwCl [(a_0, .inr (0, [.int i_0, .int i_1, .int i_2, .int v14, .int i_4, .int i_5, .int i_6, .int v3, .ref a_1, .ref a_2, .ref a_3, .ref a_4, .ref a_5, .ref a_6, .ref a_7, .ref a_8, .ref a_9, .ref a_10])), (a_7, .inl (cy 1, 30, .inl f_0)), (a_8, .inl (cy 1, 30, .inl f_1)), (a_9, .inl (cy 1, 30, .inl f_2)), (a_10, .inl (cy 1, 30, .inl f_3))] H) (hD : va_D A [(a_0, .inr (0, [.int i_0, .int i_1, .int i_2, .int v14, .int i_4, .int i_5, .int i_6, .int v3, .ref a_1, .ref a_2, .ref a_3, .ref a_4, .ref a_5, .ref a_6, .ref a_7, .ref a_8, .ref a_9, .ref a_10])), (a_7, .inl (cy 1, 30, .inl f_0)), (a_8, .inl (cy 1, 30, .inl f_1)), (a_9, .inl (cy 1, 30, .inl f_2)), (a_10, .inl (cy 1, 30, .inl f_3))]) hS
      refine lv_goto (tgt := 78) hx hb dX0_takeBackAct_44 (by decide) ?_
      subst hAe
      rw [hQ]
      exact W.vret hx hb hr (fun t ht hW => ⟨⟨(v14, v3, f_0), rfl, ⟨rv14, rv3, h2⟩, by rw [ht]; exact hP, hK.warm hW, hD⟩, hS.F ht⟩) hS.2.2 dX0_takeBackAct_78
  · have q15 := mm_leL (mm_nlt c1) h1 mm_k0
    subst hAe
    rw [hQ]
    exact W.vret hx hb hr (fun t ht hW => ⟨⟨(i_3, i_7, f_0), rfl, ⟨h0, (mm_wk q15 (by decide)), h2⟩, by rw [ht]; exact hP, hK.warm hW, hD⟩, hS.F ht⟩) hS.2.2 dX0_takeBackAct_7

set_option maxHeartbeats 4000000 in
set_option maxRecDepth 100000 in
theorem K501_X11_undo (l : Launch) (G : va_G) (cy : Nat → ClassId) (sz : Nat) (a_0 : Nat) (a_1 : Nat) (a_2 : Nat) (a_3 : Nat) (a_4 : Nat) (a_5 : Nat) (a_6 : Nat) (a_7 : Nat) (a_8 : Nat) (a_9 : Nat) (a_10 : Nat) (a_11 : Nat) (a_12 : Nat) (a_13 : Nat) (i_0 : Int32) (i_1 : Int32) (i_2 : Int32) (i_3 : Int32) (i_4 : Int32) (i_5 : Int32) (i_6 : Int32) (i_7 : Int32) (a_14 : Nat) (a_15 : Nat) (a_16 : Nat) (a_17 : Nat) (a_18 : Nat) (a_19 : Nat) (a_20 : Nat) (a_21 : Nat) (a_22 : Nat) (a_23 : Nat) (f_0 : Nat → Int32) (f_1 : Nat → Int32) (f_2 : Nat → Int32) (f_3 : Nat → Int32) (h0 : mm_rg i_3 0 99) (h1 : mm_rg i_7 0 30) (h2 : mm_ar f_0 0 9) (h3 : mm_ar f_1 (-1) 2) (h4 : mm_ar f_2 0 99) (h5 : mm_ar f_3 0 9) (h6 : mm_act f_1 f_2)  : mm_CI l yX11_undo (mm_ws yX11_undo cX11_undo 1 (some .int)) ({ frames := 2, cells := 0, slots := 0, locals := 44 } : Room) G cy sz [(a_0, .inr (11, [.ref a_1, .ref a_2, .ref a_3, .ref a_4, .ref a_5, .ref a_6, .ref a_7, .ref a_8, .ref a_9, .ref a_10, .ref a_11])), (a_3, .inr (10, [.ref a_12, .ref a_13])), (a_12, .inr (0, [.int i_0, .int i_1, .int i_2, .int i_3, .int i_4, .int i_5, .int i_6, .int i_7, .ref a_14, .ref a_15, .ref a_16, .ref a_17, .ref a_18, .ref a_19, .ref a_20, .ref a_21, .ref a_22, .ref a_23])), (a_20, .inl (cy 1, 30, .inl f_0)), (a_21, .inl (cy 1, 30, .inl f_1)), (a_22, .inl (cy 1, 30, .inl f_2)), (a_23, .inl (cy 1, 30, .inl f_3))] [.ref a_0] (fun u : Int32 × Int32 × (Nat → Int32) => [(a_0, .inr (11, [.ref a_1, .ref a_2, .ref a_3, .ref a_4, .ref a_5, .ref a_6, .ref a_7, .ref a_8, .ref a_9, .ref a_10, .ref a_11])), (a_3, .inr (10, [.ref a_12, .ref a_13])), (a_12, .inr (0, [.int i_0, .int i_1, .int i_2, .int u.1, .int i_4, .int i_5, .int i_6, .int u.2.1, .ref a_14, .ref a_15, .ref a_16, .ref a_17, .ref a_18, .ref a_19, .ref a_20, .ref a_21, .ref a_22, .ref a_23])), (a_20, .inl (cy 1, 30, .inl u.2.2)), (a_21, .inl (cy 1, 30, .inl f_1)), (a_22, .inl (cy 1, 30, .inl f_2)), (a_23, .inl (cy 1, 30, .inl f_3))]) (fun (r : Int32) (u : Int32 × Int32 × (Nat → Int32)) => mm_rg u.1 0 99 ∧ mm_rg u.2.1 0 30 ∧ mm_ar u.2.2 0 9 ∧ mm_rg r (-5) 29) 0 0 := by
  refine mm_begin (lv := [(0, .ref a_0)]) (by decide) (Nat.le_of_ble_eq_true rfl) rfl ?_
  intro p e s m below meth c A ls R args Q H locs hRe hQ hAe hx hb hr hlocks hml hown hnm hts hsz hA hS hP hK hD hZ hl
  have hRf : R.frames = 2 := by rw [hRe]
  have hRl : R.locals = 44 := by rw [hRe]
  have hRc : R.cells = 0 := by rw [hRe]
  have hRs : R.slots = 0 := by rw [hRe]
  refine lv_aload_n hx hb dX11_undo_0 rfl (lv_at hl 0 rfl) ?_
  refine va_get (D := G) (ci := 11) (v := .ref a_3) (C := RX11) (T := TX11) (N := 11) hx hb hts (mm_i inlX11) hown hK.1 hP 0 rfl rfl 2 (by decide) (mm_h hts mm_w24) (fun _ h9 => h9) rfl dX11_undo_1 ?_
  refine va_get (D := G) (ci := 10) (v := .ref a_12) (C := RX10) (T := TX10) (N := 2) hx hb hts (mm_i inlX10) hown hK.1 hP 1 rfl rfl 0 (by decide) (mm_h hts mm_w199) (fun _ h9 => h9) rfl dX11_undo_4 ?_
  refine va_get (D := G) (ci := 0) (v := .int i_0) (C := RX0) (T := TX0) (N := 18) hx hb hts (mm_i inlX0) hown hK.1 hP 2 rfl rfl 0 (by decide) (mm_h hts mm_w200) (fun _ h9 => h9) rfl dX11_undo_7 ?_
  refine lv_if_ne (tgt := 16) hx hb dX11_undo_10 (by decide) (fun c1 => ?_) (fun c1 => ?_)
  · refine lv_aload_n hx hb dX11_undo_16 rfl (lv_at hl 0 rfl) ?_
    refine va_get (D := G) (ci := 11) (v := .ref a_3) (C := RX11) (T := TX11) (N := 11) hx hb hts (mm_i inlX11) hown hK.1 hP 0 rfl rfl 2 (by decide) (mm_h hts mm_w24) (fun _ h9 => h9) rfl dX11_undo_17 ?_
    refine va_get (D := G) (ci := 10) (v := .ref a_12) (C := RX10) (T := TX10) (N := 2) hx hb hts (mm_i inlX10) hown hK.1 hP 1 rfl rfl 0 (by decide) (mm_h hts mm_w199) (fun _ h9 => h9) rfl dX11_undo_20 ?_
    refine va_get (D := G) (ci := 0) (v := .int i_7) (C := RX0) (T := TX0) (N := 18) hx hb hts (mm_i inlX0) hown hK.1 hP 2 rfl rfl 7 (by decide) (mm_h hts mm_w1540) (fun _ h9 => h9) rfl dX11_undo_23 ?_
    refine lv_if_ne (tgt := 32) hx hb dX11_undo_26 (by decide) (fun c2 => ?_) (fun c2 => ?_)
    · have q3 := mm_neL (lo := 1) (mm_ne c2) h1 mm_k0 (by decide) (by decide)
      refine lv_aload_n hx hb dX11_undo_32 rfl (lv_at hl 0 rfl) ?_
      refine va_get (D := G) (ci := 11) (v := .ref a_3) (C := RX11) (T := TX11) (N := 11) hx hb hts (mm_i inlX11) hown hK.1 hP 0 rfl rfl 2 (by decide) (mm_h hts mm_w24) (fun _ h9 => h9) rfl dX11_undo_33 ?_
      refine va_get (D := G) (ci := 10) (v := .ref a_12) (C := RX10) (T := TX10) (N := 2) hx hb hts (mm_i inlX10) hown hK.1 hP 1 rfl rfl 0 (by decide) (mm_h hts mm_w199) (fun _ h9 => h9) rfl dX11_undo_36 ?_
      refine mm_finv (va_runV (As := []) (rest := []) ⟨hx, hb, hml, hown, hts⟩ (K500_X0_takeBackAct l G cy H.size a_12 i_0 i_1 i_2 i_3 i_4 i_5 i_6 i_7 a_14 a_15 a_16 a_17 a_18 a_19 a_20 a_21 a_22 a_23 f_0 f_1 f_2 f_3 h0 (mm_wk q3 (by decide)) h2 h3 h4 h5 h6) (cwV 0 hts (mm_gV mm_w1571 mm_w1572 mm_w1573 mm_w28 mm_w1574) rfl rfl rfl hd_X0_takeBackAct ⟨by rw [hRf]; exact Nat.le_of_ble_eq_true rfl, by rw [hRl]; exact Nat.le_of_ble_eq_true rfl⟩) (mm_preV hK hZ hS hA hP hD [2, 3, 4, 5, 6] rfl rfl 2 rfl rfl rfl) rfl rfl hl.1 rfl (lv_room (Nat.le_of_ble_eq_true rfl)) dX11_undo_39 ⟨by rw [hRc]; exact Nat.le_of_ble_eq_true rfl, by rw [hRs]; exact Nat.le_of_ble_eq_true rfl⟩) hP hD hS hA (fun u : Int32 × Int32 × (Nat → Int32) => [(a_0, .inr (11, [.ref a_1, .ref a_2, .ref a_3, .ref a_4, .ref a_5, .ref a_6, .ref a_7, .ref a_8, .ref a_9, .ref a_10, .ref a_11])), (a_3, .inr (10, [.ref a_12, .ref a_13])), (a_12, .inr (0, [.int i_0, .int i_1, .int i_2, .int u.1, .int i_4, .int i_5, .int i_6, .int u.2.1, .ref a_14, .ref a_15, .ref a_16, .ref a_17, .ref a_18, .ref a_19, .ref a_20, .ref a_21, .ref a_22, .ref a_23])), (a_20, .inl (cy 1, 30, .inl u.2.2)), (a_21, .inl (cy 1, 30, .inl f_1)), (a_22, .inl (cy 1, 30, .inl f_2)), (a_23, .inl (cy 1, 30, .inl f_3))]) [2, 3, 4, 5, 6] [0, 1] (n := 7) (fun _ => rfl) (by decide +kernel) (by decide +kernel) rfl (fun _ => rfl) (wr := [(a_0, .inr (11, [.ref a_1, .ref a_2, .ref a_3, .ref a_4, .ref a_5, .ref a_6, .ref a_7, .ref a_8, .ref a_9, .ref a_10, .ref a_11])), (a_3, .inr (10, [.ref a_12, .ref a_13]))]) rfl (fun _ => rfl) (fun _ => rfl) ?_
      clear hP hD hS
      clear H locs
      intro u
      obtain ⟨n4, n5, n6⟩ := u
      intro H locs hw (hP : va_P G vwCl [(a_0, .inr (11, [.ref a_1, .ref a_2, .ref a_3, .ref a_4, .ref a_5, .ref a_6, .ref a_7, .ref a_8, .ref a_9, .ref a_10, .ref a_11])), (a_3, .inr (10, [.ref a_12, .ref a_13])), (a_12, .inr (0, [.int i_0, .int i_1, .int i_2, .int n4, .int i_4, .int i_5, .int i_6, .int n5, .ref a_14, .ref a_15, .ref a_16, .ref a_17, .ref a_18, .ref a_19, .ref a_20, .ref a_21, .ref a_22, .ref a_23])), (a_20, .inl (cy 1, 30, .inl n6)), (a_21, .inl (cy 1, 30, .inl f_1)), (a_22, .inl (cy 1, 30, .inl f_2)), (a_23, .inl (cy 1, 30, .inl f_3))] H) (hD : va_D A [(a_0, .inr (11, [.ref a_1, .ref a_2, .ref a_3, .ref a_4, .ref a_5, .ref a_6, .ref a_7, .ref a_8, .ref a_9, .ref a_10, .ref a_11])), (a_3, .inr (10, [.ref a_12, .ref a_13])), (a_12, .inr (0, [.int i_0, .int i_1, .int i_2, .int n4, .int i_4, .int i_5, .int i_6, .int n5, .ref a_14, .ref a_15, .ref a_16, .ref a_17, .ref a_18, .ref a_19, .ref a_20, .ref a_21, .ref a_22, .ref a_23])), (a_20, .inl (cy 1, 30, .inl n6)), (a_21, .inl (cy 1, 30, .inl f_1)), (a_22, .inl (cy 1, 30, .inl f_2)), (a_23, .inl (cy 1, 30, .inl f_3))]) hS
      obtain ⟨w7, w8, w9⟩ := hw
      refine lv_aload_n hx hb dX11_undo_42 rfl (lv_at hl 0 rfl) ?_
      refine va_get (D := G) (ci := 11) (v := .ref a_3) (C := RX11) (T := TX11) (N := 11) hx hb hts (mm_i inlX11) hown hK.1 hP 0 rfl rfl 2 (by decide) (mm_h hts mm_w24) (fun _ h9 => h9) rfl dX11_undo_43 ?_
      refine va_get (D := G) (ci := 10) (v := .ref a_12) (C := RX10) (T := TX10) (N := 2) hx hb hts (mm_i inlX10) hown hK.1 hP 1 rfl rfl 0 (by decide) (mm_h hts mm_w199) (fun _ h9 => h9) rfl dX11_undo_46 ?_
      refine va_get (D := G) (ci := 0) (v := .int n5) (C := RX0) (T := TX0) (N := 18) hx hb hts (mm_i inlX0) hown hK.1 hP 2 rfl rfl 7 (by decide) (mm_h hts mm_w1540) (fun _ h9 => h9) rfl dX11_undo_49 ?_
      subst hAe
      rw [hQ]
      exact W.iret (v := n5) hx hb hr (fun t ht hW => ⟨⟨n5, (n4, n5, n6), rfl, ⟨w7, (mm_wk w8 (by decide)), w9, (mm_wk w8 (by decide))⟩, by rw [ht]; exact hP, hK.warm hW, hD⟩, hS.F ht⟩) hS.2.2 dX11_undo_52
    · have q10 := mm_eqI (lo := 0) (hi := 0) c2 h1 mm_k0 (by decide)
      refine lv_bipush (v := (-5)) hx hb dX11_undo_29 (by decide) ?_
      subst hAe
      rw [hQ]
      exact W.iret (v := (-5)) hx hb hr (fun t ht hW => ⟨⟨(-5), (i_3, i_7, f_0), rfl, ⟨h0, (mm_wk q10 (by decide)), h2, (mm_wk mm_km5 (by decide))⟩, by rw [ht]; exact hP, hK.warm hW, hD⟩, hS.F ht⟩) hS.2.2 dX11_undo_31
  · have q11 := mm_eqI (lo := 0) (hi := 0) c1 (mm_top i_0) mm_k0 (by decide)
    refine lv_bipush (v := (-2)) hx hb dX11_undo_13 (by decide) ?_
    subst hAe
    rw [hQ]
    exact W.iret (v := (-2)) hx hb hr (fun t ht hW => ⟨⟨(-2), (i_3, i_7, f_0), rfl, ⟨h0, h1, h2, (mm_wk mm_km2 (by decide))⟩, by rw [ht]; exact hP, hK.warm hW, hD⟩, hS.F ht⟩) hS.2.2 dX11_undo_15

set_option maxHeartbeats 4000000 in
set_option maxRecDepth 100000 in
theorem K502_X11_anew (l : Launch) (G : va_G) (cy : Nat → ClassId) (sz : Nat) (a_0 : Nat) (a_1 : Nat) (a_2 : Nat) (a_3 : Nat) (a_4 : Nat) (a_5 : Nat) (a_6 : Nat) (a_7 : Nat) (a_8 : Nat) (a_9 : Nat) (a_10 : Nat) (a_11 : Nat) (a_12 : Nat) (a_13 : Nat) (i_0 : Int32) (i_1 : Int32) (i_2 : Int32) (i_3 : Int32) (i_4 : Int32) (i_5 : Int32) (i_6 : Int32) (i_7 : Int32) (a_14 : Nat) (a_15 : Nat) (a_16 : Nat) (a_17 : Nat) (a_18 : Nat) (a_19 : Nat) (a_20 : Nat) (a_21 : Nat) (a_22 : Nat) (a_23 : Nat) (f_0 : Nat → Int32) (f_1 : Nat → Int32) (f_2 : Nat → Int32) (f_3 : Nat → Int32) (h0 : mm_rg i_3 0 99) (h1 : mm_rg i_7 0 30) (h2 : mm_ar f_0 0 9) (h3 : mm_ar f_1 (-1) 2) (h4 : mm_ar f_2 0 99) (h5 : mm_ar f_3 0 9) (h6 : mm_act f_1 f_2)  : mm_CI l yX11_anew (mm_ws yX11_anew cX11_anew 3 (some .int)) ({ frames := 2, cells := 0, slots := 0, locals := 44 } : Room) G cy sz [(a_0, .inr (11, [.ref a_1, .ref a_2, .ref a_3, .ref a_4, .ref a_5, .ref a_6, .ref a_7, .ref a_8, .ref a_9, .ref a_10, .ref a_11])), (a_3, .inr (10, [.ref a_12, .ref a_13])), (a_12, .inr (0, [.int i_0, .int i_1, .int i_2, .int i_3, .int i_4, .int i_5, .int i_6, .int i_7, .ref a_14, .ref a_15, .ref a_16, .ref a_17, .ref a_18, .ref a_19, .ref a_20, .ref a_21, .ref a_22, .ref a_23])), (a_20, .inl (cy 1, 30, .inl f_0)), (a_21, .inl (cy 1, 30, .inl f_1)), (a_22, .inl (cy 1, 30, .inl f_2)), (a_23, .inl (cy 1, 30, .inl f_3))] [.ref a_0] (fun u : Int32 × Int32 × (Nat → Int32) => [(a_0, .inr (11, [.ref a_1, .ref a_2, .ref a_3, .ref a_4, .ref a_5, .ref a_6, .ref a_7, .ref a_8, .ref a_9, .ref a_10, .ref a_11])), (a_3, .inr (10, [.ref a_12, .ref a_13])), (a_12, .inr (0, [.int i_0, .int i_1, .int i_2, .int u.1, .int i_4, .int i_5, .int i_6, .int u.2.1, .ref a_14, .ref a_15, .ref a_16, .ref a_17, .ref a_18, .ref a_19, .ref a_20, .ref a_21, .ref a_22, .ref a_23])), (a_20, .inl (cy 1, 30, .inl u.2.2)), (a_21, .inl (cy 1, 30, .inl f_1)), (a_22, .inl (cy 1, 30, .inl f_2)), (a_23, .inl (cy 1, 30, .inl f_3))]) (fun (r : Int32) (u : Int32 × Int32 × (Nat → Int32)) => mm_rg u.1 0 99 ∧ mm_rg u.2.1 0 30 ∧ mm_ar u.2.2 0 9 ∧ mm_rg r (-2) 30) 0 0 := by
  refine mm_begin (lv := [(0, .ref a_0)]) (by decide) (Nat.le_of_ble_eq_true rfl) rfl ?_
  intro p e s m below meth c A ls R args Q H locs hRe hQ hAe hx hb hr hlocks hml hown hnm hts hsz hA hS hP hK hD hZ hl
  have hRf : R.frames = 2 := by rw [hRe]
  have hRl : R.locals = 44 := by rw [hRe]
  have hRc : R.cells = 0 := by rw [hRe]
  have hRs : R.slots = 0 := by rw [hRe]
  refine lv_aload_n hx hb dX11_anew_0 rfl (lv_at hl 0 rfl) ?_
  refine va_get (D := G) (ci := 11) (v := .ref a_3) (C := RX11) (T := TX11) (N := 11) hx hb hts (mm_i inlX11) hown hK.1 hP 0 rfl rfl 2 (by decide) (mm_h hts mm_w24) (fun _ h9 => h9) rfl dX11_anew_1 ?_
  refine va_get (D := G) (ci := 10) (v := .ref a_12) (C := RX10) (T := TX10) (N := 2) hx hb hts (mm_i inlX10) hown hK.1 hP 1 rfl rfl 0 (by decide) (mm_h hts mm_w199) (fun _ h9 => h9) rfl dX11_anew_4 ?_
  refine va_get (D := G) (ci := 0) (v := .int i_0) (C := RX0) (T := TX0) (N := 18) hx hb hts (mm_i inlX0) hown hK.1 hP 2 rfl rfl 0 (by decide) (mm_h hts mm_w200) (fun _ h9 => h9) rfl dX11_anew_7 ?_
  refine lv_if_ne (tgt := 16) hx hb dX11_anew_10 (by decide) (fun c1 => ?_) (fun c1 => ?_)
  · refine lv_aload_n hx hb dX11_anew_16 rfl (lv_at hl 0 rfl) ?_
    refine va_get (D := G) (ci := 11) (v := .ref a_3) (C := RX11) (T := TX11) (N := 11) hx hb hts (mm_i inlX11) hown hK.1 hP 0 rfl rfl 2 (by decide) (mm_h hts mm_w24) (fun _ h9 => h9) rfl dX11_anew_17 ?_
    refine va_get (D := G) (ci := 10) (v := .ref a_12) (C := RX10) (T := TX10) (N := 2) hx hb hts (mm_i inlX10) hown hK.1 hP 1 rfl rfl 0 (by decide) (mm_h hts mm_w199) (fun _ h9 => h9) rfl dX11_anew_20 ?_
    refine va_get (D := G) (ci := 0) (v := .int i_7) (C := RX0) (T := TX0) (N := 18) hx hb hts (mm_i inlX0) hown hK.1 hP 2 rfl rfl 7 (by decide) (mm_h hts mm_w1540) (fun _ h9 => h9) rfl dX11_anew_23 ?_
    refine lv_istore_n (lv' := [(1, .int i_7), (0, .ref a_0)]) hx hb dX11_anew_26 rfl hl (by decide) rfl ?_
    clear hl
    clear ls
    intro ls hl
    refine lv_iconst (v := 0) hx hb dX11_anew_27 (by decide) ?_
    refine lv_istore_n (lv' := [(2, .int 0), (1, .int i_7), (0, .ref a_0)]) hx hb dX11_anew_28 rfl hl (by decide) rfl ?_
    clear hl
    clear ls
    intro ls hl
    have L29_144 : ∀ (n : Nat) (x29_2_141 : Int32) (y29_2_3_142 : Int32) (y29_2_7_143 : Int32) (z29_3_144 : Nat → Int32), mm_rg x29_2_141 0 30 → mm_rg y29_2_3_142 0 99 → mm_rg y29_2_7_143 0 30 → mm_ar z29_3_144 0 9 → (30 - x29_2_141.toInt).toNat < n → ∀ (H : Heap) (locs : List Loc), va_P G vwCl [(a_0, .inr (11, [.ref a_1, .ref a_2, .ref a_3, .ref a_4, .ref a_5, .ref a_6, .ref a_7, .ref a_8, .ref a_9, .ref a_10, .ref a_11])), (a_3, .inr (10, [.ref a_12, .ref a_13])), (a_12, .inr (0, [.int i_0, .int i_1, .int i_2, .int y29_2_3_142, .int i_4, .int i_5, .int i_6, .int y29_2_7_143, .ref a_14, .ref a_15, .ref a_16, .ref a_17, .ref a_18, .ref a_19, .ref a_20, .ref a_21, .ref a_22, .ref a_23])), (a_20, .inl (cy 1, 30, .inl z29_3_144)), (a_21, .inl (cy 1, 30, .inl f_1)), (a_22, .inl (cy 1, 30, .inl f_2)), (a_23, .inl (cy 1, 30, .inl f_3))] H → va_D A [(a_0, .inr (11, [.ref a_1, .ref a_2, .ref a_3, .ref a_4, .ref a_5, .ref a_6, .ref a_7, .ref a_8, .ref a_9, .ref a_10, .ref a_11])), (a_3, .inr (10, [.ref a_12, .ref a_13])), (a_12, .inr (0, [.int i_0, .int i_1, .int i_2, .int y29_2_3_142, .int i_4, .int i_5, .int i_6, .int y29_2_7_143, .ref a_14, .ref a_15, .ref a_16, .ref a_17, .ref a_18, .ref a_19, .ref a_20, .ref a_21, .ref a_22, .ref a_23])), (a_20, .inl (cy 1, 30, .inl z29_3_144)), (a_21, .inl (cy 1, 30, .inl f_1)), (a_22, .inl (cy 1, 30, .inl f_2)), (a_23, .inl (cy 1, 30, .inl f_3))] → va_S A s.heap H locs → ∀ (ls : Array Slot), lv_has ls 3 [(2, .int x29_2_141), (1, .int i_7), (0, .ref a_0)] → W p l e R s m args below meth c H locs 0 0 Q (F0 m 29 ls []) := by
      intro n
      induction n with
      | zero => intro x29_2_141 y29_2_3_142 y29_2_7_143 z29_3_144 rx29_2_141 ry29_2_3_142 ry29_2_7_143 rz29_3_144 hm; exact absurd hm (Nat.not_lt_zero _)
      | succ n ih29 =>
        intro x29_2_141 y29_2_3_142 y29_2_7_143 z29_3_144 rx29_2_141 ry29_2_3_142 ry29_2_7_143 rz29_3_144 hm29 H locs hP hD hS ls hl
        refine lv_iload_n hx hb dX11_anew_29 rfl (lv_at hl 0 rfl) ?_
        refine lv_iload_n hx hb dX11_anew_30 rfl (lv_at hl 1 rfl) ?_
        refine lv_icmp_ge (tgt := 50) hx hb dX11_anew_31 (by decide) (fun c146 => ?_) (fun c146 => ?_)
        · refine lv_iload_n hx hb dX11_anew_50 rfl (lv_at hl 1 rfl) ?_
          subst hAe
          rw [hQ]
          exact W.iret (v := i_7) hx hb hr (fun t ht hW => ⟨⟨i_7, (y29_2_3_142, y29_2_7_143, z29_3_144), rfl, ⟨ry29_2_3_142, ry29_2_7_143, rz29_3_144, (mm_wk h1 (by decide))⟩, by rw [ht]; exact hP, hK.warm hW, hD⟩, hS.F ht⟩) hS.2.2 dX11_anew_51
        · have q147 := mm_ltL (h := 29) (mm_nle c146) rx29_2_141 h1 (by decide)
          have q148 := mm_ltR (lo := 1) (mm_nle c146) rx29_2_141 h1 (by decide)
          refine lv_aload_n hx hb dX11_anew_34 rfl (lv_at hl 2 rfl) ?_
          refine va_get (D := G) (ci := 11) (v := .ref a_3) (C := RX11) (T := TX11) (N := 11) hx hb hts (mm_i inlX11) hown hK.1 hP 0 rfl rfl 2 (by decide) (mm_h hts mm_w24) (fun _ h9 => h9) rfl dX11_anew_35 ?_
          refine va_get (D := G) (ci := 10) (v := .ref a_12) (C := RX10) (T := TX10) (N := 2) hx hb hts (mm_i inlX10) hown hK.1 hP 1 rfl rfl 0 (by decide) (mm_h hts mm_w199) (fun _ h9 => h9) rfl dX11_anew_38 ?_
          refine mm_finv (va_runV (As := []) (rest := []) ⟨hx, hb, hml, hown, hts⟩ (K500_X0_takeBackAct l G cy H.size a_12 i_0 i_1 i_2 y29_2_3_142 i_4 i_5 i_6 y29_2_7_143 a_14 a_15 a_16 a_17 a_18 a_19 a_20 a_21 a_22 a_23 z29_3_144 f_1 f_2 f_3 ry29_2_3_142 ry29_2_7_143 rz29_3_144 h3 h4 h5 h6) (cwV 0 hts (mm_gV mm_w1571 mm_w1572 mm_w1573 mm_w28 mm_w1574) rfl rfl rfl hd_X0_takeBackAct ⟨by rw [hRf]; exact Nat.le_of_ble_eq_true rfl, by rw [hRl]; exact Nat.le_of_ble_eq_true rfl⟩) (mm_preV hK hZ hS hA hP hD [2, 3, 4, 5, 6] rfl rfl 2 rfl rfl rfl) rfl rfl hl.1 rfl (lv_room (Nat.le_of_ble_eq_true rfl)) dX11_anew_41 ⟨by rw [hRc]; exact Nat.le_of_ble_eq_true rfl, by rw [hRs]; exact Nat.le_of_ble_eq_true rfl⟩) hP hD hS hA (fun u : Int32 × Int32 × (Nat → Int32) => [(a_0, .inr (11, [.ref a_1, .ref a_2, .ref a_3, .ref a_4, .ref a_5, .ref a_6, .ref a_7, .ref a_8, .ref a_9, .ref a_10, .ref a_11])), (a_3, .inr (10, [.ref a_12, .ref a_13])), (a_12, .inr (0, [.int i_0, .int i_1, .int i_2, .int u.1, .int i_4, .int i_5, .int i_6, .int u.2.1, .ref a_14, .ref a_15, .ref a_16, .ref a_17, .ref a_18, .ref a_19, .ref a_20, .ref a_21, .ref a_22, .ref a_23])), (a_20, .inl (cy 1, 30, .inl u.2.2)), (a_21, .inl (cy 1, 30, .inl f_1)), (a_22, .inl (cy 1, 30, .inl f_2)), (a_23, .inl (cy 1, 30, .inl f_3))]) [2, 3, 4, 5, 6] [0, 1] (n := 7) (fun _ => rfl) (by decide +kernel) (by decide +kernel) rfl (fun _ => rfl) (wr := [(a_0, .inr (11, [.ref a_1, .ref a_2, .ref a_3, .ref a_4, .ref a_5, .ref a_6, .ref a_7, .ref a_8, .ref a_9, .ref a_10, .ref a_11])), (a_3, .inr (10, [.ref a_12, .ref a_13]))]) rfl (fun _ => rfl) (fun _ => rfl) ?_
          clear hP hD hS
          clear H locs
          intro u
          obtain ⟨n149, n150, n151⟩ := u
          intro H locs hw (hP : va_P G vwCl [(a_0, .inr (11, [.ref a_1, .ref a_2, .ref a_3, .ref a_4, .ref a_5, .ref a_6, .ref a_7, .ref a_8, .ref a_9, .ref a_10, .ref a_11])), (a_3, .inr (10, [.ref a_12, .ref a_13])), (a_12, .inr (0, [.int i_0, .int i_1, .int i_2, .int n149, .int i_4, .int i_5, .int i_6, .int n150, .ref a_14, .ref a_15, .ref a_16, .ref a_17, .ref a_18, .ref a_19, .ref a_20, .ref a_21, .ref a_22, .ref a_23])), (a_20, .inl (cy 1, 30, .inl n151)), (a_21, .inl (cy 1, 30, .inl f_1)), (a_22, .inl (cy 1, 30, .inl f_2)), (a_23, .inl (cy 1, 30, .inl f_3))] H) (hD : va_D A [(a_0, .inr (11, [.ref a_1, .ref a_2, .ref a_3, .ref a_4, .ref a_5, .ref a_6, .ref a_7, .ref a_8, .ref a_9, .ref a_10, .ref a_11])), (a_3, .inr (10, [.ref a_12, .ref a_13])), (a_12, .inr (0, [.int i_0, .int i_1, .int i_2, .int n149, .int i_4, .int i_5, .int i_6, .int n150, .ref a_14, .ref a_15, .ref a_16, .ref a_17, .ref a_18, .ref a_19, .ref a_20, .ref a_21, .ref a_22, .ref a_23])), (a_20, .inl (cy 1, 30, .inl n151)), (a_21, .inl (cy 1, 30, .inl f_1)), (a_22, .inl (cy 1, 30, .inl f_2)), (a_23, .inl (cy 1, 30, .inl f_3))]) hS
          obtain ⟨w152, w153, w154⟩ := hw
          obtain ⟨v155, ev155⟩ : ∃ y : Int32, y = x29_2_141 + 1 := ⟨_, rfl⟩
          refine lv_iinc (v := v155) (lv' := [(2, .int v155), (1, .int i_7), (0, .ref a_0)]) hx hb dX11_anew_44 hl (k := 0) rfl (by rw [ev155]; rfl) (by decide) rfl ?_
          clear hl
          clear ls
          intro ls hl
          have rv155 : mm_rg v155 1 30 := mm_add ev155 q147 mm_k1 (by decide) (by decide)
          have tv155 := mm_addEc ev155 q147 mm_k1 (by decide) (k := 1) (by decide)
          refine lv_goto (tgt := 29) hx hb dX11_anew_47 (by decide) ?_
          exact ih29 v155 n149 n150 n151 (mm_wk rv155 (by decide)) w152 (mm_wk w153 (by decide)) w154 (mm_mu hm29 tv155 (by decide) (rv155).2 (by decide)) H locs hP hD hS ls (lv_sub hl [0, 1, 2] rfl)
    exact L29_144 _ 0 i_3 i_7 f_0 (mm_wk mm_k0 (by decide)) h0 h1 h2 (Nat.lt_succ_self _) H locs hP hD hS ls (lv_sub hl [0, 1, 2] rfl)
  · have q156 := mm_eqI (lo := 0) (hi := 0) c1 (mm_top i_0) mm_k0 (by decide)
    refine lv_bipush (v := (-2)) hx hb dX11_anew_13 (by decide) ?_
    subst hAe
    rw [hQ]
    exact W.iret (v := (-2)) hx hb hr (fun t ht hW => ⟨⟨(-2), (i_3, i_7, f_0), rfl, ⟨h0, h1, h2, (mm_wk mm_km2 (by decide))⟩, by rw [ht]; exact hP, hK.warm hW, hD⟩, hS.F ht⟩) hS.2.2 dX11_anew_15

set_option maxHeartbeats 4000000 in
set_option maxRecDepth 100000 in
theorem K503_X11_isSeed (l : Launch) (G : va_G) (cy : Nat → ClassId) (sz : Nat) (i_0 : Int32)   : mm_CI l yX11_isSeed (mm_ws yX11_isSeed cX11_isSeed 1 (some .boolean)) ({ frames := 0, cells := 0, slots := 0, locals := 0 } : Room) G cy sz [] [.int i_0] (fun u : Unit => []) (fun (r : Int32) (u : Unit) => ((0 = r ∧ mm_rg i_0 (-2147483648) 2147483647) ∨ (1 = r ∧ mm_rg i_0 0 2000000000))) 0 0 := by
  refine mm_begin (lv := [(0, .int i_0)]) (by decide) (Nat.le_of_ble_eq_true rfl) rfl ?_
  intro p e s m below meth c A ls R args Q H locs hRe hQ hAe hx hb hr hlocks hml hown hnm hts hsz hA hS hP hK hD hZ hl
  have hRf : R.frames = 0 := by rw [hRe]
  have hRl : R.locals = 0 := by rw [hRe]
  have hRc : R.cells = 0 := by rw [hRe]
  have hRs : R.slots = 0 := by rw [hRe]
  refine lv_iload_n hx hb dX11_isSeed_0 rfl (lv_at hl 0 rfl) ?_
  refine lv_if_lt (tgt := 15) hx hb dX11_isSeed_1 (by decide) (fun c1 => ?_) (fun c1 => ?_)
  · have q2 := mm_ltL (h := (-1)) (mm_lt c1) (mm_top i_0) mm_k0 (by decide)
    refine lv_iconst (v := 0) hx hb dX11_isSeed_15 (by decide) ?_
    subst hAe
    rw [hQ]
    exact W.zret (v := 0) hx hb hr rfl (fun t ht hW => ⟨⟨0, (), rfl, (Or.inl ⟨rfl, (mm_wk q2 (by decide))⟩), by rw [ht]; exact hP, hK.warm hW, hD⟩, hS.F ht⟩) hS.2.2 dX11_isSeed_16
  · have q3 := mm_leR (mm_nlt c1) mm_k0 (mm_top i_0)
    refine lv_iload_n hx hb dX11_isSeed_4 rfl (lv_at hl 0 rfl) ?_
    refine lv_ldcw (v := 2000000000) hx hb hown (mm_h hts mm_w1595) dX11_isSeed_5 ?_
    refine lv_icmp_gt (tgt := 15) hx hb dX11_isSeed_8 (by decide) (fun c4 => ?_) (fun c4 => ?_)
    · have q5 := mm_ltR (lo := 2000000001) (mm_lt c4) mm_k2000000000 q3 (by decide)
      refine lv_iconst (v := 0) hx hb dX11_isSeed_15 (by decide) ?_
      subst hAe
      rw [hQ]
      exact W.zret (v := 0) hx hb hr rfl (fun t ht hW => ⟨⟨0, (), rfl, (Or.inl ⟨rfl, (mm_wk q5 (by decide))⟩), by rw [ht]; exact hP, hK.warm hW, hD⟩, hS.F ht⟩) hS.2.2 dX11_isSeed_16
    · have q6 := mm_leL (mm_nlt c4) q3 mm_k2000000000
      refine lv_iconst (v := 1) hx hb dX11_isSeed_11 (by decide) ?_
      refine lv_goto (tgt := 16) hx hb dX11_isSeed_12 (by decide) ?_
      subst hAe
      rw [hQ]
      exact W.zret (v := 1) hx hb hr rfl (fun t ht hW => ⟨⟨1, (), rfl, (Or.inr ⟨rfl, q6⟩), by rw [ht]; exact hP, hK.warm hW, hD⟩, hS.F ht⟩) hS.2.2 dX11_isSeed_16

set_option maxHeartbeats 4000000 in
set_option maxRecDepth 100000 in
theorem K504_X5_drawDelay (l : Launch) (G : va_G) (cy : Nat → ClassId) (sz : Nat) (a_0 : Nat) (i_0 : Int32) (i_1 : Int32) (a_1 : Nat) (a_2 : Nat) (a_3 : Nat) (i_2 : Int32) (i_3 : Int32) (i_4 : Int32) (i_5 : Int32) (i_6 : Int32) (i_7 : Int32) (i_8 : Int32) (i_9 : Int32) (a_4 : Nat) (a_5 : Nat) (a_6 : Nat) (a_7 : Nat) (a_8 : Nat) (a_9 : Nat) (a_10 : Nat) (a_11 : Nat) (a_12 : Nat) (a_13 : Nat) (a_14 : Nat) (h0 : mm_rg i_0 0 2000000000) (h1 : mm_rg i_1 0 7) (h2 : mm_rg i_3 0 10)  : mm_CI l yX5_drawDelay (mm_ws yX5_drawDelay cX5_drawDelay 7 (some .int)) ({ frames := 0, cells := 0, slots := 0, locals := 0 } : Room) G cy sz [(a_1, .inr (10, [.ref a_2, .ref a_3])), (a_2, .inr (0, [.int i_2, .int i_3, .int i_4, .int i_5, .int i_6, .int i_7, .int i_8, .int i_9, .ref a_4, .ref a_5, .ref a_6, .ref a_7, .ref a_8, .ref a_9, .ref a_10, .ref a_11, .ref a_12, .ref a_13])), (a_0, .inr (5, [.ref a_1, .ref a_14]))] [.ref a_0, .int i_0, .int i_1] (fun u : Unit => [(a_1, .inr (10, [.ref a_2, .ref a_3])), (a_2, .inr (0, [.int i_2, .int i_3, .int i_4, .int i_5, .int i_6, .int i_7, .int i_8, .int i_9, .ref a_4, .ref a_5, .ref a_6, .ref a_7, .ref a_8, .ref a_9, .ref a_10, .ref a_11, .ref a_12, .ref a_13])), (a_0, .inr (5, [.ref a_1, .ref a_14]))]) (fun (r : Int32) (u : Unit) => mm_rg r 0 7) 0 0 := by
  refine mm_begin (lv := [(0, .ref a_0), (1, .int i_0), (2, .int i_1)]) (by decide) (Nat.le_of_ble_eq_true rfl) rfl ?_
  intro p e s m below meth c A ls R args Q H locs hRe hQ hAe hx hb hr hlocks hml hown hnm hts hsz hA hS hP hK hD hZ hl
  have hRf : R.frames = 0 := by rw [hRe]
  have hRl : R.locals = 0 := by rw [hRe]
  have hRc : R.cells = 0 := by rw [hRe]
  have hRs : R.slots = 0 := by rw [hRe]
  refine lv_iload_n hx hb dX5_drawDelay_0 rfl (lv_at hl 1 rfl) ?_
  obtain ⟨v1, ev1⟩ : ∃ y : Int64, y = i_0.toInt64 := ⟨_, rfl⟩
  refine lv_i2l hx hb dX5_drawDelay_1 ev1.symm ?_
  have rv1 : mm_rl v1 0 2000000000 := mm_i2l ev1 h0
  refine lv_lstore_n (lv' := [(3, .long v1), (0, .ref a_0), (1, .int i_0), (2, .int i_1)]) hx hb dX5_drawDelay_2 rfl hl (by decide) rfl ?_
  clear hl
  clear ls
  intro ls hl
  refine lv_iconst (v := 0) hx hb dX5_drawDelay_3 (by decide) ?_
  refine lv_istore (lv' := [(5, .int 0), (3, .long v1), (0, .ref a_0), (1, .int i_0), (2, .int i_1)]) hx hb dX5_drawDelay_4 hl (by decide) rfl ?_
  clear hl
  clear ls
  intro ls hl
  refine lv_iconst (v := 0) hx hb dX5_drawDelay_6 (by decide) ?_
  refine lv_istore (lv' := [(6, .int 0), (5, .int 0), (3, .long v1), (0, .ref a_0), (1, .int i_0), (2, .int i_1)]) hx hb dX5_drawDelay_7 hl (by decide) rfl ?_
  clear hl
  clear ls
  intro ls hl
  have L9_165 : ∀ (n : Nat) (x9_6_162 : Int32) (x9_5_163 : Int32) (x9_3_164 : Int64), mm_rg x9_6_162 0 7 → mm_rg x9_5_163 0 7 → mm_rl x9_3_164 0 2147483647 → (x9_5_163 : Int32).toInt ≤ (x9_6_162 : Int32).toInt → (7 - x9_6_162.toInt).toNat < n → ∀ (H : Heap) (locs : List Loc), va_P G vwCl [(a_1, .inr (10, [.ref a_2, .ref a_3])), (a_2, .inr (0, [.int i_2, .int i_3, .int i_4, .int i_5, .int i_6, .int i_7, .int i_8, .int i_9, .ref a_4, .ref a_5, .ref a_6, .ref a_7, .ref a_8, .ref a_9, .ref a_10, .ref a_11, .ref a_12, .ref a_13])), (a_0, .inr (5, [.ref a_1, .ref a_14]))] H → va_D A [(a_1, .inr (10, [.ref a_2, .ref a_3])), (a_2, .inr (0, [.int i_2, .int i_3, .int i_4, .int i_5, .int i_6, .int i_7, .int i_8, .int i_9, .ref a_4, .ref a_5, .ref a_6, .ref a_7, .ref a_8, .ref a_9, .ref a_10, .ref a_11, .ref a_12, .ref a_13])), (a_0, .inr (5, [.ref a_1, .ref a_14]))] → va_S A s.heap H locs → ∀ (ls : Array Slot), lv_has ls 7 [(6, .int x9_6_162), (5, .int x9_5_163), (3, .long x9_3_164), (0, .ref a_0), (1, .int i_0), (2, .int i_1)] → W p l e R s m args below meth c H locs 0 0 Q (F0 m 9 ls []) := by
    intro n
    induction n with
    | zero => intro x9_6_162 x9_5_163 x9_3_164 rx9_6_162 rx9_5_163 rx9_3_164 w165 hm; exact absurd hm (Nat.not_lt_zero _)
    | succ n ih9 =>
      intro x9_6_162 x9_5_163 x9_3_164 rx9_6_162 rx9_5_163 rx9_3_164 w165 hm9 H locs hP hD hS ls hl
      refine lv_iload hx hb dX5_drawDelay_9 (lv_at hl 0 rfl) ?_
      refine lv_iload_n hx hb dX5_drawDelay_11 rfl (lv_at hl 5 rfl) ?_
      refine lv_icmp_ge (tgt := 62) hx hb dX5_drawDelay_12 (by decide) (fun c167 => ?_) (fun c167 => ?_)
      · refine lv_iload hx hb dX5_drawDelay_62 (lv_at hl 1 rfl) ?_
        subst hAe
        rw [hQ]
        exact W.iret (v := x9_5_163) hx hb hr (fun t ht hW => ⟨⟨x9_5_163, (), rfl, rx9_5_163, by rw [ht]; exact hP, hK.warm hW, hD⟩, hS.F ht⟩) hS.2.2 dX5_drawDelay_64
      · have q168 := mm_ltL (h := 6) (mm_nle c167) rx9_6_162 h1 (by decide)
        have q169 := mm_ltR (lo := 1) (mm_nle c167) rx9_6_162 h1 (by decide)
        have q170 := mm_leL w165 rx9_5_163 q168
        refine lv_ldc2 (v := 1103515245) hx hb hown (mm_h hts mm_w1600) dX5_drawDelay_15 ?_
        refine lv_lload_n hx hb dX5_drawDelay_18 rfl (lv_at hl 2 rfl) ?_
        refine lv_lmul hx hb dX5_drawDelay_19 ?_
        refine lv_topl (fun v171 ev171 => ?_)
        have rv171 : mm_rl v171 0 2369780942852698515 := mm_mull ev171 mm_kl1103515245 rx9_3_164 (by decide) (by decide)
        refine lv_ldc2 (v := 12345) hx hb hown (mm_h hts mm_w1601) dX5_drawDelay_20 ?_
        refine lv_ladd hx hb dX5_drawDelay_23 ?_
        refine lv_topl (fun v172 ev172 => ?_)
        have rv172 : mm_rl v172 12345 2369780942852710860 := mm_addl ev172 rv171 mm_kl12345 (by decide) (by decide)
        refine lv_ldc2 (v := 2147483648) hx hb hown (mm_h hts mm_w1602) dX5_drawDelay_24 ?_
        refine lv_lrem hx hb dX5_drawDelay_27 (mm_nzl mm_kl2147483648 (by decide)) ?_
        refine lv_topl (fun v173 ev173 => ?_)
        have rv173 : mm_rl v173 0 2147483647 := mm_reml ev173 rv172 mm_kl2147483648 (by decide) (by decide)
        refine lv_lstore_n (lv' := [(3, .long v173), (6, .int x9_6_162), (5, .int x9_5_163), (0, .ref a_0), (1, .int i_0), (2, .int i_1)]) hx hb dX5_drawDelay_28 rfl hl (by decide) rfl ?_
        clear hl
        clear ls
        intro ls hl
        refine lv_lload_n hx hb dX5_drawDelay_29 rfl (lv_at hl 0 rfl) ?_
        refine lv_ldc2 (v := 65536) hx hb hown (mm_h hts mm_w1603) dX5_drawDelay_30 ?_
        refine lv_ldiv hx hb dX5_drawDelay_33 (mm_nzl mm_kl65536 (by decide)) ?_
        refine lv_topl (fun v174 ev174 => ?_)
        have rv174 : mm_rl v174 0 2147483647 := mm_divl ev174 rv173 mm_kl65536 (by decide) (by decide)
        refine lv_ldc2 (v := 10) hx hb hown (mm_h hts mm_w1503) dX5_drawDelay_34 ?_
        refine lv_lrem hx hb dX5_drawDelay_37 (mm_nzl mm_kl10 (by decide)) ?_
        refine lv_topl (fun v175 ev175 => ?_)
        have rv175 : mm_rl v175 0 9 := mm_reml ev175 rv174 mm_kl10 (by decide) (by decide)
        refine lv_aload_n hx hb dX5_drawDelay_38 rfl (lv_at hl 3 rfl) ?_
        refine va_get (D := G) (ci := 5) (v := .ref a_1) (C := RX5) (T := TX5) (N := 2) hx hb hts (mm_i inlX5) hown hK.1 hP 2 rfl rfl 0 (by decide) (mm_h hts mm_w137) (fun _ h9 => h9) rfl dX5_drawDelay_39 ?_
        refine va_get (D := G) (ci := 10) (v := .ref a_2) (C := RX10) (T := TX10) (N := 2) hx hb hts (mm_i inlX10) hown hK.1 hP 0 rfl rfl 0 (by decide) (mm_h hts mm_w1501) (fun _ h9 => h9) rfl dX5_drawDelay_42 ?_
        refine va_get (D := G) (ci := 0) (v := .int i_3) (C := RX0) (T := TX0) (N := 18) hx hb hts (mm_i inlX0) hown hK.1 hP 1 rfl rfl 1 (by decide) (mm_h hts mm_w1502) (fun _ h9 => h9) rfl dX5_drawDelay_45 ?_
        obtain ⟨v176, ev176⟩ : ∃ y : Int64, y = i_3.toInt64 := ⟨_, rfl⟩
        refine lv_i2l hx hb dX5_drawDelay_48 ev176.symm ?_
        have rv176 : mm_rl v176 0 10 := mm_i2l ev176 h2
        refine W.lcmp hx hb dX5_drawDelay_49 ?_
        refine lv_topi (fun v177 ev177 => ?_)
        refine lv_if_ge (tgt := 56) hx hb dX5_drawDelay_50 (by decide) (fun c178 => ?_) (fun c178 => ?_)
        · have q179 := mm_leLl (mm_cmp_ge ev177 c178) rv176 rv175
          have q180 := mm_meet (lo := 0) (hi := 9) (mm_l2x ev176 q179) h2 (by decide)
          obtain ⟨v181, ev181⟩ : ∃ y : Int32, y = x9_6_162 + 1 := ⟨_, rfl⟩
          refine lv_iinc (v := v181) (lv' := [(6, .int v181), (3, .long v173), (5, .int x9_5_163), (0, .ref a_0), (1, .int i_0), (2, .int i_1)]) hx hb dX5_drawDelay_56 hl (k := 1) rfl (by rw [ev181]; rfl) (by decide) rfl ?_
          clear hl
          clear ls
          intro ls hl
          have rv181 : mm_rg v181 1 7 := mm_add ev181 q168 mm_k1 (by decide) (by decide)
          have tv181 := mm_addEc ev181 q168 mm_k1 (by decide) (k := 1) (by decide)
          refine lv_goto (tgt := 9) hx hb dX5_drawDelay_59 (by decide) ?_
          exact ih9 v181 x9_5_163 v173 (mm_wk rv181 (by decide)) (mm_wk q170 (by decide)) rv173 (by have := tv181; have := w165; omega) (mm_mu hm9 tv181 (by decide) (rv181).2 (by decide)) H locs hP hD hS ls (lv_sub hl [0, 2, 1, 3, 4, 5] rfl)
        · have q182 := mm_ltRl (lo := 1) (mm_cmp_lt ev177 (mm_n_ge c178)) rv175 rv176 (by decide)
          have q183 := mm_meet (lo := 1) (hi := 10) (mm_l2x ev176 q182) h2 (by decide)
          obtain ⟨v184, ev184⟩ : ∃ y : Int32, y = x9_5_163 + 1 := ⟨_, rfl⟩
          refine lv_iinc (v := v184) (lv' := [(5, .int v184), (3, .long v173), (6, .int x9_6_162), (0, .ref a_0), (1, .int i_0), (2, .int i_1)]) hx hb dX5_drawDelay_53 hl (k := 2) rfl (by rw [ev184]; rfl) (by decide) rfl ?_
          clear hl
          clear ls
          intro ls hl
          have rv184 : mm_rg v184 1 7 := mm_add ev184 q170 mm_k1 (by decide) (by decide)
          have tv184 := mm_addEc ev184 q170 mm_k1 (by decide) (k := 1) (by decide)
          obtain ⟨v185, ev185⟩ : ∃ y : Int32, y = x9_6_162 + 1 := ⟨_, rfl⟩
          refine lv_iinc (v := v185) (lv' := [(6, .int v185), (5, .int v184), (3, .long v173), (0, .ref a_0), (1, .int i_0), (2, .int i_1)]) hx hb dX5_drawDelay_56 hl (k := 2) rfl (by rw [ev185]; rfl) (by decide) rfl ?_
          clear hl
          clear ls
          intro ls hl
          have rv185 : mm_rg v185 1 7 := mm_add ev185 q168 mm_k1 (by decide) (by decide)
          have tv185 := mm_addEc ev185 q168 mm_k1 (by decide) (k := 1) (by decide)
          refine lv_goto (tgt := 9) hx hb dX5_drawDelay_59 (by decide) ?_
          exact ih9 v185 v184 v173 (mm_wk rv185 (by decide)) (mm_wk rv184 (by decide)) rv173 (by have := tv184; have := tv185; have := w165; omega) (mm_mu hm9 tv185 (by decide) (rv185).2 (by decide)) H locs hP hD hS ls (lv_sub hl [0, 1, 2, 3, 4, 5] rfl)
  exact L9_165 _ 0 0 v1 (mm_wk mm_k0 (by decide)) (mm_wk mm_k0 (by decide)) (mm_wkl rv1 (by decide)) (Int.le_refl _) (Nat.lt_succ_self _) H locs hP hD hS ls (lv_sub hl [0, 1, 2, 3, 4, 5] rfl)

set_option maxHeartbeats 4000000 in
set_option maxRecDepth 100000 in
theorem K505_X11_drawn (l : Launch) (G : va_G) (cy : Nat → ClassId) (sz : Nat) (a_0 : Nat) (i_0 : Int32) (i_1 : Int32) (a_1 : Nat) (a_2 : Nat) (a_3 : Nat) (a_4 : Nat) (a_5 : Nat) (a_6 : Nat) (a_7 : Nat) (a_8 : Nat) (a_9 : Nat) (a_10 : Nat) (a_11 : Nat) (a_12 : Nat) (a_13 : Nat) (i_2 : Int32) (i_3 : Int32) (i_4 : Int32) (i_5 : Int32) (i_6 : Int32) (i_7 : Int32) (i_8 : Int32) (i_9 : Int32) (a_14 : Nat) (a_15 : Nat) (a_16 : Nat) (a_17 : Nat) (a_18 : Nat) (a_19 : Nat) (a_20 : Nat) (a_21 : Nat) (a_22 : Nat) (a_23 : Nat) (a_24 : Nat) (h0 : mm_rg i_3 0 10)  : mm_CI l yX11_drawn (mm_ws yX11_drawn cX11_drawn 3 (some .int)) ({ frames := 1, cells := 0, slots := 0, locals := 26 } : Room) G cy sz [(a_0, .inr (11, [.ref a_1, .ref a_2, .ref a_3, .ref a_4, .ref a_5, .ref a_6, .ref a_7, .ref a_8, .ref a_9, .ref a_10, .ref a_11])), (a_3, .inr (10, [.ref a_12, .ref a_13])), (a_12, .inr (0, [.int i_2, .int i_3, .int i_4, .int i_5, .int i_6, .int i_7, .int i_8, .int i_9, .ref a_14, .ref a_15, .ref a_16, .ref a_17, .ref a_18, .ref a_19, .ref a_20, .ref a_21, .ref a_22, .ref a_23])), (a_11, .inr (5, [.ref a_3, .ref a_24]))] [.ref a_0, .int i_0, .int i_1] (fun u : Unit => [(a_0, .inr (11, [.ref a_1, .ref a_2, .ref a_3, .ref a_4, .ref a_5, .ref a_6, .ref a_7, .ref a_8, .ref a_9, .ref a_10, .ref a_11])), (a_3, .inr (10, [.ref a_12, .ref a_13])), (a_12, .inr (0, [.int i_2, .int i_3, .int i_4, .int i_5, .int i_6, .int i_7, .int i_8, .int i_9, .ref a_14, .ref a_15, .ref a_16, .ref a_17, .ref a_18, .ref a_19, .ref a_20, .ref a_21, .ref a_22, .ref a_23])), (a_11, .inr (5, [.ref a_3, .ref a_24]))]) (fun (r : Int32) (u : Unit) => mm_rg r (-2) 7) 0 0 := by
  refine mm_begin (lv := [(0, .ref a_0), (1, .int i_0), (2, .int i_1)]) (by decide) (Nat.le_of_ble_eq_true rfl) rfl ?_
  intro p e s m below meth c A ls R args Q H locs hRe hQ hAe hx hb hr hlocks hml hown hnm hts hsz hA hS hP hK hD hZ hl
  have hRf : R.frames = 1 := by rw [hRe]
  have hRl : R.locals = 26 := by rw [hRe]
  have hRc : R.cells = 0 := by rw [hRe]
  have hRs : R.slots = 0 := by rw [hRe]
  refine lv_aload_n hx hb dX11_drawn_0 rfl (lv_at hl 0 rfl) ?_
  refine va_get (D := G) (ci := 11) (v := .ref a_3) (C := RX11) (T := TX11) (N := 11) hx hb hts (mm_i inlX11) hown hK.1 hP 0 rfl rfl 2 (by decide) (mm_h hts mm_w24) (fun _ h9 => h9) rfl dX11_drawn_1 ?_
  refine va_get (D := G) (ci := 10) (v := .ref a_12) (C := RX10) (T := TX10) (N := 2) hx hb hts (mm_i inlX10) hown hK.1 hP 1 rfl rfl 0 (by decide) (mm_h hts mm_w199) (fun _ h9 => h9) rfl dX11_drawn_4 ?_
  refine va_get (D := G) (ci := 0) (v := .int i_2) (C := RX0) (T := TX0) (N := 18) hx hb hts (mm_i inlX0) hown hK.1 hP 2 rfl rfl 0 (by decide) (mm_h hts mm_w200) (fun _ h9 => h9) rfl dX11_drawn_7 ?_
  refine lv_if_eq (tgt := 27) hx hb dX11_drawn_10 (by decide) (fun c1 => ?_) (fun c1 => ?_)
  · have q2 := mm_eqI (lo := 0) (hi := 0) c1 (mm_top i_2) mm_k0 (by decide)
    refine lv_bipush (v := (-2)) hx hb dX11_drawn_27 (by decide) ?_
    subst hAe
    rw [hQ]
    exact W.iret (v := (-2)) hx hb hr (fun t ht hW => ⟨⟨(-2), (), rfl, (mm_wk mm_km2 (by decide)), by rw [ht]; exact hP, hK.warm hW, hD⟩, hS.F ht⟩) hS.2.2 dX11_drawn_29
  · refine lv_iload_n hx hb dX11_drawn_13 rfl (lv_at hl 1 rfl) ?_
    refine mm_finir (va_runS (As := [.int i_0]) (rest := []) ⟨hx, hb, hml, hown, hts⟩ (K503_X11_isSeed l G cy H.size i_0 ) (va_cwS 1 hts (mm_gS mm_w1592 mm_w1593 mm_w2 mm_w1594) rfl rfl rfl hs_X11_isSeed ⟨by rw [hRf]; exact Nat.le_of_ble_eq_true rfl, by rw [hRl]; exact Nat.le_of_ble_eq_true rfl⟩) (mm_preS hK hZ hS hA hP hD [] rfl rfl) rfl rfl hl.1 rfl (lv_room (Nat.le_of_ble_eq_true rfl)) dX11_drawn_14 ⟨by rw [hRc]; exact Nat.le_of_ble_eq_true rfl, by rw [hRs]; exact Nat.le_of_ble_eq_true rfl⟩) hP hD hS hA [] rfl (fun _ => rfl) ?_
    clear hP hD hS
    clear H locs
    intro v3 _u H locs hw hP hD hS
    rcases hw with ⟨rfl, w4⟩ | ⟨rfl, w5⟩
    · refine lv_if_eq (tgt := 27) hx hb dX11_drawn_17 (by decide) (fun c6 => ?_) (fun c6 => ?_)
      · refine lv_bipush (v := (-2)) hx hb dX11_drawn_27 (by decide) ?_
        subst hAe
        rw [hQ]
        exact W.iret (v := (-2)) hx hb hr (fun t ht hW => ⟨⟨(-2), (), rfl, (mm_wk mm_km2 (by decide)), by rw [ht]; exact hP, hK.warm hW, hD⟩, hS.F ht⟩) hS.2.2 dX11_drawn_29
      · have q7 := mm_neL (lo := 1) (mm_ne c6) mm_k0 mm_k0 (by decide) (by decide)
        exact mm_no q7 (by decide)
    · refine lv_if_eq (tgt := 27) hx hb dX11_drawn_17 (by decide) (fun c8 => ?_) (fun c8 => ?_)
      · exact mm_eqN c8.symm mm_k0 mm_k1 (by decide)
      · refine lv_iload_n hx hb dX11_drawn_20 rfl (lv_at hl 2 rfl) ?_
        refine mm_finir (va_runS (As := [.int i_1]) (rest := []) ⟨hx, hb, hml, hown, hts⟩ (K490_X11_isNights l G cy H.size i_1 ) (va_cwS 1 hts (mm_gS mm_w1494 mm_w1495 mm_w2 mm_w1496) rfl rfl rfl hs_X11_isNights ⟨by rw [hRf]; exact Nat.le_of_ble_eq_true rfl, by rw [hRl]; exact Nat.le_of_ble_eq_true rfl⟩) (mm_preS hK hZ hS hA hP hD [] rfl rfl) rfl rfl hl.1 rfl (lv_room (Nat.le_of_ble_eq_true rfl)) dX11_drawn_21 ⟨by rw [hRc]; exact Nat.le_of_ble_eq_true rfl, by rw [hRs]; exact Nat.le_of_ble_eq_true rfl⟩) hP hD hS hA [] rfl (fun _ => rfl) ?_
        clear hP hD hS
        clear H locs
        intro v9 _u H locs hw hP hD hS
        rcases hw with ⟨rfl, w10⟩ | ⟨rfl, w11⟩
        · refine lv_if_ne (tgt := 30) hx hb dX11_drawn_24 (by decide) (fun c12 => ?_) (fun c12 => ?_)
          · have q13 := mm_neL (lo := 1) (mm_ne c12) mm_k0 mm_k0 (by decide) (by decide)
            exact mm_no q13 (by decide)
          · refine lv_bipush (v := (-2)) hx hb dX11_drawn_27 (by decide) ?_
            subst hAe
            rw [hQ]
            exact W.iret (v := (-2)) hx hb hr (fun t ht hW => ⟨⟨(-2), (), rfl, (mm_wk mm_km2 (by decide)), by rw [ht]; exact hP, hK.warm hW, hD⟩, hS.F ht⟩) hS.2.2 dX11_drawn_29
        · refine lv_if_ne (tgt := 30) hx hb dX11_drawn_24 (by decide) (fun c14 => ?_) (fun c14 => ?_)
          · refine lv_aload_n hx hb dX11_drawn_30 rfl (lv_at hl 0 rfl) ?_
            refine va_get (D := G) (ci := 11) (v := .ref a_11) (C := RX11) (T := TX11) (N := 11) hx hb hts (mm_i inlX11) hown hK.1 hP 0 rfl rfl 10 (by decide) (mm_h hts mm_w54) (fun _ h9 => h9) rfl dX11_drawn_31 ?_
            refine lv_iload_n hx hb dX11_drawn_34 rfl (lv_at hl 1 rfl) ?_
            refine lv_iload_n hx hb dX11_drawn_35 rfl (lv_at hl 2 rfl) ?_
            refine mm_finir (va_runV (As := [.int i_0, .int i_1]) (rest := []) ⟨hx, hb, hml, hown, hts⟩ (K504_X5_drawDelay l G cy H.size a_11 i_0 i_1 a_3 a_12 a_13 i_2 i_3 i_4 i_5 i_6 i_7 i_8 i_9 a_14 a_15 a_16 a_17 a_18 a_19 a_20 a_21 a_22 a_23 a_24 w5 w11 h0) (cwV 2 hts (mm_gV mm_w1596 mm_w1597 mm_w1598 mm_w53 mm_w1599) rfl rfl rfl hd_X5_drawDelay ⟨by rw [hRf]; exact Nat.le_of_ble_eq_true rfl, by rw [hRl]; exact Nat.le_of_ble_eq_true rfl⟩) (mm_preV hK hZ hS hA hP hD [1, 2, 3] rfl rfl 3 rfl rfl rfl) rfl rfl hl.1 rfl (lv_room (Nat.le_of_ble_eq_true rfl)) dX11_drawn_36 ⟨by rw [hRc]; exact Nat.le_of_ble_eq_true rfl, by rw [hRs]; exact Nat.le_of_ble_eq_true rfl⟩) hP hD hS hA [1, 2, 3] rfl (fun _ => rfl) ?_
            clear hP hD hS
            clear H locs
            intro v15 _u H locs hw hP hD hS
            have w16 := hw
            subst hAe
            rw [hQ]
            exact W.iret (v := v15) hx hb hr (fun t ht hW => ⟨⟨v15, (), rfl, (mm_wk w16 (by decide)), by rw [ht]; exact hP, hK.warm hW, hD⟩, hS.F ht⟩) hS.2.2 dX11_drawn_39
          · exact mm_eqN c14.symm mm_k0 mm_k1 (by decide)

set_option maxHeartbeats 4000000 in
set_option maxRecDepth 100000 in
theorem K517_X5_drawDelay (l : Launch) (G : va_G) (cy : Nat → ClassId) (sz : Nat) (a_0 : Nat) (i_0 : Int32) (a_1 : Nat) (a_2 : Nat) (a_3 : Nat) (i_1 : Int32) (i_2 : Int32) (i_3 : Int32) (i_4 : Int32) (i_5 : Int32) (i_6 : Int32) (i_7 : Int32) (i_8 : Int32) (a_4 : Nat) (a_5 : Nat) (a_6 : Nat) (a_7 : Nat) (a_8 : Nat) (a_9 : Nat) (a_10 : Nat) (a_11 : Nat) (a_12 : Nat) (a_13 : Nat) (a_14 : Nat) (h0 : mm_rg i_0 0 2000000019) (h1 : mm_rg i_2 0 10)  : mm_CI l yX5_drawDelay (mm_ws yX5_drawDelay cX5_drawDelay 7 (some .int)) ({ frames := 0, cells := 0, slots := 0, locals := 0 } : Room) G cy sz [(a_1, .inr (10, [.ref a_2, .ref a_3])), (a_2, .inr (0, [.int i_1, .int i_2, .int i_3, .int i_4, .int i_5, .int i_6, .int i_7, .int i_8, .ref a_4, .ref a_5, .ref a_6, .ref a_7, .ref a_8, .ref a_9, .ref a_10, .ref a_11, .ref a_12, .ref a_13])), (a_0, .inr (5, [.ref a_1, .ref a_14]))] [.ref a_0, .int i_0, .int 7] (fun u : Unit => [(a_1, .inr (10, [.ref a_2, .ref a_3])), (a_2, .inr (0, [.int i_1, .int i_2, .int i_3, .int i_4, .int i_5, .int i_6, .int i_7, .int i_8, .ref a_4, .ref a_5, .ref a_6, .ref a_7, .ref a_8, .ref a_9, .ref a_10, .ref a_11, .ref a_12, .ref a_13])), (a_0, .inr (5, [.ref a_1, .ref a_14]))]) (fun (r : Int32) (u : Unit) => mm_rg r 0 7) 0 0 := by
  refine mm_begin (lv := [(0, .ref a_0), (1, .int i_0), (2, .int 7)]) (by decide) (Nat.le_of_ble_eq_true rfl) rfl ?_
  intro p e s m below meth c A ls R args Q H locs hRe hQ hAe hx hb hr hlocks hml hown hnm hts hsz hA hS hP hK hD hZ hl
  have hRf : R.frames = 0 := by rw [hRe]
  have hRl : R.locals = 0 := by rw [hRe]
  have hRc : R.cells = 0 := by rw [hRe]
  have hRs : R.slots = 0 := by rw [hRe]
  refine lv_iload_n hx hb dX5_drawDelay_0 rfl (lv_at hl 1 rfl) ?_
  obtain ⟨v1, ev1⟩ : ∃ y : Int64, y = i_0.toInt64 := ⟨_, rfl⟩
  refine lv_i2l hx hb dX5_drawDelay_1 ev1.symm ?_
  have rv1 : mm_rl v1 0 2000000019 := mm_i2l ev1 h0
  refine lv_lstore_n (lv' := [(3, .long v1), (0, .ref a_0), (1, .int i_0), (2, .int 7)]) hx hb dX5_drawDelay_2 rfl hl (by decide) rfl ?_
  clear hl
  clear ls
  intro ls hl
  refine lv_iconst (v := 0) hx hb dX5_drawDelay_3 (by decide) ?_
  refine lv_istore (lv' := [(5, .int 0), (3, .long v1), (0, .ref a_0), (1, .int i_0), (2, .int 7)]) hx hb dX5_drawDelay_4 hl (by decide) rfl ?_
  clear hl
  clear ls
  intro ls hl
  refine lv_iconst (v := 0) hx hb dX5_drawDelay_6 (by decide) ?_
  refine lv_istore (lv' := [(6, .int 0), (5, .int 0), (3, .long v1), (0, .ref a_0), (1, .int i_0), (2, .int 7)]) hx hb dX5_drawDelay_7 hl (by decide) rfl ?_
  clear hl
  clear ls
  intro ls hl
  have L9_157 : ∀ (n : Nat) (x9_6_154 : Int32) (x9_5_155 : Int32) (x9_3_156 : Int64), mm_rg x9_6_154 0 7 → mm_rg x9_5_155 0 7 → mm_rl x9_3_156 0 2147483647 → (x9_5_155 : Int32).toInt ≤ (x9_6_154 : Int32).toInt → (7 - x9_6_154.toInt).toNat < n → ∀ (H : Heap) (locs : List Loc), va_P G vwCl [(a_1, .inr (10, [.ref a_2, .ref a_3])), (a_2, .inr (0, [.int i_1, .int i_2, .int i_3, .int i_4, .int i_5, .int i_6, .int i_7, .int i_8, .ref a_4, .ref a_5, .ref a_6, .ref a_7, .ref a_8, .ref a_9, .ref a_10, .ref a_11, .ref a_12, .ref a_13])), (a_0, .inr (5, [.ref a_1, .ref a_14]))] H → va_D A [(a_1, .inr (10, [.ref a_2, .ref a_3])), (a_2, .inr (0, [.int i_1, .int i_2, .int i_3, .int i_4, .int i_5, .int i_6, .int i_7, .int i_8, .ref a_4, .ref a_5, .ref a_6, .ref a_7, .ref a_8, .ref a_9, .ref a_10, .ref a_11, .ref a_12, .ref a_13])), (a_0, .inr (5, [.ref a_1, .ref a_14]))] → va_S A s.heap H locs → ∀ (ls : Array Slot), lv_has ls 7 [(6, .int x9_6_154), (5, .int x9_5_155), (3, .long x9_3_156), (0, .ref a_0), (1, .int i_0), (2, .int 7)] → W p l e R s m args below meth c H locs 0 0 Q (F0 m 9 ls []) := by
    intro n
    induction n with
    | zero => intro x9_6_154 x9_5_155 x9_3_156 rx9_6_154 rx9_5_155 rx9_3_156 w157 hm; exact absurd hm (Nat.not_lt_zero _)
    | succ n ih9 =>
      intro x9_6_154 x9_5_155 x9_3_156 rx9_6_154 rx9_5_155 rx9_3_156 w157 hm9 H locs hP hD hS ls hl
      refine lv_iload hx hb dX5_drawDelay_9 (lv_at hl 0 rfl) ?_
      refine lv_iload_n hx hb dX5_drawDelay_11 rfl (lv_at hl 5 rfl) ?_
      refine lv_icmp_ge (tgt := 62) hx hb dX5_drawDelay_12 (by decide) (fun c159 => ?_) (fun c159 => ?_)
      · have q160 := mm_leR (mm_le c159) mm_k7 rx9_6_154
        refine lv_iload hx hb dX5_drawDelay_62 (lv_at hl 1 rfl) ?_
        subst hAe
        rw [hQ]
        exact W.iret (v := x9_5_155) hx hb hr (fun t ht hW => ⟨⟨x9_5_155, (), rfl, rx9_5_155, by rw [ht]; exact hP, hK.warm hW, hD⟩, hS.F ht⟩) hS.2.2 dX5_drawDelay_64
      · have q161 := mm_ltL (h := 6) (mm_nle c159) rx9_6_154 mm_k7 (by decide)
        have q162 := mm_leL w157 rx9_5_155 q161
        refine lv_ldc2 (v := 1103515245) hx hb hown (mm_h hts mm_w1600) dX5_drawDelay_15 ?_
        refine lv_lload_n hx hb dX5_drawDelay_18 rfl (lv_at hl 2 rfl) ?_
        refine lv_lmul hx hb dX5_drawDelay_19 ?_
        refine lv_topl (fun v163 ev163 => ?_)
        have rv163 : mm_rl v163 0 2369780942852698515 := mm_mull ev163 mm_kl1103515245 rx9_3_156 (by decide) (by decide)
        refine lv_ldc2 (v := 12345) hx hb hown (mm_h hts mm_w1601) dX5_drawDelay_20 ?_
        refine lv_ladd hx hb dX5_drawDelay_23 ?_
        refine lv_topl (fun v164 ev164 => ?_)
        have rv164 : mm_rl v164 12345 2369780942852710860 := mm_addl ev164 rv163 mm_kl12345 (by decide) (by decide)
        refine lv_ldc2 (v := 2147483648) hx hb hown (mm_h hts mm_w1602) dX5_drawDelay_24 ?_
        refine lv_lrem hx hb dX5_drawDelay_27 (mm_nzl mm_kl2147483648 (by decide)) ?_
        refine lv_topl (fun v165 ev165 => ?_)
        have rv165 : mm_rl v165 0 2147483647 := mm_reml ev165 rv164 mm_kl2147483648 (by decide) (by decide)
        refine lv_lstore_n (lv' := [(3, .long v165), (6, .int x9_6_154), (5, .int x9_5_155), (0, .ref a_0), (1, .int i_0), (2, .int 7)]) hx hb dX5_drawDelay_28 rfl hl (by decide) rfl ?_
        clear hl
        clear ls
        intro ls hl
        refine lv_lload_n hx hb dX5_drawDelay_29 rfl (lv_at hl 0 rfl) ?_
        refine lv_ldc2 (v := 65536) hx hb hown (mm_h hts mm_w1603) dX5_drawDelay_30 ?_
        refine lv_ldiv hx hb dX5_drawDelay_33 (mm_nzl mm_kl65536 (by decide)) ?_
        refine lv_topl (fun v166 ev166 => ?_)
        have rv166 : mm_rl v166 0 2147483647 := mm_divl ev166 rv165 mm_kl65536 (by decide) (by decide)
        refine lv_ldc2 (v := 10) hx hb hown (mm_h hts mm_w1503) dX5_drawDelay_34 ?_
        refine lv_lrem hx hb dX5_drawDelay_37 (mm_nzl mm_kl10 (by decide)) ?_
        refine lv_topl (fun v167 ev167 => ?_)
        have rv167 : mm_rl v167 0 9 := mm_reml ev167 rv166 mm_kl10 (by decide) (by decide)
        refine lv_aload_n hx hb dX5_drawDelay_38 rfl (lv_at hl 3 rfl) ?_
        refine va_get (D := G) (ci := 5) (v := .ref a_1) (C := RX5) (T := TX5) (N := 2) hx hb hts (mm_i inlX5) hown hK.1 hP 2 rfl rfl 0 (by decide) (mm_h hts mm_w137) (fun _ h9 => h9) rfl dX5_drawDelay_39 ?_
        refine va_get (D := G) (ci := 10) (v := .ref a_2) (C := RX10) (T := TX10) (N := 2) hx hb hts (mm_i inlX10) hown hK.1 hP 0 rfl rfl 0 (by decide) (mm_h hts mm_w1501) (fun _ h9 => h9) rfl dX5_drawDelay_42 ?_
        refine va_get (D := G) (ci := 0) (v := .int i_2) (C := RX0) (T := TX0) (N := 18) hx hb hts (mm_i inlX0) hown hK.1 hP 1 rfl rfl 1 (by decide) (mm_h hts mm_w1502) (fun _ h9 => h9) rfl dX5_drawDelay_45 ?_
        obtain ⟨v168, ev168⟩ : ∃ y : Int64, y = i_2.toInt64 := ⟨_, rfl⟩
        refine lv_i2l hx hb dX5_drawDelay_48 ev168.symm ?_
        have rv168 : mm_rl v168 0 10 := mm_i2l ev168 h1
        refine W.lcmp hx hb dX5_drawDelay_49 ?_
        refine lv_topi (fun v169 ev169 => ?_)
        refine lv_if_ge (tgt := 56) hx hb dX5_drawDelay_50 (by decide) (fun c170 => ?_) (fun c170 => ?_)
        · have q171 := mm_leLl (mm_cmp_ge ev169 c170) rv168 rv167
          have q172 := mm_meet (lo := 0) (hi := 9) (mm_l2x ev168 q171) h1 (by decide)
          obtain ⟨v173, ev173⟩ : ∃ y : Int32, y = x9_6_154 + 1 := ⟨_, rfl⟩
          refine lv_iinc (v := v173) (lv' := [(6, .int v173), (3, .long v165), (5, .int x9_5_155), (0, .ref a_0), (1, .int i_0), (2, .int 7)]) hx hb dX5_drawDelay_56 hl (k := 1) rfl (by rw [ev173]; rfl) (by decide) rfl ?_
          clear hl
          clear ls
          intro ls hl
          have rv173 : mm_rg v173 1 7 := mm_add ev173 q161 mm_k1 (by decide) (by decide)
          have tv173 := mm_addEc ev173 q161 mm_k1 (by decide) (k := 1) (by decide)
          refine lv_goto (tgt := 9) hx hb dX5_drawDelay_59 (by decide) ?_
          exact ih9 v173 x9_5_155 v165 (mm_wk rv173 (by decide)) (mm_wk q162 (by decide)) rv165 (by have := tv173; have := w157; omega) (mm_mu hm9 tv173 (by decide) (rv173).2 (by decide)) H locs hP hD hS ls (lv_sub hl [0, 2, 1, 3, 4, 5] rfl)
        · have q174 := mm_ltRl (lo := 1) (mm_cmp_lt ev169 (mm_n_ge c170)) rv167 rv168 (by decide)
          have q175 := mm_meet (lo := 1) (hi := 10) (mm_l2x ev168 q174) h1 (by decide)
          obtain ⟨v176, ev176⟩ : ∃ y : Int32, y = x9_5_155 + 1 := ⟨_, rfl⟩
          refine lv_iinc (v := v176) (lv' := [(5, .int v176), (3, .long v165), (6, .int x9_6_154), (0, .ref a_0), (1, .int i_0), (2, .int 7)]) hx hb dX5_drawDelay_53 hl (k := 2) rfl (by rw [ev176]; rfl) (by decide) rfl ?_
          clear hl
          clear ls
          intro ls hl
          have rv176 : mm_rg v176 1 7 := mm_add ev176 q162 mm_k1 (by decide) (by decide)
          have tv176 := mm_addEc ev176 q162 mm_k1 (by decide) (k := 1) (by decide)
          obtain ⟨v177, ev177⟩ : ∃ y : Int32, y = x9_6_154 + 1 := ⟨_, rfl⟩
          refine lv_iinc (v := v177) (lv' := [(6, .int v177), (5, .int v176), (3, .long v165), (0, .ref a_0), (1, .int i_0), (2, .int 7)]) hx hb dX5_drawDelay_56 hl (k := 2) rfl (by rw [ev177]; rfl) (by decide) rfl ?_
          clear hl
          clear ls
          intro ls hl
          have rv177 : mm_rg v177 1 7 := mm_add ev177 q161 mm_k1 (by decide) (by decide)
          have tv177 := mm_addEc ev177 q161 mm_k1 (by decide) (k := 1) (by decide)
          refine lv_goto (tgt := 9) hx hb dX5_drawDelay_59 (by decide) ?_
          exact ih9 v177 v176 v165 (mm_wk rv177 (by decide)) (mm_wk rv176 (by decide)) rv165 (by have := tv176; have := tv177; have := w157; omega) (mm_mu hm9 tv177 (by decide) (rv177).2 (by decide)) H locs hP hD hS ls (lv_sub hl [0, 1, 2, 3, 4, 5] rfl)
  exact L9_157 _ 0 0 v1 (mm_wk mm_k0 (by decide)) (mm_wk mm_k0 (by decide)) (mm_wkl rv1 (by decide)) (Int.le_refl _) (Nat.lt_succ_self _) H locs hP hD hS ls (lv_sub hl [0, 1, 2, 3, 4, 5] rfl)

set_option maxHeartbeats 4000000 in
set_option maxRecDepth 100000 in
theorem K518_X11_luck (l : Launch) (G : va_G) (cy : Nat → ClassId) (sz : Nat) (a_0 : Nat) (i_0 : Int32) (i_1 : Int32) (i_2 : Int32) (i_3 : Int32) (i_4 : Int32) (a_1 : Nat) (a_2 : Nat) (a_3 : Nat) (a_4 : Nat) (a_5 : Nat) (a_6 : Nat) (a_7 : Nat) (a_8 : Nat) (a_9 : Nat) (a_10 : Nat) (a_11 : Nat) (a_12 : Nat) (a_13 : Nat) (i_5 : Int32) (i_6 : Int32) (i_7 : Int32) (i_8 : Int32) (i_9 : Int32) (i_10 : Int32) (i_11 : Int32) (i_12 : Int32) (a_14 : Nat) (a_15 : Nat) (a_16 : Nat) (a_17 : Nat) (a_18 : Nat) (a_19 : Nat) (a_20 : Nat) (a_21 : Nat) (a_22 : Nat) (a_23 : Nat) (f_0 : Nat → Int32) (f_1 : Nat → Int32) (f_2 : Nat → Int32) (f_3 : Nat → Int32) (f_4 : Nat → Int32) (a_24 : Nat) (a_25 : Nat) (a_26 : Nat) (a_27 : Nat) (a_28 : Nat) (i_13 : Int32) (i_14 : Int32) (i_15 : Int32) (f_5 : Nat → Int32) (a_29 : Nat) (a_30 : Nat) (i_16 : Int32) (i_17 : Int32) (i_18 : Int32) (f_6 : Nat → Int32) (a_31 : Nat) (a_32 : Nat) (i_19 : Int32) (i_20 : Int32) (i_21 : Int32) (f_7 : Nat → Int32) (a_33 : Nat) (h0 : mm_rg i_6 0 10) (h1 : mm_rg i_8 0 99) (h2 : mm_rg i_9 0 9) (h3 : mm_rg i_10 0 3) (h4 : mm_rg i_11 0 6) (h5 : mm_ar f_0 (-1) 4) (h6 : mm_ar f_1 0 99) (h7 : mm_ar f_2 0 8) (h8 : mm_ar f_3 0 9) (h9 : mm_ar f_4 0 9) (h10 : mm_rg i_15 (-2147483648) 210) (h11 : mm_ar f_5 0 9) (h12 : mm_rg i_18 (-2147483648) 210) (h13 : mm_ar f_6 0 9) (h14 : mm_rg i_21 (-2147483648) 210) (h15 : mm_ar f_7 0 9)  : mm_CI l yX11_luck (mm_ws yX11_luck cX11_luck 8 (some .int)) ({ frames := 5, cells := 0, slots := 0, locals := 134 } : Room) G cy sz [(a_0, .inr (11, [.ref a_1, .ref a_2, .ref a_3, .ref a_4, .ref a_5, .ref a_6, .ref a_7, .ref a_8, .ref a_9, .ref a_10, .ref a_11])), (a_3, .inr (10, [.ref a_12, .ref a_13])), (a_12, .inr (0, [.int i_5, .int i_6, .int i_7, .int i_8, .int i_9, .int i_10, .int i_11, .int i_12, .ref a_14, .ref a_15, .ref a_16, .ref a_17, .ref a_18, .ref a_19, .ref a_20, .ref a_21, .ref a_22, .ref a_23])), (a_14, .inl (cy 1, 9, .inl f_0)), (a_15, .inl (cy 1, 9, .inl f_1)), (a_18, .inl (cy 1, 6, .inl f_2)), (a_19, .inl (cy 1, 48, .inl f_3)), (a_20, .inl (cy 1, 30, .inl f_4)), (a_13, .inl (cy 5, 3, .inr (.inr (.inr (.inr (va_up (va_up (va_up (fun _ => none) 0 (some a_24)) 1 (some a_25)) 2 (some a_26))))))), (a_24, .inr (1, [.ref a_27, .ref a_28, .int i_13, .int i_14, .int i_15])), (a_27, .inl (cy 1, 2100, .inl f_5)), (a_25, .inr (1, [.ref a_29, .ref a_30, .int i_16, .int i_17, .int i_18])), (a_29, .inl (cy 1, 2100, .inl f_6)), (a_26, .inr (1, [.ref a_31, .ref a_32, .int i_19, .int i_20, .int i_21])), (a_31, .inl (cy 1, 2100, .inl f_7)), (a_11, .inr (5, [.ref a_3, .ref a_33]))] [.ref a_0, .int i_0, .int i_1, .int i_2, .int i_3, .int i_4] (fun u : Unit => [(a_0, .inr (11, [.ref a_1, .ref a_2, .ref a_3, .ref a_4, .ref a_5, .ref a_6, .ref a_7, .ref a_8, .ref a_9, .ref a_10, .ref a_11])), (a_3, .inr (10, [.ref a_12, .ref a_13])), (a_12, .inr (0, [.int i_5, .int i_6, .int i_7, .int i_8, .int i_9, .int i_10, .int i_11, .int i_12, .ref a_14, .ref a_15, .ref a_16, .ref a_17, .ref a_18, .ref a_19, .ref a_20, .ref a_21, .ref a_22, .ref a_23])), (a_14, .inl (cy 1, 9, .inl f_0)), (a_15, .inl (cy 1, 9, .inl f_1)), (a_18, .inl (cy 1, 6, .inl f_2)), (a_19, .inl (cy 1, 48, .inl f_3)), (a_20, .inl (cy 1, 30, .inl f_4)), (a_13, .inl (cy 5, 3, .inr (.inr (.inr (.inr (va_up (va_up (va_up (fun _ => none) 0 (some a_24)) 1 (some a_25)) 2 (some a_26))))))), (a_24, .inr (1, [.ref a_27, .ref a_28, .int i_13, .int i_14, .int i_15])), (a_27, .inl (cy 1, 2100, .inl f_5)), (a_25, .inr (1, [.ref a_29, .ref a_30, .int i_16, .int i_17, .int i_18])), (a_29, .inl (cy 1, 2100, .inl f_6)), (a_26, .inr (1, [.ref a_31, .ref a_32, .int i_19, .int i_20, .int i_21])), (a_31, .inl (cy 1, 2100, .inl f_7)), (a_11, .inr (5, [.ref a_3, .ref a_33]))]) (fun (r : Int32) (u : Unit) => True) 0 0 := by
  refine mm_begin (lv := [(0, .ref a_0), (1, .int i_0), (2, .int i_1), (3, .int i_2), (4, .int i_3), (5, .int i_4)]) (by decide) (Nat.le_of_ble_eq_true rfl) rfl ?_
  intro p e s m below meth c A ls R args Q H locs hRe hQ hAe hx hb hr hlocks hml hown hnm hts hsz hA hS hP hK hD hZ hl
  have hRf : R.frames = 5 := by rw [hRe]
  have hRl : R.locals = 134 := by rw [hRe]
  have hRc : R.cells = 0 := by rw [hRe]
  have hRs : R.slots = 0 := by rw [hRe]
  refine lv_iload_n hx hb dX11_luck_0 rfl (lv_at hl 1 rfl) ?_
  refine mm_finir (va_runS (As := [.int i_0]) (rest := []) ⟨hx, hb, hml, hown, hts⟩ (K503_X11_isSeed l G cy H.size i_0 ) (va_cwS 1 hts (mm_gS mm_w1592 mm_w1593 mm_w2 mm_w1594) rfl rfl rfl hs_X11_isSeed ⟨by rw [hRf]; exact Nat.le_of_ble_eq_true rfl, by rw [hRl]; exact Nat.le_of_ble_eq_true rfl⟩) (mm_preS hK hZ hS hA hP hD [] rfl rfl) rfl rfl hl.1 rfl (lv_room (Nat.le_of_ble_eq_true rfl)) dX11_luck_1 ⟨by rw [hRc]; exact Nat.le_of_ble_eq_true rfl, by rw [hRs]; exact Nat.le_of_ble_eq_true rfl⟩) hP hD hS hA [] rfl (fun _ => rfl) ?_
  clear hP hD hS
  clear H locs
  intro v1 _u H locs hw hP hD hS
  rcases hw with ⟨rfl, w2⟩ | ⟨rfl, w3⟩
  · refine lv_if_eq (tgt := 30) hx hb dX11_luck_4 (by decide) (fun c4 => ?_) (fun c4 => ?_)
    · refine lv_bipush (v := (-2)) hx hb dX11_luck_30 (by decide) ?_
      subst hAe
      rw [hQ]
      exact W.iret (v := (-2)) hx hb hr (fun t ht hW => ⟨⟨(-2), (), rfl, trivial, by rw [ht]; exact hP, hK.warm hW, hD⟩, hS.F ht⟩) hS.2.2 dX11_luck_32
    · have q5 := mm_neL (lo := 1) (mm_ne c4) mm_k0 mm_k0 (by decide) (by decide)
      exact mm_no q5 (by decide)
  · refine lv_if_eq (tgt := 30) hx hb dX11_luck_4 (by decide) (fun c6 => ?_) (fun c6 => ?_)
    · exact mm_eqN c6.symm mm_k0 mm_k1 (by decide)
    · refine lv_iload_n hx hb dX11_luck_7 rfl (lv_at hl 2 rfl) ?_
      refine lv_iconst (v := 1) hx hb dX11_luck_8 (by decide) ?_
      refine lv_icmp_lt (tgt := 30) hx hb dX11_luck_9 (by decide) (fun c7 => ?_) (fun c7 => ?_)
      · have q8 := mm_ltL (h := 0) (mm_lt c7) (mm_top i_1) mm_k1 (by decide)
        refine lv_bipush (v := (-2)) hx hb dX11_luck_30 (by decide) ?_
        subst hAe
        rw [hQ]
        exact W.iret (v := (-2)) hx hb hr (fun t ht hW => ⟨⟨(-2), (), rfl, trivial, by rw [ht]; exact hP, hK.warm hW, hD⟩, hS.F ht⟩) hS.2.2 dX11_luck_32
      · have q9 := mm_leR (mm_nlt c7) mm_k1 (mm_top i_1)
        refine lv_iload_n hx hb dX11_luck_12 rfl (lv_at hl 2 rfl) ?_
        refine lv_bipush (v := 20) hx hb dX11_luck_13 (by decide) ?_
        refine lv_icmp_gt (tgt := 30) hx hb dX11_luck_15 (by decide) (fun c10 => ?_) (fun c10 => ?_)
        · have q11 := mm_ltR (lo := 21) (mm_lt c10) mm_k20 q9 (by decide)
          refine lv_bipush (v := (-2)) hx hb dX11_luck_30 (by decide) ?_
          subst hAe
          rw [hQ]
          exact W.iret (v := (-2)) hx hb hr (fun t ht hW => ⟨⟨(-2), (), rfl, trivial, by rw [ht]; exact hP, hK.warm hW, hD⟩, hS.F ht⟩) hS.2.2 dX11_luck_32
        · have q12 := mm_leL (mm_nlt c10) q9 mm_k20
          refine lv_aload_n hx hb dX11_luck_18 rfl (lv_at hl 0 rfl) ?_
          refine lv_iload_n hx hb dX11_luck_19 rfl (lv_at hl 3 rfl) ?_
          refine lv_iload hx hb dX11_luck_20 (lv_at hl 4 rfl) ?_
          refine lv_iload hx hb dX11_luck_22 (lv_at hl 5 rfl) ?_
          refine mm_finir (va_runV (As := [.int i_2, .int i_3, .int i_4]) (rest := []) ⟨hx, hb, hml, hown, hts⟩ (K371_X11_isReading l G cy H.size a_0 i_2 i_3 i_4 a_1 a_2 a_3 a_4 a_5 a_6 a_7 a_8 a_9 a_10 a_11 a_12 a_13 i_5 i_6 i_7 i_8 i_9 i_10 i_11 i_12 a_14 a_15 a_16 a_17 a_18 a_19 a_20 a_21 a_22 a_23 h3 h4) (cwV 3 hts (mm_gV mm_w825 mm_w826 mm_w827 mm_w2 mm_w828) rfl rfl rfl hd_X11_isReading ⟨by rw [hRf]; exact Nat.le_of_ble_eq_true rfl, by rw [hRl]; exact Nat.le_of_ble_eq_true rfl⟩) (mm_preV hK hZ hS hA hP hD [0, 1, 2] rfl rfl 0 rfl rfl rfl) rfl rfl hl.1 rfl (lv_room (Nat.le_of_ble_eq_true rfl)) dX11_luck_24 ⟨by rw [hRc]; exact Nat.le_of_ble_eq_true rfl, by rw [hRs]; exact Nat.le_of_ble_eq_true rfl⟩) hP hD hS hA [0, 1, 2] rfl (fun _ => rfl) ?_
          clear hP hD hS
          clear H locs
          intro v13 _u H locs hw hP hD hS
          rcases hw with rfl | ⟨rfl, w14, w15, w16⟩
          · refine lv_if_ne (tgt := 33) hx hb dX11_luck_27 (by decide) (fun c17 => ?_) (fun c17 => ?_)
            · have q18 := mm_neL (lo := 1) (mm_ne c17) mm_k0 mm_k0 (by decide) (by decide)
              exact mm_no q18 (by decide)
            · refine lv_bipush (v := (-2)) hx hb dX11_luck_30 (by decide) ?_
              subst hAe
              rw [hQ]
              exact W.iret (v := (-2)) hx hb hr (fun t ht hW => ⟨⟨(-2), (), rfl, trivial, by rw [ht]; exact hP, hK.warm hW, hD⟩, hS.F ht⟩) hS.2.2 dX11_luck_32
          · refine lv_if_ne (tgt := 33) hx hb dX11_luck_27 (by decide) (fun c19 => ?_) (fun c19 => ?_)
            · refine lv_iconst (v := 0) hx hb dX11_luck_33 (by decide) ?_
              refine lv_istore (lv' := [(6, .int 0), (0, .ref a_0), (1, .int i_0), (2, .int i_1), (3, .int i_2), (4, .int i_3), (5, .int i_4)]) hx hb dX11_luck_34 hl (by decide) rfl ?_
              clear hl
              clear ls
              intro ls hl
              refine lv_iconst (v := 0) hx hb dX11_luck_36 (by decide) ?_
              refine lv_istore (lv' := [(7, .int 0), (6, .int 0), (0, .ref a_0), (1, .int i_0), (2, .int i_1), (3, .int i_2), (4, .int i_3), (5, .int i_4)]) hx hb dX11_luck_37 hl (by decide) rfl ?_
              clear hl
              clear ls
              intro ls hl
              have L39_352 : ∀ (n : Nat) (x39_7_351 : Int32) (x39_6_352 : Int32), mm_rg x39_7_351 0 20 → (20 - x39_7_351.toInt).toNat < n → ∀ (H : Heap) (locs : List Loc), va_P G vwCl [(a_0, .inr (11, [.ref a_1, .ref a_2, .ref a_3, .ref a_4, .ref a_5, .ref a_6, .ref a_7, .ref a_8, .ref a_9, .ref a_10, .ref a_11])), (a_3, .inr (10, [.ref a_12, .ref a_13])), (a_12, .inr (0, [.int i_5, .int i_6, .int i_7, .int i_8, .int i_9, .int i_10, .int i_11, .int i_12, .ref a_14, .ref a_15, .ref a_16, .ref a_17, .ref a_18, .ref a_19, .ref a_20, .ref a_21, .ref a_22, .ref a_23])), (a_14, .inl (cy 1, 9, .inl f_0)), (a_15, .inl (cy 1, 9, .inl f_1)), (a_18, .inl (cy 1, 6, .inl f_2)), (a_19, .inl (cy 1, 48, .inl f_3)), (a_20, .inl (cy 1, 30, .inl f_4)), (a_13, .inl (cy 5, 3, .inr (.inr (.inr (.inr (va_up (va_up (va_up (fun _ => none) 0 (some a_24)) 1 (some a_25)) 2 (some a_26))))))), (a_24, .inr (1, [.ref a_27, .ref a_28, .int i_13, .int i_14, .int i_15])), (a_27, .inl (cy 1, 2100, .inl f_5)), (a_25, .inr (1, [.ref a_29, .ref a_30, .int i_16, .int i_17, .int i_18])), (a_29, .inl (cy 1, 2100, .inl f_6)), (a_26, .inr (1, [.ref a_31, .ref a_32, .int i_19, .int i_20, .int i_21])), (a_31, .inl (cy 1, 2100, .inl f_7)), (a_11, .inr (5, [.ref a_3, .ref a_33]))] H → va_D A [(a_0, .inr (11, [.ref a_1, .ref a_2, .ref a_3, .ref a_4, .ref a_5, .ref a_6, .ref a_7, .ref a_8, .ref a_9, .ref a_10, .ref a_11])), (a_3, .inr (10, [.ref a_12, .ref a_13])), (a_12, .inr (0, [.int i_5, .int i_6, .int i_7, .int i_8, .int i_9, .int i_10, .int i_11, .int i_12, .ref a_14, .ref a_15, .ref a_16, .ref a_17, .ref a_18, .ref a_19, .ref a_20, .ref a_21, .ref a_22, .ref a_23])), (a_14, .inl (cy 1, 9, .inl f_0)), (a_15, .inl (cy 1, 9, .inl f_1)), (a_18, .inl (cy 1, 6, .inl f_2)), (a_19, .inl (cy 1, 48, .inl f_3)), (a_20, .inl (cy 1, 30, .inl f_4)), (a_13, .inl (cy 5, 3, .inr (.inr (.inr (.inr (va_up (va_up (va_up (fun _ => none) 0 (some a_24)) 1 (some a_25)) 2 (some a_26))))))), (a_24, .inr (1, [.ref a_27, .ref a_28, .int i_13, .int i_14, .int i_15])), (a_27, .inl (cy 1, 2100, .inl f_5)), (a_25, .inr (1, [.ref a_29, .ref a_30, .int i_16, .int i_17, .int i_18])), (a_29, .inl (cy 1, 2100, .inl f_6)), (a_26, .inr (1, [.ref a_31, .ref a_32, .int i_19, .int i_20, .int i_21])), (a_31, .inl (cy 1, 2100, .inl f_7)), (a_11, .inr (5, [.ref a_3, .ref a_33]))] → va_S A s.heap H locs → ∀ (ls : Array Slot), lv_has ls 8 [(7, .int x39_7_351), (6, .int x39_6_352), (0, .ref a_0), (1, .int i_0), (2, .int i_1), (3, .int i_2), (4, .int i_3), (5, .int i_4)] → W p l e R s m args below meth c H locs 0 0 Q (F0 m 39 ls []) := by
                intro n
                induction n with
                | zero => intro x39_7_351 x39_6_352 rx39_7_351 hm; exact absurd hm (Nat.not_lt_zero _)
                | succ n ih39 =>
                  intro x39_7_351 x39_6_352 rx39_7_351 hm39 H locs hP hD hS ls hl
                  refine lv_iload hx hb dX11_luck_39 (lv_at hl 0 rfl) ?_
                  refine lv_iload_n hx hb dX11_luck_41 rfl (lv_at hl 4 rfl) ?_
                  refine lv_icmp_ge (tgt := 83) hx hb dX11_luck_42 (by decide) (fun c354 => ?_) (fun c354 => ?_)
                  · have q355 := mm_leR (mm_le c354) q12 rx39_7_351
                    refine lv_iload hx hb dX11_luck_83 (lv_at hl 1 rfl) ?_
                    subst hAe
                    rw [hQ]
                    exact W.iret (v := x39_6_352) hx hb hr (fun t ht hW => ⟨⟨x39_6_352, (), rfl, trivial, by rw [ht]; exact hP, hK.warm hW, hD⟩, hS.F ht⟩) hS.2.2 dX11_luck_85
                  · have q356 := mm_ltL (h := 19) (mm_nle c354) rx39_7_351 q12 (by decide)
                    refine lv_aload_n hx hb dX11_luck_45 rfl (lv_at hl 2 rfl) ?_
                    refine va_get (D := G) (ci := 11) (v := .ref a_3) (C := RX11) (T := TX11) (N := 11) hx hb hts (mm_i inlX11) hown hK.1 hP 0 rfl rfl 2 (by decide) (mm_h hts mm_w24) (fun _ h9 => h9) rfl dX11_luck_46 ?_
                    refine lv_iload_n hx hb dX11_luck_49 rfl (lv_at hl 5 rfl) ?_
                    refine lv_iload hx hb dX11_luck_50 (lv_at hl 6 rfl) ?_
                    refine lv_aload_n hx hb dX11_luck_52 rfl (lv_at hl 2 rfl) ?_
                    refine va_get (D := G) (ci := 11) (v := .ref a_11) (C := RX11) (T := TX11) (N := 11) hx hb hts (mm_i inlX11) hown hK.1 hP 0 rfl rfl 10 (by decide) (mm_h hts mm_w54) (fun _ h9 => h9) rfl dX11_luck_53 ?_
                    refine lv_iload_n hx hb dX11_luck_56 rfl (lv_at hl 3 rfl) ?_
                    refine lv_iload hx hb dX11_luck_57 (lv_at hl 0 rfl) ?_
                    refine lv_iadd hx hb dX11_luck_59 ?_
                    refine lv_topi (fun v357 ev357 => ?_)
                    have rv357 : mm_rg v357 0 2000000019 := mm_add ev357 w3 q356 (by decide) (by decide)
                    have tv357 := mm_addE ev357 w3 q356 (by decide)
                    refine lv_bipush (v := 7) hx hb dX11_luck_60 (by decide) ?_
                    refine mm_finir (va_runV (As := [.int v357, .int 7]) (rest := [.int i_3, .int i_2, .ref a_3]) ⟨hx, hb, hml, hown, hts⟩ (K517_X5_drawDelay l G cy H.size a_11 v357 a_3 a_12 a_13 i_5 i_6 i_7 i_8 i_9 i_10 i_11 i_12 a_14 a_15 a_16 a_17 a_18 a_19 a_20 a_21 a_22 a_23 a_33 rv357 h0) (cwV 2 hts (mm_gV mm_w1596 mm_w1597 mm_w1598 mm_w53 mm_w1599) rfl rfl rfl hd_X5_drawDelay ⟨by rw [hRf]; exact Nat.le_of_ble_eq_true rfl, by rw [hRl]; exact Nat.le_of_ble_eq_true rfl⟩) (mm_preV hK hZ hS hA hP hD [1, 2, 15] rfl rfl 15 rfl rfl rfl) rfl rfl hl.1 rfl (lv_room (Nat.le_of_ble_eq_true rfl)) dX11_luck_62 ⟨by rw [hRc]; exact Nat.le_of_ble_eq_true rfl, by rw [hRs]; exact Nat.le_of_ble_eq_true rfl⟩) hP hD hS hA [1, 2, 15] rfl (fun _ => rfl) ?_
                    clear hP hD hS
                    clear H locs
                    intro v358 _u H locs hw hP hD hS
                    have w359 := hw
                    refine lv_iadd hx hb dX11_luck_65 ?_
                    refine lv_topi (fun v360 ev360 => ?_)
                    have rv360 : mm_rg v360 0 1000000007 := mm_add ev360 w15 w359 (by decide) (by decide)
                    have tv360 := mm_addE ev360 w15 w359 (by decide)
                    refine lv_iload hx hb dX11_luck_66 (lv_at hl 7 rfl) ?_
                    refine mm_finir (va_runV (As := [.int i_2, .int v360, .int i_4]) (rest := []) ⟨hx, hb, hml, hown, hts⟩ (K411_X10_gains l G cy H.size a_3 i_2 v360 i_4 a_12 a_13 i_5 i_6 i_7 i_8 i_9 i_10 i_11 i_12 a_14 a_15 a_16 a_17 a_18 a_19 a_20 a_21 a_22 a_23 f_0 f_1 f_2 f_3 f_4 a_24 a_25 a_26 a_27 a_28 i_13 i_14 i_15 f_5 a_29 a_30 i_16 i_17 i_18 f_6 a_31 a_32 i_19 i_20 i_21 f_7 w14 (mm_wk rv360 (by decide)) w16 h1 h2 h5 h6 h7 h8 h9 h10 h11 h12 h13 h14 h15) (cwV 3 hts (mm_gV mm_w1021 mm_w1022 mm_w1023 mm_w23 mm_w1024) rfl rfl rfl hd_X10_gains ⟨by rw [hRf]; exact Nat.le_of_ble_eq_true rfl, by rw [hRl]; exact Nat.le_of_ble_eq_true rfl⟩) (mm_preV hK hZ hS hA hP hD [1, 2, 3, 4, 5, 6, 7, 8, 9, 10, 11, 12, 13, 14] rfl rfl 1 rfl rfl rfl) rfl rfl hl.1 rfl (lv_room (Nat.le_of_ble_eq_true rfl)) dX11_luck_68 ⟨by rw [hRc]; exact Nat.le_of_ble_eq_true rfl, by rw [hRs]; exact Nat.le_of_ble_eq_true rfl⟩) hP hD hS hA [1, 2, 3, 4, 5, 6, 7, 8, 9, 10, 11, 12, 13, 14] rfl (fun _ => rfl) ?_
                    clear hP hD hS
                    clear H locs
                    intro v361 _u H locs hw hP hD hS
                    rcases hw with rfl | rfl
                    · refine lv_if_eq (tgt := 77) hx hb dX11_luck_71 (by decide) (fun c362 => ?_) (fun c362 => ?_)
                      · obtain ⟨v363, ev363⟩ : ∃ y : Int32, y = x39_7_351 + 1 := ⟨_, rfl⟩
                        refine lv_iinc (v := v363) (lv' := [(7, .int v363), (6, .int x39_6_352), (0, .ref a_0), (1, .int i_0), (2, .int i_1), (3, .int i_2), (4, .int i_3), (5, .int i_4)]) hx hb dX11_luck_77 hl (k := 0) rfl (by rw [ev363]; rfl) (by decide) rfl ?_
                        clear hl
                        clear ls
                        intro ls hl
                        have rv363 : mm_rg v363 1 20 := mm_add ev363 q356 mm_k1 (by decide) (by decide)
                        have tv363 := mm_addEc ev363 q356 mm_k1 (by decide) (k := 1) (by decide)
                        refine lv_goto (tgt := 39) hx hb dX11_luck_80 (by decide) ?_
                        exact ih39 v363 x39_6_352 (mm_wk rv363 (by decide)) (mm_mu hm39 tv363 (by decide) (rv363).2 (by decide)) H locs hP hD hS ls (lv_sub hl [0, 1, 2, 3, 4, 5, 6, 7] rfl)
                      · have q364 := mm_neL (lo := 1) (mm_ne c362) mm_k0 mm_k0 (by decide) (by decide)
                        exact mm_no q364 (by decide)
                    · refine lv_if_eq (tgt := 77) hx hb dX11_luck_71 (by decide) (fun c365 => ?_) (fun c365 => ?_)
                      · exact mm_eqN c365.symm mm_k0 mm_k1 (by decide)
                      · obtain ⟨v366, ev366⟩ : ∃ y : Int32, y = x39_6_352 + 1 := ⟨_, rfl⟩
                        refine lv_iinc (v := v366) (lv' := [(6, .int v366), (7, .int x39_7_351), (0, .ref a_0), (1, .int i_0), (2, .int i_1), (3, .int i_2), (4, .int i_3), (5, .int i_4)]) hx hb dX11_luck_74 hl (k := 1) rfl (by rw [ev366]; rfl) (by decide) rfl ?_
                        clear hl
                        clear ls
                        intro ls hl
                        obtain ⟨v367, ev367⟩ : ∃ y : Int32, y = x39_7_351 + 1 := ⟨_, rfl⟩
                        refine lv_iinc (v := v367) (lv' := [(7, .int v367), (6, .int v366), (0, .ref a_0), (1, .int i_0), (2, .int i_1), (3, .int i_2), (4, .int i_3), (5, .int i_4)]) hx hb dX11_luck_77 hl (k := 1) rfl (by rw [ev367]; rfl) (by decide) rfl ?_
                        clear hl
                        clear ls
                        intro ls hl
                        have rv367 : mm_rg v367 1 20 := mm_add ev367 q356 mm_k1 (by decide) (by decide)
                        have tv367 := mm_addEc ev367 q356 mm_k1 (by decide) (k := 1) (by decide)
                        refine lv_goto (tgt := 39) hx hb dX11_luck_80 (by decide) ?_
                        exact ih39 v367 v366 (mm_wk rv367 (by decide)) (mm_mu hm39 tv367 (by decide) (rv367).2 (by decide)) H locs hP hD hS ls (lv_sub hl [0, 1, 2, 3, 4, 5, 6, 7] rfl)
              exact L39_352 _ 0 0 (mm_wk mm_k0 (by decide)) (Nat.lt_succ_self _) H locs hP hD hS ls (lv_sub hl [0, 1, 2, 3, 4, 5, 6, 7] rfl)
            · exact mm_eqN c19.symm mm_k0 mm_k1 (by decide)

set_option maxHeartbeats 4000000 in
set_option maxRecDepth 100000 in
theorem K519_X11_rate (l : Launch) (G : va_G) (cy : Nat → ClassId) (sz : Nat) (a_0 : Nat) (i_0 : Int32) (i_1 : Int32) (a_1 : Nat) (a_2 : Nat) (a_3 : Nat) (a_4 : Nat) (a_5 : Nat) (a_6 : Nat) (a_7 : Nat) (a_8 : Nat) (a_9 : Nat) (a_10 : Nat) (a_11 : Nat) (a_12 : Nat) (a_13 : Nat) (i_2 : Int32) (i_3 : Int32) (i_4 : Int32) (i_5 : Int32) (i_6 : Int32) (i_7 : Int32) (i_8 : Int32) (i_9 : Int32) (a_14 : Nat) (a_15 : Nat) (a_16 : Nat) (a_17 : Nat) (a_18 : Nat) (a_19 : Nat) (a_20 : Nat) (a_21 : Nat) (a_22 : Nat) (a_23 : Nat) (f_0 : Nat → Int32) (f_1 : Nat → Int32) (h0 : mm_rg i_6 0 9) (h1 : mm_rg i_9 0 30) (h2 : mm_ar f_0 (-1) 4) (h3 : mm_ar f_1 0 99)  : mm_CI l yX11_rate (mm_ws yX11_rate cX11_rate 4 (some .int)) ({ frames := 1, cells := 0, slots := 0, locals := 21 } : Room) G cy sz [(a_0, .inr (11, [.ref a_1, .ref a_2, .ref a_3, .ref a_4, .ref a_5, .ref a_6, .ref a_7, .ref a_8, .ref a_9, .ref a_10, .ref a_11])), (a_3, .inr (10, [.ref a_12, .ref a_13])), (a_12, .inr (0, [.int i_2, .int i_3, .int i_4, .int i_5, .int i_6, .int i_7, .int i_8, .int i_9, .ref a_14, .ref a_15, .ref a_16, .ref a_17, .ref a_18, .ref a_19, .ref a_20, .ref a_21, .ref a_22, .ref a_23])), (a_14, .inl (cy 1, 9, .inl f_0)), (a_15, .inl (cy 1, 9, .inl f_1))] [.ref a_0, .int i_0, .int i_1] (fun u : (Nat → Int32) => [(a_0, .inr (11, [.ref a_1, .ref a_2, .ref a_3, .ref a_4, .ref a_5, .ref a_6, .ref a_7, .ref a_8, .ref a_9, .ref a_10, .ref a_11])), (a_3, .inr (10, [.ref a_12, .ref a_13])), (a_12, .inr (0, [.int i_2, .int i_3, .int i_4, .int i_5, .int i_6, .int i_7, .int i_8, .int i_9, .ref a_14, .ref a_15, .ref a_16, .ref a_17, .ref a_18, .ref a_19, .ref a_20, .ref a_21, .ref a_22, .ref a_23])), (a_14, .inl (cy 1, 9, .inl f_0)), (a_15, .inl (cy 1, 9, .inl u))]) (fun (r : Int32) (u : (Nat → Int32)) => mm_ar u 0 99 ∧ mm_rg r (-5) 99) 0 0 := by
  refine mm_begin (lv := [(0, .ref a_0), (1, .int i_0), (2, .int i_1)]) (by decide) (Nat.le_of_ble_eq_true rfl) rfl ?_
  intro p e s m below meth c A ls R args Q H locs hRe hQ hAe hx hb hr hlocks hml hown hnm hts hsz hA hS hP hK hD hZ hl
  have hRf : R.frames = 1 := by rw [hRe]
  have hRl : R.locals = 21 := by rw [hRe]
  have hRc : R.cells = 0 := by rw [hRe]
  have hRs : R.slots = 0 := by rw [hRe]
  refine lv_aload_n hx hb dX11_rate_0 rfl (lv_at hl 0 rfl) ?_
  refine lv_iload_n hx hb dX11_rate_1 rfl (lv_at hl 1 rfl) ?_
  refine mm_finir (va_runV (As := [.int i_0]) (rest := []) ⟨hx, hb, hml, hown, hts⟩ (K344_X11_isSense l G cy H.size a_0 i_0 a_1 a_2 a_3 a_4 a_5 a_6 a_7 a_8 a_9 a_10 a_11 a_12 a_13 i_2 i_3 i_4 i_5 i_6 i_7 i_8 i_9 a_14 a_15 a_16 a_17 a_18 a_19 a_20 a_21 a_22 a_23 h0) (cwV 1 hts (mm_gV mm_w576 mm_w577 mm_w578 mm_w2 mm_w579) rfl rfl rfl hd_X11_isSense ⟨by rw [hRf]; exact Nat.le_of_ble_eq_true rfl, by rw [hRl]; exact Nat.le_of_ble_eq_true rfl⟩) (mm_preV hK hZ hS hA hP hD [0, 1, 2] rfl rfl 0 rfl rfl rfl) rfl rfl hl.1 rfl (lv_room (Nat.le_of_ble_eq_true rfl)) dX11_rate_2 ⟨by rw [hRc]; exact Nat.le_of_ble_eq_true rfl, by rw [hRs]; exact Nat.le_of_ble_eq_true rfl⟩) hP hD hS hA [0, 1, 2] rfl (fun _ => rfl) ?_
  clear hP hD hS
  clear H locs
  intro v1 _u H locs hw hP hD hS
  rcases hw with ⟨rfl, w2⟩ | ⟨rfl, w3⟩
  · refine lv_if_eq (tgt := 34) hx hb dX11_rate_5 (by decide) (fun c4 => ?_) (fun c4 => ?_)
    · refine lv_bipush (v := (-2)) hx hb dX11_rate_34 (by decide) ?_
      subst hAe
      rw [hQ]
      exact W.iret (v := (-2)) hx hb hr (fun t ht hW => ⟨⟨(-2), f_1, rfl, ⟨h3, (mm_wk mm_km2 (by decide))⟩, by rw [ht]; exact hP, hK.warm hW, hD⟩, hS.F ht⟩) hS.2.2 dX11_rate_36
    · have q5 := mm_neL (lo := 1) (mm_ne c4) mm_k0 mm_k0 (by decide) (by decide)
      exact mm_no q5 (by decide)
  · refine lv_if_eq (tgt := 34) hx hb dX11_rate_5 (by decide) (fun c6 => ?_) (fun c6 => ?_)
    · exact mm_eqN c6.symm mm_k0 mm_k1 (by decide)
    · refine lv_aload_n hx hb dX11_rate_8 rfl (lv_at hl 0 rfl) ?_
      refine va_get (D := G) (ci := 11) (v := .ref a_3) (C := RX11) (T := TX11) (N := 11) hx hb hts (mm_i inlX11) hown hK.1 hP 0 rfl rfl 2 (by decide) (mm_h hts mm_w24) (fun _ h9 => h9) rfl dX11_rate_9 ?_
      refine va_get (D := G) (ci := 10) (v := .ref a_12) (C := RX10) (T := TX10) (N := 2) hx hb hts (mm_i inlX10) hown hK.1 hP 1 rfl rfl 0 (by decide) (mm_h hts mm_w199) (fun _ h9 => h9) rfl dX11_rate_12 ?_
      refine va_get (D := G) (ci := 0) (v := .ref a_14) (C := RX0) (T := TX0) (N := 18) hx hb hts (mm_i inlX0) hown hK.1 hP 2 rfl rfl 8 (by decide) (mm_h hts mm_w574) (fun _ h9 => h9) rfl dX11_rate_15 ?_
      refine lv_iload_n hx hb dX11_rate_18 rfl (lv_at hl 1 rfl) ?_
      refine va_iald hx hb hK.1 hP 3 1 rfl rfl (mm_in w3 (by decide)) dX11_rate_19 ?_
      refine lv_topi (fun v7 ev7 => ?_)
      have rv7 : mm_rg v7 (-1) 4 := mm_eqv ev7 (h2 _)
      refine lv_iconst (v := 1) hx hb dX11_rate_20 (by decide) ?_
      refine lv_icmp_gt (tgt := 34) hx hb dX11_rate_21 (by decide) (fun c8 => ?_) (fun c8 => ?_)
      · have q9 := mm_ltR (lo := 2) (mm_lt c8) mm_k1 rv7 (by decide)
        refine lv_bipush (v := (-2)) hx hb dX11_rate_34 (by decide) ?_
        subst hAe
        rw [hQ]
        exact W.iret (v := (-2)) hx hb hr (fun t ht hW => ⟨⟨(-2), f_1, rfl, ⟨h3, (mm_wk mm_km2 (by decide))⟩, by rw [ht]; exact hP, hK.warm hW, hD⟩, hS.F ht⟩) hS.2.2 dX11_rate_36
      · have q10 := mm_leL (mm_nlt c8) rv7 mm_k1
        refine lv_iload_n hx hb dX11_rate_24 rfl (lv_at hl 2 rfl) ?_
        refine lv_if_lt (tgt := 34) hx hb dX11_rate_25 (by decide) (fun c11 => ?_) (fun c11 => ?_)
        · have q12 := mm_ltL (h := (-1)) (mm_lt c11) (mm_top i_1) mm_k0 (by decide)
          refine lv_bipush (v := (-2)) hx hb dX11_rate_34 (by decide) ?_
          subst hAe
          rw [hQ]
          exact W.iret (v := (-2)) hx hb hr (fun t ht hW => ⟨⟨(-2), f_1, rfl, ⟨h3, (mm_wk mm_km2 (by decide))⟩, by rw [ht]; exact hP, hK.warm hW, hD⟩, hS.F ht⟩) hS.2.2 dX11_rate_36
        · have q13 := mm_leR (mm_nlt c11) mm_k0 (mm_top i_1)
          refine lv_iload_n hx hb dX11_rate_28 rfl (lv_at hl 2 rfl) ?_
          refine lv_bipush (v := 99) hx hb dX11_rate_29 (by decide) ?_
          refine lv_icmp_le (tgt := 37) hx hb dX11_rate_31 (by decide) (fun c14 => ?_) (fun c14 => ?_)
          · have q15 := mm_leL (mm_le c14) q13 mm_k99
            refine lv_aload_n hx hb dX11_rate_37 rfl (lv_at hl 0 rfl) ?_
            refine va_get (D := G) (ci := 11) (v := .ref a_3) (C := RX11) (T := TX11) (N := 11) hx hb hts (mm_i inlX11) hown hK.1 hP 0 rfl rfl 2 (by decide) (mm_h hts mm_w24) (fun _ h9 => h9) rfl dX11_rate_38 ?_
            refine va_get (D := G) (ci := 10) (v := .ref a_12) (C := RX10) (T := TX10) (N := 2) hx hb hts (mm_i inlX10) hown hK.1 hP 1 rfl rfl 0 (by decide) (mm_h hts mm_w199) (fun _ h9 => h9) rfl dX11_rate_41 ?_
            refine va_get (D := G) (ci := 0) (v := .int i_9) (C := RX0) (T := TX0) (N := 18) hx hb hts (mm_i inlX0) hown hK.1 hP 2 rfl rfl 7 (by decide) (mm_h hts mm_w1540) (fun _ h9 => h9) rfl dX11_rate_44 ?_
            refine lv_if_le (tgt := 53) hx hb dX11_rate_47 (by decide) (fun c16 => ?_) (fun c16 => ?_)
            · have q17 := mm_leL (mm_le c16) h1 mm_k0
              refine lv_aload_n hx hb dX11_rate_53 rfl (lv_at hl 0 rfl) ?_
              refine va_get (D := G) (ci := 11) (v := .ref a_3) (C := RX11) (T := TX11) (N := 11) hx hb hts (mm_i inlX11) hown hK.1 hP 0 rfl rfl 2 (by decide) (mm_h hts mm_w24) (fun _ h9 => h9) rfl dX11_rate_54 ?_
              refine va_get (D := G) (ci := 10) (v := .ref a_12) (C := RX10) (T := TX10) (N := 2) hx hb hts (mm_i inlX10) hown hK.1 hP 1 rfl rfl 0 (by decide) (mm_h hts mm_w199) (fun _ h9 => h9) rfl dX11_rate_57 ?_
              refine va_get (D := G) (ci := 0) (v := .ref a_15) (C := RX0) (T := TX0) (N := 18) hx hb hts (mm_i inlX0) hown hK.1 hP 2 rfl rfl 9 (by decide) (mm_h hts mm_w575) (fun _ h9 => h9) rfl dX11_rate_60 ?_
              refine lv_iload_n hx hb dX11_rate_63 rfl (lv_at hl 1 rfl) ?_
              refine va_iald hx hb hK.1 hP 4 1 rfl rfl (mm_in w3 (by decide)) dX11_rate_64 ?_
              refine lv_topi (fun v18 ev18 => ?_)
              have rv18 : mm_rg v18 0 99 := mm_eqv ev18 (h3 _)
              refine lv_istore_n (lv' := [(3, .int v18), (0, .ref a_0), (1, .int i_0), (2, .int i_1)]) hx hb dX11_rate_65 rfl hl (by decide) rfl ?_
              clear hl
              clear ls
              intro ls hl
              refine lv_aload_n hx hb dX11_rate_66 rfl (lv_at hl 1 rfl) ?_
              refine va_get (D := G) (ci := 11) (v := .ref a_3) (C := RX11) (T := TX11) (N := 11) hx hb hts (mm_i inlX11) hown hK.1 hP 0 rfl rfl 2 (by decide) (mm_h hts mm_w24) (fun _ h9 => h9) rfl dX11_rate_67 ?_
              refine va_get (D := G) (ci := 10) (v := .ref a_12) (C := RX10) (T := TX10) (N := 2) hx hb hts (mm_i inlX10) hown hK.1 hP 1 rfl rfl 0 (by decide) (mm_h hts mm_w199) (fun _ h9 => h9) rfl dX11_rate_70 ?_
              refine va_get (D := G) (ci := 0) (v := .ref a_15) (C := RX0) (T := TX0) (N := 18) hx hb hts (mm_i inlX0) hown hK.1 hP 2 rfl rfl 9 (by decide) (mm_h hts mm_w575) (fun _ h9 => h9) rfl dX11_rate_73 ?_
              refine lv_iload_n hx hb dX11_rate_76 rfl (lv_at hl 2 rfl) ?_
              refine lv_iload_n hx hb dX11_rate_77 rfl (lv_at hl 3 rfl) ?_
              refine va_iast hx hb hK.1 hP hD hS 4 1 rfl rfl (mm_in w3 (by decide)) dX11_rate_78 ?_
              clear hP hD hS
              clear H locs
              obtain ⟨g19, eg19⟩ : ∃ z : Nat → Int32, z = upd f_1 i_0.toNatClampNeg i_1 := ⟨_, rfl⟩
              rw [← eg19]
              intro H locs (hP : va_P G vwCl [(a_0, .inr (11, [.ref a_1, .ref a_2, .ref a_3, .ref a_4, .ref a_5, .ref a_6, .ref a_7, .ref a_8, .ref a_9, .ref a_10, .ref a_11])), (a_3, .inr (10, [.ref a_12, .ref a_13])), (a_12, .inr (0, [.int i_2, .int i_3, .int i_4, .int i_5, .int i_6, .int i_7, .int i_8, .int i_9, .ref a_14, .ref a_15, .ref a_16, .ref a_17, .ref a_18, .ref a_19, .ref a_20, .ref a_21, .ref a_22, .ref a_23])), (a_14, .inl (cy 1, 9, .inl f_0)), (a_15, .inl (cy 1, 9, .inl g19))] H) (hD : va_D A [(a_0, .inr (11, [.ref a_1, .ref a_2, .ref a_3, .ref a_4, .ref a_5, .ref a_6, .ref a_7, .ref a_8, .ref a_9, .ref a_10, .ref a_11])), (a_3, .inr (10, [.ref a_12, .ref a_13])), (a_12, .inr (0, [.int i_2, .int i_3, .int i_4, .int i_5, .int i_6, .int i_7, .int i_8, .int i_9, .ref a_14, .ref a_15, .ref a_16, .ref a_17, .ref a_18, .ref a_19, .ref a_20, .ref a_21, .ref a_22, .ref a_23])), (a_14, .inl (cy 1, 9, .inl f_0)), (a_15, .inl (cy 1, 9, .inl g19))]) hS
              have rg19 : mm_ar g19 0 99 := by rw [eg19]; exact mm_ar_upd (mm_ar_wk h3 (by decide)) (mm_wk q15 (by decide)) _
              refine lv_iload_n hx hb dX11_rate_79 rfl (lv_at hl 0 rfl) ?_
              subst hAe
              rw [hQ]
              exact W.iret (v := v18) hx hb hr (fun t ht hW => ⟨⟨v18, g19, rfl, ⟨rg19, (mm_wk rv18 (by decide))⟩, by rw [ht]; exact hP, hK.warm hW, hD⟩, hS.F ht⟩) hS.2.2 dX11_rate_80
            · have q20 := mm_ltR (lo := 1) (mm_nle c16) mm_k0 h1 (by decide)
              refine lv_bipush (v := (-5)) hx hb dX11_rate_50 (by decide) ?_
              subst hAe
              rw [hQ]
              exact W.iret (v := (-5)) hx hb hr (fun t ht hW => ⟨⟨(-5), f_1, rfl, ⟨h3, (mm_wk mm_km5 (by decide))⟩, by rw [ht]; exact hP, hK.warm hW, hD⟩, hS.F ht⟩) hS.2.2 dX11_rate_52
          · have q21 := mm_ltR (lo := 100) (mm_nle c14) mm_k99 q13 (by decide)
            refine lv_bipush (v := (-2)) hx hb dX11_rate_34 (by decide) ?_
            subst hAe
            rw [hQ]
            exact W.iret (v := (-2)) hx hb hr (fun t ht hW => ⟨⟨(-2), f_1, rfl, ⟨h3, (mm_wk mm_km2 (by decide))⟩, by rw [ht]; exact hP, hK.warm hW, hD⟩, hS.F ht⟩) hS.2.2 dX11_rate_36

set_option maxHeartbeats 4000000 in
set_option maxRecDepth 100000 in
theorem K520_X0_allRules (l : Launch) (G : va_G) (cy : Nat → ClassId) (sz : Nat) (a_0 : Nat) (i_0 : Int32) (i_1 : Int32) (i_2 : Int32) (i_3 : Int32) (i_4 : Int32) (i_5 : Int32) (i_6 : Int32) (i_7 : Int32) (a_1 : Nat) (a_2 : Nat) (a_3 : Nat) (a_4 : Nat) (a_5 : Nat) (a_6 : Nat) (a_7 : Nat) (a_8 : Nat) (a_9 : Nat) (a_10 : Nat) (f_0 : Nat → Int32) (h0 : mm_rg i_5 0 3) (h1 : mm_ar f_0 0 7)  : mm_CI l yX0_allRules (mm_ws yX0_allRules cX0_allRules 3 (some .int)) ({ frames := 0, cells := 0, slots := 0, locals := 0 } : Room) G cy sz [(a_0, .inr (0, [.int i_0, .int i_1, .int i_2, .int i_3, .int i_4, .int i_5, .int i_6, .int i_7, .ref a_1, .ref a_2, .ref a_3, .ref a_4, .ref a_5, .ref a_6, .ref a_7, .ref a_8, .ref a_9, .ref a_10])), (a_3, .inl (cy 1, 3, .inl f_0))] [.ref a_0] (fun u : Unit => [(a_0, .inr (0, [.int i_0, .int i_1, .int i_2, .int i_3, .int i_4, .int i_5, .int i_6, .int i_7, .ref a_1, .ref a_2, .ref a_3, .ref a_4, .ref a_5, .ref a_6, .ref a_7, .ref a_8, .ref a_9, .ref a_10])), (a_3, .inl (cy 1, 3, .inl f_0))]) (fun (r : Int32) (u : Unit) => True) 0 0 := by
  refine mm_begin (lv := [(0, .ref a_0)]) (by decide) (Nat.le_of_ble_eq_true rfl) rfl ?_
  intro p e s m below meth c A ls R args Q H locs hRe hQ hAe hx hb hr hlocks hml hown hnm hts hsz hA hS hP hK hD hZ hl
  have hRf : R.frames = 0 := by rw [hRe]
  have hRl : R.locals = 0 := by rw [hRe]
  have hRc : R.cells = 0 := by rw [hRe]
  have hRs : R.slots = 0 := by rw [hRe]
  refine lv_iconst (v := 0) hx hb dX0_allRules_0 (by decide) ?_
  refine lv_istore_n (lv' := [(1, .int 0), (0, .ref a_0)]) hx hb dX0_allRules_1 rfl hl (by decide) rfl ?_
  clear hl
  clear ls
  intro ls hl
  refine lv_iconst (v := 0) hx hb dX0_allRules_2 (by decide) ?_
  refine lv_istore_n (lv' := [(2, .int 0), (1, .int 0), (0, .ref a_0)]) hx hb dX0_allRules_3 rfl hl (by decide) rfl ?_
  clear hl
  clear ls
  intro ls hl
  have L4_91 : ∀ (n : Nat) (x4_2_90 : Int32) (x4_1_91 : Int32), mm_rg x4_2_90 0 3 → (3 - x4_2_90.toInt).toNat < n → ∀ (H : Heap) (locs : List Loc), va_P G vwCl [(a_0, .inr (0, [.int i_0, .int i_1, .int i_2, .int i_3, .int i_4, .int i_5, .int i_6, .int i_7, .ref a_1, .ref a_2, .ref a_3, .ref a_4, .ref a_5, .ref a_6, .ref a_7, .ref a_8, .ref a_9, .ref a_10])), (a_3, .inl (cy 1, 3, .inl f_0))] H → va_D A [(a_0, .inr (0, [.int i_0, .int i_1, .int i_2, .int i_3, .int i_4, .int i_5, .int i_6, .int i_7, .ref a_1, .ref a_2, .ref a_3, .ref a_4, .ref a_5, .ref a_6, .ref a_7, .ref a_8, .ref a_9, .ref a_10])), (a_3, .inl (cy 1, 3, .inl f_0))] → va_S A s.heap H locs → ∀ (ls : Array Slot), lv_has ls 3 [(2, .int x4_2_90), (1, .int x4_1_91), (0, .ref a_0)] → W p l e R s m args below meth c H locs 0 0 Q (F0 m 4 ls []) := by
    intro n
    induction n with
    | zero => intro x4_2_90 x4_1_91 rx4_2_90 hm; exact absurd hm (Nat.not_lt_zero _)
    | succ n ih4 =>
      intro x4_2_90 x4_1_91 rx4_2_90 hm4 H locs hP hD hS ls hl
      refine lv_iload_n hx hb dX0_allRules_4 rfl (lv_at hl 0 rfl) ?_
      refine lv_aload_n hx hb dX0_allRules_5 rfl (lv_at hl 2 rfl) ?_
      refine va_get (D := G) (ci := 0) (v := .int i_5) (C := RX0) (T := TX0) (N := 18) hx hb hts (mm_i inlX0) hown hK.1 hP 0 rfl rfl 5 (by decide) (mm_h hts mm_w220) (fun _ h9 => h9) rfl dX0_allRules_6 ?_
      refine lv_icmp_ge (tgt := 27) hx hb dX0_allRules_9 (by decide) (fun c93 => ?_) (fun c93 => ?_)
      · refine lv_iload_n hx hb dX0_allRules_27 rfl (lv_at hl 1 rfl) ?_
        subst hAe
        rw [hQ]
        exact W.iret (v := x4_1_91) hx hb hr (fun t ht hW => ⟨⟨x4_1_91, (), rfl, trivial, by rw [ht]; exact hP, hK.warm hW, hD⟩, hS.F ht⟩) hS.2.2 dX0_allRules_28
      · have q94 := mm_ltL (h := 2) (mm_nle c93) rx4_2_90 h0 (by decide)
        have q95 := mm_ltR (lo := 1) (mm_nle c93) rx4_2_90 h0 (by decide)
        refine lv_iload_n hx hb dX0_allRules_12 rfl (lv_at hl 1 rfl) ?_
        refine lv_aload_n hx hb dX0_allRules_13 rfl (lv_at hl 2 rfl) ?_
        refine va_get (D := G) (ci := 0) (v := .ref a_3) (C := RX0) (T := TX0) (N := 18) hx hb hts (mm_i inlX0) hown hK.1 hP 0 rfl rfl 10 (by decide) (mm_h hts mm_w74) (fun _ h9 => h9) rfl dX0_allRules_14 ?_
        refine lv_iload_n hx hb dX0_allRules_17 rfl (lv_at hl 0 rfl) ?_
        refine va_iald hx hb hK.1 hP 1 1 rfl rfl (mm_in q94 (by decide)) dX0_allRules_18 ?_
        refine lv_topi (fun v96 ev96 => ?_)
        have rv96 : mm_rg v96 0 7 := mm_eqv ev96 (h1 _)
        refine lv_iadd hx hb dX0_allRules_19 ?_
        refine lv_topi (fun v97 ev97 => ?_)
        refine lv_istore_n (lv' := [(1, .int v97), (2, .int x4_2_90), (0, .ref a_0)]) hx hb dX0_allRules_20 rfl hl (by decide) rfl ?_
        clear hl
        clear ls
        intro ls hl
        obtain ⟨v98, ev98⟩ : ∃ y : Int32, y = x4_2_90 + 1 := ⟨_, rfl⟩
        refine lv_iinc (v := v98) (lv' := [(2, .int v98), (1, .int v97), (0, .ref a_0)]) hx hb dX0_allRules_21 hl (k := 1) rfl (by rw [ev98]; rfl) (by decide) rfl ?_
        clear hl
        clear ls
        intro ls hl
        have rv98 : mm_rg v98 1 3 := mm_add ev98 q94 mm_k1 (by decide) (by decide)
        have tv98 := mm_addEc ev98 q94 mm_k1 (by decide) (k := 1) (by decide)
        refine lv_goto (tgt := 4) hx hb dX0_allRules_24 (by decide) ?_
        exact ih4 v98 v97 (mm_wk rv98 (by decide)) (mm_mu hm4 tv98 (by decide) (rv98).2 (by decide)) H locs hP hD hS ls (lv_sub hl [0, 1, 2] rfl)
  exact L4_91 _ 0 0 (mm_wk mm_k0 (by decide)) (Nat.lt_succ_self _) H locs hP hD hS ls (lv_sub hl [0, 1, 2] rfl)

set_option maxHeartbeats 4000000 in
set_option maxRecDepth 100000 in
theorem K521_X11_rowsPresent (l : Launch) (G : va_G) (cy : Nat → ClassId) (sz : Nat) (a_0 : Nat) (a_1 : Nat) (a_2 : Nat) (a_3 : Nat) (a_4 : Nat) (a_5 : Nat) (a_6 : Nat) (a_7 : Nat) (a_8 : Nat) (a_9 : Nat) (a_10 : Nat) (a_11 : Nat) (a_12 : Nat) (a_13 : Nat) (a_14 : Nat) (a_15 : Nat) (i_0 : Int32) (i_1 : Int32) (i_2 : Int32) (a_16 : Nat) (i_3 : Int32) (i_4 : Int32) (i_5 : Int32) (a_17 : Nat) (i_6 : Int32) (i_7 : Int32) (i_8 : Int32) (a_18 : Nat) (i_9 : Int32) (i_10 : Int32) (i_11 : Int32) (a_19 : Nat) (h0 : mm_rg i_0 0 1) (h1 : mm_rg i_3 0 1) (h2 : mm_rg i_6 0 1) (h3 : mm_rg i_9 0 1)  : mm_CI l yX11_rowsPresent (mm_ws yX11_rowsPresent cX11_rowsPresent 3 (some .int)) ({ frames := 0, cells := 0, slots := 0, locals := 0 } : Room) G cy sz [(a_0, .inr (11, [.ref a_1, .ref a_2, .ref a_3, .ref a_4, .ref a_5, .ref a_6, .ref a_7, .ref a_8, .ref a_9, .ref a_10, .ref a_11])), (a_6, .inl (cy 6, 4, .inr (.inr (.inr (.inr (va_up (va_up (va_up (va_up (fun _ => none) 0 (some a_12)) 1 (some a_13)) 2 (some a_14)) 3 (some a_15))))))), (a_12, .inr (6, [.int i_0, .int i_1, .int i_2, .ref a_16])), (a_13, .inr (6, [.int i_3, .int i_4, .int i_5, .ref a_17])), (a_14, .inr (6, [.int i_6, .int i_7, .int i_8, .ref a_18])), (a_15, .inr (6, [.int i_9, .int i_10, .int i_11, .ref a_19]))] [.ref a_0] (fun u : Unit => [(a_0, .inr (11, [.ref a_1, .ref a_2, .ref a_3, .ref a_4, .ref a_5, .ref a_6, .ref a_7, .ref a_8, .ref a_9, .ref a_10, .ref a_11])), (a_6, .inl (cy 6, 4, .inr (.inr (.inr (.inr (va_up (va_up (va_up (va_up (fun _ => none) 0 (some a_12)) 1 (some a_13)) 2 (some a_14)) 3 (some a_15))))))), (a_12, .inr (6, [.int i_0, .int i_1, .int i_2, .ref a_16])), (a_13, .inr (6, [.int i_3, .int i_4, .int i_5, .ref a_17])), (a_14, .inr (6, [.int i_6, .int i_7, .int i_8, .ref a_18])), (a_15, .inr (6, [.int i_9, .int i_10, .int i_11, .ref a_19]))]) (fun (r : Int32) (u : Unit) => mm_rg r 0 4) 0 0 := by
  refine mm_begin (lv := [(0, .ref a_0)]) (by decide) (Nat.le_of_ble_eq_true rfl) rfl ?_
  intro p e s m below meth c A ls R args Q H locs hRe hQ hAe hx hb hr hlocks hml hown hnm hts hsz hA hS hP hK hD hZ hl
  have hRf : R.frames = 0 := by rw [hRe]
  have hRl : R.locals = 0 := by rw [hRe]
  have hRc : R.cells = 0 := by rw [hRe]
  have hRs : R.slots = 0 := by rw [hRe]
  refine lv_iconst (v := 0) hx hb dX11_rowsPresent_0 (by decide) ?_
  refine lv_istore_n (lv' := [(1, .int 0), (0, .ref a_0)]) hx hb dX11_rowsPresent_1 rfl hl (by decide) rfl ?_
  clear hl
  clear ls
  intro ls hl
  refine lv_iconst (v := 0) hx hb dX11_rowsPresent_2 (by decide) ?_
  refine lv_istore_n (lv' := [(2, .int 0), (1, .int 0), (0, .ref a_0)]) hx hb dX11_rowsPresent_3 rfl hl (by decide) rfl ?_
  clear hl
  clear ls
  intro ls hl
  refine lv_iload_n hx hb dX11_rowsPresent_4 rfl (lv_at hl 0 rfl) ?_
  refine lv_iconst (v := 4) hx hb dX11_rowsPresent_5 (by decide) ?_
  refine lv_icmp_ge (tgt := 30) hx hb dX11_rowsPresent_6 (by decide) (fun c1 => ?_) (fun c1 => ?_)
  · have q2 := mm_leL (mm_le c1) mm_k4 mm_k0
    exact mm_no q2 (by decide)
  · refine lv_aload_n hx hb dX11_rowsPresent_9 rfl (lv_at hl 2 rfl) ?_
    refine va_get (D := G) (ci := 11) (v := .ref a_6) (C := RX11) (T := TX11) (N := 11) hx hb hts (mm_i inlX11) hown hK.1 hP 0 rfl rfl 5 (by decide) (mm_h hts mm_w32) (fun _ h9 => h9) rfl dX11_rowsPresent_10 ?_
    refine lv_iload_n hx hb dX11_rowsPresent_13 rfl (lv_at hl 0 rfl) ?_
    refine va_aldq hx hb hK.1 hP 1 6 rfl rfl (mm_in mm_k0 (by decide)) dX11_rowsPresent_14 ?_
    refine W.eq (g2 := F0 m 15 ls [.ref a_12]) rfl ?_
    refine va_get (D := G) (ci := 6) (v := .int i_0) (C := RX6) (T := TX6) (N := 4) hx hb hts (mm_i inlX6) hown hK.1 hP 2 rfl rfl 0 (by decide) (mm_h hts mm_w1239) (fun _ h9 => h9) rfl dX11_rowsPresent_15 ?_
    refine lv_if_eq (tgt := 24) hx hb dX11_rowsPresent_18 (by decide) (fun c3 => ?_) (fun c3 => ?_)
    · have q4 := mm_eqI (lo := 0) (hi := 0) c3 h0 mm_k0 (by decide)
      refine lv_iinc (v := 1) (lv' := [(2, .int 1), (1, .int 0), (0, .ref a_0)]) hx hb dX11_rowsPresent_24 hl (k := 0) rfl (by decide) (by decide) rfl ?_
      clear hl
      clear ls
      intro ls hl
      refine lv_goto (tgt := 4) hx hb dX11_rowsPresent_27 (by decide) ?_
      refine lv_iload_n hx hb dX11_rowsPresent_4 rfl (lv_at hl 0 rfl) ?_
      refine lv_iconst (v := 4) hx hb dX11_rowsPresent_5 (by decide) ?_
      refine lv_icmp_ge (tgt := 30) hx hb dX11_rowsPresent_6 (by decide) (fun c5 => ?_) (fun c5 => ?_)
      · have q6 := mm_leL (mm_le c5) mm_k4 mm_k1
        exact mm_no q6 (by decide)
      · refine lv_aload_n hx hb dX11_rowsPresent_9 rfl (lv_at hl 2 rfl) ?_
        refine va_get (D := G) (ci := 11) (v := .ref a_6) (C := RX11) (T := TX11) (N := 11) hx hb hts (mm_i inlX11) hown hK.1 hP 0 rfl rfl 5 (by decide) (mm_h hts mm_w32) (fun _ h9 => h9) rfl dX11_rowsPresent_10 ?_
        refine lv_iload_n hx hb dX11_rowsPresent_13 rfl (lv_at hl 0 rfl) ?_
        refine va_aldq hx hb hK.1 hP 1 6 rfl rfl (mm_in mm_k1 (by decide)) dX11_rowsPresent_14 ?_
        refine W.eq (g2 := F0 m 15 ls [.ref a_13]) rfl ?_
        refine va_get (D := G) (ci := 6) (v := .int i_3) (C := RX6) (T := TX6) (N := 4) hx hb hts (mm_i inlX6) hown hK.1 hP 3 rfl rfl 0 (by decide) (mm_h hts mm_w1239) (fun _ h9 => h9) rfl dX11_rowsPresent_15 ?_
        refine lv_if_eq (tgt := 24) hx hb dX11_rowsPresent_18 (by decide) (fun c7 => ?_) (fun c7 => ?_)
        · have q8 := mm_eqI (lo := 0) (hi := 0) c7 h1 mm_k0 (by decide)
          refine lv_iinc (v := 2) (lv' := [(2, .int 2), (1, .int 0), (0, .ref a_0)]) hx hb dX11_rowsPresent_24 hl (k := 0) rfl (by decide) (by decide) rfl ?_
          clear hl
          clear ls
          intro ls hl
          refine lv_goto (tgt := 4) hx hb dX11_rowsPresent_27 (by decide) ?_
          refine lv_iload_n hx hb dX11_rowsPresent_4 rfl (lv_at hl 0 rfl) ?_
          refine lv_iconst (v := 4) hx hb dX11_rowsPresent_5 (by decide) ?_
          refine lv_icmp_ge (tgt := 30) hx hb dX11_rowsPresent_6 (by decide) (fun c9 => ?_) (fun c9 => ?_)
          · have q10 := mm_leL (mm_le c9) mm_k4 mm_k2
            exact mm_no q10 (by decide)
          · refine lv_aload_n hx hb dX11_rowsPresent_9 rfl (lv_at hl 2 rfl) ?_
            refine va_get (D := G) (ci := 11) (v := .ref a_6) (C := RX11) (T := TX11) (N := 11) hx hb hts (mm_i inlX11) hown hK.1 hP 0 rfl rfl 5 (by decide) (mm_h hts mm_w32) (fun _ h9 => h9) rfl dX11_rowsPresent_10 ?_
            refine lv_iload_n hx hb dX11_rowsPresent_13 rfl (lv_at hl 0 rfl) ?_
            refine va_aldq hx hb hK.1 hP 1 6 rfl rfl (mm_in mm_k2 (by decide)) dX11_rowsPresent_14 ?_
            refine W.eq (g2 := F0 m 15 ls [.ref a_14]) rfl ?_
            refine va_get (D := G) (ci := 6) (v := .int i_6) (C := RX6) (T := TX6) (N := 4) hx hb hts (mm_i inlX6) hown hK.1 hP 4 rfl rfl 0 (by decide) (mm_h hts mm_w1239) (fun _ h9 => h9) rfl dX11_rowsPresent_15 ?_
            refine lv_if_eq (tgt := 24) hx hb dX11_rowsPresent_18 (by decide) (fun c11 => ?_) (fun c11 => ?_)
            · have q12 := mm_eqI (lo := 0) (hi := 0) c11 h2 mm_k0 (by decide)
              refine lv_iinc (v := 3) (lv' := [(2, .int 3), (1, .int 0), (0, .ref a_0)]) hx hb dX11_rowsPresent_24 hl (k := 0) rfl (by decide) (by decide) rfl ?_
              clear hl
              clear ls
              intro ls hl
              refine lv_goto (tgt := 4) hx hb dX11_rowsPresent_27 (by decide) ?_
              refine lv_iload_n hx hb dX11_rowsPresent_4 rfl (lv_at hl 0 rfl) ?_
              refine lv_iconst (v := 4) hx hb dX11_rowsPresent_5 (by decide) ?_
              refine lv_icmp_ge (tgt := 30) hx hb dX11_rowsPresent_6 (by decide) (fun c13 => ?_) (fun c13 => ?_)
              · have q14 := mm_leL (mm_le c13) mm_k4 mm_k3
                exact mm_no q14 (by decide)
              · refine lv_aload_n hx hb dX11_rowsPresent_9 rfl (lv_at hl 2 rfl) ?_
                refine va_get (D := G) (ci := 11) (v := .ref a_6) (C := RX11) (T := TX11) (N := 11) hx hb hts (mm_i inlX11) hown hK.1 hP 0 rfl rfl 5 (by decide) (mm_h hts mm_w32) (fun _ h9 => h9) rfl dX11_rowsPresent_10 ?_
                refine lv_iload_n hx hb dX11_rowsPresent_13 rfl (lv_at hl 0 rfl) ?_
                refine va_aldq hx hb hK.1 hP 1 6 rfl rfl (mm_in mm_k3 (by decide)) dX11_rowsPresent_14 ?_
                refine W.eq (g2 := F0 m 15 ls [.ref a_15]) rfl ?_
                refine va_get (D := G) (ci := 6) (v := .int i_9) (C := RX6) (T := TX6) (N := 4) hx hb hts (mm_i inlX6) hown hK.1 hP 5 rfl rfl 0 (by decide) (mm_h hts mm_w1239) (fun _ h9 => h9) rfl dX11_rowsPresent_15 ?_
                refine lv_if_eq (tgt := 24) hx hb dX11_rowsPresent_18 (by decide) (fun c15 => ?_) (fun c15 => ?_)
                · have q16 := mm_eqI (lo := 0) (hi := 0) c15 h3 mm_k0 (by decide)
                  refine lv_iinc (v := 4) (lv' := [(2, .int 4), (1, .int 0), (0, .ref a_0)]) hx hb dX11_rowsPresent_24 hl (k := 0) rfl (by decide) (by decide) rfl ?_
                  clear hl
                  clear ls
                  intro ls hl
                  refine lv_goto (tgt := 4) hx hb dX11_rowsPresent_27 (by decide) ?_
                  refine lv_iload_n hx hb dX11_rowsPresent_4 rfl (lv_at hl 0 rfl) ?_
                  refine lv_iconst (v := 4) hx hb dX11_rowsPresent_5 (by decide) ?_
                  refine lv_icmp_ge (tgt := 30) hx hb dX11_rowsPresent_6 (by decide) (fun c17 => ?_) (fun c17 => ?_)
                  · refine lv_iload_n hx hb dX11_rowsPresent_30 rfl (lv_at hl 1 rfl) ?_
                    subst hAe
                    rw [hQ]
                    exact W.iret (v := 0) hx hb hr (fun t ht hW => ⟨⟨0, (), rfl, (mm_wk mm_k0 (by decide)), by rw [ht]; exact hP, hK.warm hW, hD⟩, hS.F ht⟩) hS.2.2 dX11_rowsPresent_31
                  · have q18 := mm_ltL (h := 3) (mm_nle c17) mm_k4 mm_k4 (by decide)
                    exact mm_no q18 (by decide)
                · have q19 := mm_neL (lo := 1) (mm_ne c15) h3 mm_k0 (by decide) (by decide)
                  refine lv_iinc (v := 1) (lv' := [(1, .int 1), (2, .int 3), (0, .ref a_0)]) hx hb dX11_rowsPresent_21 hl (k := 1) rfl (by decide) (by decide) rfl ?_
                  clear hl
                  clear ls
                  intro ls hl
                  refine lv_iinc (v := 4) (lv' := [(2, .int 4), (1, .int 1), (0, .ref a_0)]) hx hb dX11_rowsPresent_24 hl (k := 1) rfl (by decide) (by decide) rfl ?_
                  clear hl
                  clear ls
                  intro ls hl
                  refine lv_goto (tgt := 4) hx hb dX11_rowsPresent_27 (by decide) ?_
                  refine lv_iload_n hx hb dX11_rowsPresent_4 rfl (lv_at hl 0 rfl) ?_
                  refine lv_iconst (v := 4) hx hb dX11_rowsPresent_5 (by decide) ?_
                  refine lv_icmp_ge (tgt := 30) hx hb dX11_rowsPresent_6 (by decide) (fun c20 => ?_) (fun c20 => ?_)
                  · refine lv_iload_n hx hb dX11_rowsPresent_30 rfl (lv_at hl 1 rfl) ?_
                    subst hAe
                    rw [hQ]
                    exact W.iret (v := 1) hx hb hr (fun t ht hW => ⟨⟨1, (), rfl, (mm_wk mm_k1 (by decide)), by rw [ht]; exact hP, hK.warm hW, hD⟩, hS.F ht⟩) hS.2.2 dX11_rowsPresent_31
                  · have q21 := mm_ltL (h := 3) (mm_nle c20) mm_k4 mm_k4 (by decide)
                    exact mm_no q21 (by decide)
            · have q22 := mm_neL (lo := 1) (mm_ne c11) h2 mm_k0 (by decide) (by decide)
              refine lv_iinc (v := 1) (lv' := [(1, .int 1), (2, .int 2), (0, .ref a_0)]) hx hb dX11_rowsPresent_21 hl (k := 1) rfl (by decide) (by decide) rfl ?_
              clear hl
              clear ls
              intro ls hl
              refine lv_iinc (v := 3) (lv' := [(2, .int 3), (1, .int 1), (0, .ref a_0)]) hx hb dX11_rowsPresent_24 hl (k := 1) rfl (by decide) (by decide) rfl ?_
              clear hl
              clear ls
              intro ls hl
              refine lv_goto (tgt := 4) hx hb dX11_rowsPresent_27 (by decide) ?_
              refine lv_iload_n hx hb dX11_rowsPresent_4 rfl (lv_at hl 0 rfl) ?_
              refine lv_iconst (v := 4) hx hb dX11_rowsPresent_5 (by decide) ?_
              refine lv_icmp_ge (tgt := 30) hx hb dX11_rowsPresent_6 (by decide) (fun c23 => ?_) (fun c23 => ?_)
              · have q24 := mm_leL (mm_le c23) mm_k4 mm_k3
                exact mm_no q24 (by decide)
              · refine lv_aload_n hx hb dX11_rowsPresent_9 rfl (lv_at hl 2 rfl) ?_
                refine va_get (D := G) (ci := 11) (v := .ref a_6) (C := RX11) (T := TX11) (N := 11) hx hb hts (mm_i inlX11) hown hK.1 hP 0 rfl rfl 5 (by decide) (mm_h hts mm_w32) (fun _ h9 => h9) rfl dX11_rowsPresent_10 ?_
                refine lv_iload_n hx hb dX11_rowsPresent_13 rfl (lv_at hl 0 rfl) ?_
                refine va_aldq hx hb hK.1 hP 1 6 rfl rfl (mm_in mm_k3 (by decide)) dX11_rowsPresent_14 ?_
                refine W.eq (g2 := F0 m 15 ls [.ref a_15]) rfl ?_
                refine va_get (D := G) (ci := 6) (v := .int i_9) (C := RX6) (T := TX6) (N := 4) hx hb hts (mm_i inlX6) hown hK.1 hP 5 rfl rfl 0 (by decide) (mm_h hts mm_w1239) (fun _ h9 => h9) rfl dX11_rowsPresent_15 ?_
                refine lv_if_eq (tgt := 24) hx hb dX11_rowsPresent_18 (by decide) (fun c25 => ?_) (fun c25 => ?_)
                · have q26 := mm_eqI (lo := 0) (hi := 0) c25 h3 mm_k0 (by decide)
                  refine lv_iinc (v := 4) (lv' := [(2, .int 4), (1, .int 1), (0, .ref a_0)]) hx hb dX11_rowsPresent_24 hl (k := 0) rfl (by decide) (by decide) rfl ?_
                  clear hl
                  clear ls
                  intro ls hl
                  refine lv_goto (tgt := 4) hx hb dX11_rowsPresent_27 (by decide) ?_
                  refine lv_iload_n hx hb dX11_rowsPresent_4 rfl (lv_at hl 0 rfl) ?_
                  refine lv_iconst (v := 4) hx hb dX11_rowsPresent_5 (by decide) ?_
                  refine lv_icmp_ge (tgt := 30) hx hb dX11_rowsPresent_6 (by decide) (fun c27 => ?_) (fun c27 => ?_)
                  · refine lv_iload_n hx hb dX11_rowsPresent_30 rfl (lv_at hl 1 rfl) ?_
                    subst hAe
                    rw [hQ]
                    exact W.iret (v := 1) hx hb hr (fun t ht hW => ⟨⟨1, (), rfl, (mm_wk mm_k1 (by decide)), by rw [ht]; exact hP, hK.warm hW, hD⟩, hS.F ht⟩) hS.2.2 dX11_rowsPresent_31
                  · have q28 := mm_ltL (h := 3) (mm_nle c27) mm_k4 mm_k4 (by decide)
                    exact mm_no q28 (by decide)
                · have q29 := mm_neL (lo := 1) (mm_ne c25) h3 mm_k0 (by decide) (by decide)
                  refine lv_iinc (v := 2) (lv' := [(1, .int 2), (2, .int 3), (0, .ref a_0)]) hx hb dX11_rowsPresent_21 hl (k := 1) rfl (by decide) (by decide) rfl ?_
                  clear hl
                  clear ls
                  intro ls hl
                  refine lv_iinc (v := 4) (lv' := [(2, .int 4), (1, .int 2), (0, .ref a_0)]) hx hb dX11_rowsPresent_24 hl (k := 1) rfl (by decide) (by decide) rfl ?_
                  clear hl
                  clear ls
                  intro ls hl
                  refine lv_goto (tgt := 4) hx hb dX11_rowsPresent_27 (by decide) ?_
                  refine lv_iload_n hx hb dX11_rowsPresent_4 rfl (lv_at hl 0 rfl) ?_
                  refine lv_iconst (v := 4) hx hb dX11_rowsPresent_5 (by decide) ?_
                  refine lv_icmp_ge (tgt := 30) hx hb dX11_rowsPresent_6 (by decide) (fun c30 => ?_) (fun c30 => ?_)
                  · refine lv_iload_n hx hb dX11_rowsPresent_30 rfl (lv_at hl 1 rfl) ?_
                    subst hAe
                    rw [hQ]
                    exact W.iret (v := 2) hx hb hr (fun t ht hW => ⟨⟨2, (), rfl, (mm_wk mm_k2 (by decide)), by rw [ht]; exact hP, hK.warm hW, hD⟩, hS.F ht⟩) hS.2.2 dX11_rowsPresent_31
                  · have q31 := mm_ltL (h := 3) (mm_nle c30) mm_k4 mm_k4 (by decide)
                    exact mm_no q31 (by decide)
        · have q32 := mm_neL (lo := 1) (mm_ne c7) h1 mm_k0 (by decide) (by decide)
          refine lv_iinc (v := 1) (lv' := [(1, .int 1), (2, .int 1), (0, .ref a_0)]) hx hb dX11_rowsPresent_21 hl (k := 1) rfl (by decide) (by decide) rfl ?_
          clear hl
          clear ls
          intro ls hl
          refine lv_iinc (v := 2) (lv' := [(2, .int 2), (1, .int 1), (0, .ref a_0)]) hx hb dX11_rowsPresent_24 hl (k := 1) rfl (by decide) (by decide) rfl ?_
          clear hl
          clear ls
          intro ls hl
          refine lv_goto (tgt := 4) hx hb dX11_rowsPresent_27 (by decide) ?_
          refine lv_iload_n hx hb dX11_rowsPresent_4 rfl (lv_at hl 0 rfl) ?_
          refine lv_iconst (v := 4) hx hb dX11_rowsPresent_5 (by decide) ?_
          refine lv_icmp_ge (tgt := 30) hx hb dX11_rowsPresent_6 (by decide) (fun c33 => ?_) (fun c33 => ?_)
          · have q34 := mm_leL (mm_le c33) mm_k4 mm_k2
            exact mm_no q34 (by decide)
          · refine lv_aload_n hx hb dX11_rowsPresent_9 rfl (lv_at hl 2 rfl) ?_
            refine va_get (D := G) (ci := 11) (v := .ref a_6) (C := RX11) (T := TX11) (N := 11) hx hb hts (mm_i inlX11) hown hK.1 hP 0 rfl rfl 5 (by decide) (mm_h hts mm_w32) (fun _ h9 => h9) rfl dX11_rowsPresent_10 ?_
            refine lv_iload_n hx hb dX11_rowsPresent_13 rfl (lv_at hl 0 rfl) ?_
            refine va_aldq hx hb hK.1 hP 1 6 rfl rfl (mm_in mm_k2 (by decide)) dX11_rowsPresent_14 ?_
            refine W.eq (g2 := F0 m 15 ls [.ref a_14]) rfl ?_
            refine va_get (D := G) (ci := 6) (v := .int i_6) (C := RX6) (T := TX6) (N := 4) hx hb hts (mm_i inlX6) hown hK.1 hP 4 rfl rfl 0 (by decide) (mm_h hts mm_w1239) (fun _ h9 => h9) rfl dX11_rowsPresent_15 ?_
            refine lv_if_eq (tgt := 24) hx hb dX11_rowsPresent_18 (by decide) (fun c35 => ?_) (fun c35 => ?_)
            · have q36 := mm_eqI (lo := 0) (hi := 0) c35 h2 mm_k0 (by decide)
              refine lv_iinc (v := 3) (lv' := [(2, .int 3), (1, .int 1), (0, .ref a_0)]) hx hb dX11_rowsPresent_24 hl (k := 0) rfl (by decide) (by decide) rfl ?_
              clear hl
              clear ls
              intro ls hl
              refine lv_goto (tgt := 4) hx hb dX11_rowsPresent_27 (by decide) ?_
              refine lv_iload_n hx hb dX11_rowsPresent_4 rfl (lv_at hl 0 rfl) ?_
              refine lv_iconst (v := 4) hx hb dX11_rowsPresent_5 (by decide) ?_
              refine lv_icmp_ge (tgt := 30) hx hb dX11_rowsPresent_6 (by decide) (fun c37 => ?_) (fun c37 => ?_)
              · have q38 := mm_leL (mm_le c37) mm_k4 mm_k3
                exact mm_no q38 (by decide)
              · refine lv_aload_n hx hb dX11_rowsPresent_9 rfl (lv_at hl 2 rfl) ?_
                refine va_get (D := G) (ci := 11) (v := .ref a_6) (C := RX11) (T := TX11) (N := 11) hx hb hts (mm_i inlX11) hown hK.1 hP 0 rfl rfl 5 (by decide) (mm_h hts mm_w32) (fun _ h9 => h9) rfl dX11_rowsPresent_10 ?_
                refine lv_iload_n hx hb dX11_rowsPresent_13 rfl (lv_at hl 0 rfl) ?_
                refine va_aldq hx hb hK.1 hP 1 6 rfl rfl (mm_in mm_k3 (by decide)) dX11_rowsPresent_14 ?_
                refine W.eq (g2 := F0 m 15 ls [.ref a_15]) rfl ?_
                refine va_get (D := G) (ci := 6) (v := .int i_9) (C := RX6) (T := TX6) (N := 4) hx hb hts (mm_i inlX6) hown hK.1 hP 5 rfl rfl 0 (by decide) (mm_h hts mm_w1239) (fun _ h9 => h9) rfl dX11_rowsPresent_15 ?_
                refine lv_if_eq (tgt := 24) hx hb dX11_rowsPresent_18 (by decide) (fun c39 => ?_) (fun c39 => ?_)
                · have q40 := mm_eqI (lo := 0) (hi := 0) c39 h3 mm_k0 (by decide)
                  refine lv_iinc (v := 4) (lv' := [(2, .int 4), (1, .int 1), (0, .ref a_0)]) hx hb dX11_rowsPresent_24 hl (k := 0) rfl (by decide) (by decide) rfl ?_
                  clear hl
                  clear ls
                  intro ls hl
                  refine lv_goto (tgt := 4) hx hb dX11_rowsPresent_27 (by decide) ?_
                  refine lv_iload_n hx hb dX11_rowsPresent_4 rfl (lv_at hl 0 rfl) ?_
                  refine lv_iconst (v := 4) hx hb dX11_rowsPresent_5 (by decide) ?_
                  refine lv_icmp_ge (tgt := 30) hx hb dX11_rowsPresent_6 (by decide) (fun c41 => ?_) (fun c41 => ?_)
                  · refine lv_iload_n hx hb dX11_rowsPresent_30 rfl (lv_at hl 1 rfl) ?_
                    subst hAe
                    rw [hQ]
                    exact W.iret (v := 1) hx hb hr (fun t ht hW => ⟨⟨1, (), rfl, (mm_wk mm_k1 (by decide)), by rw [ht]; exact hP, hK.warm hW, hD⟩, hS.F ht⟩) hS.2.2 dX11_rowsPresent_31
                  · have q42 := mm_ltL (h := 3) (mm_nle c41) mm_k4 mm_k4 (by decide)
                    exact mm_no q42 (by decide)
                · have q43 := mm_neL (lo := 1) (mm_ne c39) h3 mm_k0 (by decide) (by decide)
                  refine lv_iinc (v := 2) (lv' := [(1, .int 2), (2, .int 3), (0, .ref a_0)]) hx hb dX11_rowsPresent_21 hl (k := 1) rfl (by decide) (by decide) rfl ?_
                  clear hl
                  clear ls
                  intro ls hl
                  refine lv_iinc (v := 4) (lv' := [(2, .int 4), (1, .int 2), (0, .ref a_0)]) hx hb dX11_rowsPresent_24 hl (k := 1) rfl (by decide) (by decide) rfl ?_
                  clear hl
                  clear ls
                  intro ls hl
                  refine lv_goto (tgt := 4) hx hb dX11_rowsPresent_27 (by decide) ?_
                  refine lv_iload_n hx hb dX11_rowsPresent_4 rfl (lv_at hl 0 rfl) ?_
                  refine lv_iconst (v := 4) hx hb dX11_rowsPresent_5 (by decide) ?_
                  refine lv_icmp_ge (tgt := 30) hx hb dX11_rowsPresent_6 (by decide) (fun c44 => ?_) (fun c44 => ?_)
                  · refine lv_iload_n hx hb dX11_rowsPresent_30 rfl (lv_at hl 1 rfl) ?_
                    subst hAe
                    rw [hQ]
                    exact W.iret (v := 2) hx hb hr (fun t ht hW => ⟨⟨2, (), rfl, (mm_wk mm_k2 (by decide)), by rw [ht]; exact hP, hK.warm hW, hD⟩, hS.F ht⟩) hS.2.2 dX11_rowsPresent_31
                  · have q45 := mm_ltL (h := 3) (mm_nle c44) mm_k4 mm_k4 (by decide)
                    exact mm_no q45 (by decide)
            · have q46 := mm_neL (lo := 1) (mm_ne c35) h2 mm_k0 (by decide) (by decide)
              refine lv_iinc (v := 2) (lv' := [(1, .int 2), (2, .int 2), (0, .ref a_0)]) hx hb dX11_rowsPresent_21 hl (k := 1) rfl (by decide) (by decide) rfl ?_
              clear hl
              clear ls
              intro ls hl
              refine lv_iinc (v := 3) (lv' := [(2, .int 3), (1, .int 2), (0, .ref a_0)]) hx hb dX11_rowsPresent_24 hl (k := 1) rfl (by decide) (by decide) rfl ?_
              clear hl
              clear ls
              intro ls hl
              refine lv_goto (tgt := 4) hx hb dX11_rowsPresent_27 (by decide) ?_
              refine lv_iload_n hx hb dX11_rowsPresent_4 rfl (lv_at hl 0 rfl) ?_
              refine lv_iconst (v := 4) hx hb dX11_rowsPresent_5 (by decide) ?_
              refine lv_icmp_ge (tgt := 30) hx hb dX11_rowsPresent_6 (by decide) (fun c47 => ?_) (fun c47 => ?_)
              · have q48 := mm_leL (mm_le c47) mm_k4 mm_k3
                exact mm_no q48 (by decide)
              · refine lv_aload_n hx hb dX11_rowsPresent_9 rfl (lv_at hl 2 rfl) ?_
                refine va_get (D := G) (ci := 11) (v := .ref a_6) (C := RX11) (T := TX11) (N := 11) hx hb hts (mm_i inlX11) hown hK.1 hP 0 rfl rfl 5 (by decide) (mm_h hts mm_w32) (fun _ h9 => h9) rfl dX11_rowsPresent_10 ?_
                refine lv_iload_n hx hb dX11_rowsPresent_13 rfl (lv_at hl 0 rfl) ?_
                refine va_aldq hx hb hK.1 hP 1 6 rfl rfl (mm_in mm_k3 (by decide)) dX11_rowsPresent_14 ?_
                refine W.eq (g2 := F0 m 15 ls [.ref a_15]) rfl ?_
                refine va_get (D := G) (ci := 6) (v := .int i_9) (C := RX6) (T := TX6) (N := 4) hx hb hts (mm_i inlX6) hown hK.1 hP 5 rfl rfl 0 (by decide) (mm_h hts mm_w1239) (fun _ h9 => h9) rfl dX11_rowsPresent_15 ?_
                refine lv_if_eq (tgt := 24) hx hb dX11_rowsPresent_18 (by decide) (fun c49 => ?_) (fun c49 => ?_)
                · have q50 := mm_eqI (lo := 0) (hi := 0) c49 h3 mm_k0 (by decide)
                  refine lv_iinc (v := 4) (lv' := [(2, .int 4), (1, .int 2), (0, .ref a_0)]) hx hb dX11_rowsPresent_24 hl (k := 0) rfl (by decide) (by decide) rfl ?_
                  clear hl
                  clear ls
                  intro ls hl
                  refine lv_goto (tgt := 4) hx hb dX11_rowsPresent_27 (by decide) ?_
                  refine lv_iload_n hx hb dX11_rowsPresent_4 rfl (lv_at hl 0 rfl) ?_
                  refine lv_iconst (v := 4) hx hb dX11_rowsPresent_5 (by decide) ?_
                  refine lv_icmp_ge (tgt := 30) hx hb dX11_rowsPresent_6 (by decide) (fun c51 => ?_) (fun c51 => ?_)
                  · refine lv_iload_n hx hb dX11_rowsPresent_30 rfl (lv_at hl 1 rfl) ?_
                    subst hAe
                    rw [hQ]
                    exact W.iret (v := 2) hx hb hr (fun t ht hW => ⟨⟨2, (), rfl, (mm_wk mm_k2 (by decide)), by rw [ht]; exact hP, hK.warm hW, hD⟩, hS.F ht⟩) hS.2.2 dX11_rowsPresent_31
                  · have q52 := mm_ltL (h := 3) (mm_nle c51) mm_k4 mm_k4 (by decide)
                    exact mm_no q52 (by decide)
                · have q53 := mm_neL (lo := 1) (mm_ne c49) h3 mm_k0 (by decide) (by decide)
                  refine lv_iinc (v := 3) (lv' := [(1, .int 3), (2, .int 3), (0, .ref a_0)]) hx hb dX11_rowsPresent_21 hl (k := 1) rfl (by decide) (by decide) rfl ?_
                  clear hl
                  clear ls
                  intro ls hl
                  refine lv_iinc (v := 4) (lv' := [(2, .int 4), (1, .int 3), (0, .ref a_0)]) hx hb dX11_rowsPresent_24 hl (k := 1) rfl (by decide) (by decide) rfl ?_
                  clear hl
                  clear ls
                  intro ls hl
                  refine lv_goto (tgt := 4) hx hb dX11_rowsPresent_27 (by decide) ?_
                  refine lv_iload_n hx hb dX11_rowsPresent_4 rfl (lv_at hl 0 rfl) ?_
                  refine lv_iconst (v := 4) hx hb dX11_rowsPresent_5 (by decide) ?_
                  refine lv_icmp_ge (tgt := 30) hx hb dX11_rowsPresent_6 (by decide) (fun c54 => ?_) (fun c54 => ?_)
                  · refine lv_iload_n hx hb dX11_rowsPresent_30 rfl (lv_at hl 1 rfl) ?_
                    subst hAe
                    rw [hQ]
                    exact W.iret (v := 3) hx hb hr (fun t ht hW => ⟨⟨3, (), rfl, (mm_wk mm_k3 (by decide)), by rw [ht]; exact hP, hK.warm hW, hD⟩, hS.F ht⟩) hS.2.2 dX11_rowsPresent_31
                  · have q55 := mm_ltL (h := 3) (mm_nle c54) mm_k4 mm_k4 (by decide)
                    exact mm_no q55 (by decide)
    · have q56 := mm_neL (lo := 1) (mm_ne c3) h0 mm_k0 (by decide) (by decide)
      refine lv_iinc (v := 1) (lv' := [(1, .int 1), (2, .int 0), (0, .ref a_0)]) hx hb dX11_rowsPresent_21 hl (k := 1) rfl (by decide) (by decide) rfl ?_
      clear hl
      clear ls
      intro ls hl
      refine lv_iinc (v := 1) (lv' := [(2, .int 1), (1, .int 1), (0, .ref a_0)]) hx hb dX11_rowsPresent_24 hl (k := 1) rfl (by decide) (by decide) rfl ?_
      clear hl
      clear ls
      intro ls hl
      refine lv_goto (tgt := 4) hx hb dX11_rowsPresent_27 (by decide) ?_
      refine lv_iload_n hx hb dX11_rowsPresent_4 rfl (lv_at hl 0 rfl) ?_
      refine lv_iconst (v := 4) hx hb dX11_rowsPresent_5 (by decide) ?_
      refine lv_icmp_ge (tgt := 30) hx hb dX11_rowsPresent_6 (by decide) (fun c57 => ?_) (fun c57 => ?_)
      · have q58 := mm_leL (mm_le c57) mm_k4 mm_k1
        exact mm_no q58 (by decide)
      · refine lv_aload_n hx hb dX11_rowsPresent_9 rfl (lv_at hl 2 rfl) ?_
        refine va_get (D := G) (ci := 11) (v := .ref a_6) (C := RX11) (T := TX11) (N := 11) hx hb hts (mm_i inlX11) hown hK.1 hP 0 rfl rfl 5 (by decide) (mm_h hts mm_w32) (fun _ h9 => h9) rfl dX11_rowsPresent_10 ?_
        refine lv_iload_n hx hb dX11_rowsPresent_13 rfl (lv_at hl 0 rfl) ?_
        refine va_aldq hx hb hK.1 hP 1 6 rfl rfl (mm_in mm_k1 (by decide)) dX11_rowsPresent_14 ?_
        refine W.eq (g2 := F0 m 15 ls [.ref a_13]) rfl ?_
        refine va_get (D := G) (ci := 6) (v := .int i_3) (C := RX6) (T := TX6) (N := 4) hx hb hts (mm_i inlX6) hown hK.1 hP 3 rfl rfl 0 (by decide) (mm_h hts mm_w1239) (fun _ h9 => h9) rfl dX11_rowsPresent_15 ?_
        refine lv_if_eq (tgt := 24) hx hb dX11_rowsPresent_18 (by decide) (fun c59 => ?_) (fun c59 => ?_)
        · have q60 := mm_eqI (lo := 0) (hi := 0) c59 h1 mm_k0 (by decide)
          refine lv_iinc (v := 2) (lv' := [(2, .int 2), (1, .int 1), (0, .ref a_0)]) hx hb dX11_rowsPresent_24 hl (k := 0) rfl (by decide) (by decide) rfl ?_
          clear hl
          clear ls
          intro ls hl
          refine lv_goto (tgt := 4) hx hb dX11_rowsPresent_27 (by decide) ?_
          refine lv_iload_n hx hb dX11_rowsPresent_4 rfl (lv_at hl 0 rfl) ?_
          refine lv_iconst (v := 4) hx hb dX11_rowsPresent_5 (by decide) ?_
          refine lv_icmp_ge (tgt := 30) hx hb dX11_rowsPresent_6 (by decide) (fun c61 => ?_) (fun c61 => ?_)
          · have q62 := mm_leL (mm_le c61) mm_k4 mm_k2
            exact mm_no q62 (by decide)
          · refine lv_aload_n hx hb dX11_rowsPresent_9 rfl (lv_at hl 2 rfl) ?_
            refine va_get (D := G) (ci := 11) (v := .ref a_6) (C := RX11) (T := TX11) (N := 11) hx hb hts (mm_i inlX11) hown hK.1 hP 0 rfl rfl 5 (by decide) (mm_h hts mm_w32) (fun _ h9 => h9) rfl dX11_rowsPresent_10 ?_
            refine lv_iload_n hx hb dX11_rowsPresent_13 rfl (lv_at hl 0 rfl) ?_
            refine va_aldq hx hb hK.1 hP 1 6 rfl rfl (mm_in mm_k2 (by decide)) dX11_rowsPresent_14 ?_
            refine W.eq (g2 := F0 m 15 ls [.ref a_14]) rfl ?_
            refine va_get (D := G) (ci := 6) (v := .int i_6) (C := RX6) (T := TX6) (N := 4) hx hb hts (mm_i inlX6) hown hK.1 hP 4 rfl rfl 0 (by decide) (mm_h hts mm_w1239) (fun _ h9 => h9) rfl dX11_rowsPresent_15 ?_
            refine lv_if_eq (tgt := 24) hx hb dX11_rowsPresent_18 (by decide) (fun c63 => ?_) (fun c63 => ?_)
            · have q64 := mm_eqI (lo := 0) (hi := 0) c63 h2 mm_k0 (by decide)
              refine lv_iinc (v := 3) (lv' := [(2, .int 3), (1, .int 1), (0, .ref a_0)]) hx hb dX11_rowsPresent_24 hl (k := 0) rfl (by decide) (by decide) rfl ?_
              clear hl
              clear ls
              intro ls hl
              refine lv_goto (tgt := 4) hx hb dX11_rowsPresent_27 (by decide) ?_
              refine lv_iload_n hx hb dX11_rowsPresent_4 rfl (lv_at hl 0 rfl) ?_
              refine lv_iconst (v := 4) hx hb dX11_rowsPresent_5 (by decide) ?_
              refine lv_icmp_ge (tgt := 30) hx hb dX11_rowsPresent_6 (by decide) (fun c65 => ?_) (fun c65 => ?_)
              · have q66 := mm_leL (mm_le c65) mm_k4 mm_k3
                exact mm_no q66 (by decide)
              · refine lv_aload_n hx hb dX11_rowsPresent_9 rfl (lv_at hl 2 rfl) ?_
                refine va_get (D := G) (ci := 11) (v := .ref a_6) (C := RX11) (T := TX11) (N := 11) hx hb hts (mm_i inlX11) hown hK.1 hP 0 rfl rfl 5 (by decide) (mm_h hts mm_w32) (fun _ h9 => h9) rfl dX11_rowsPresent_10 ?_
                refine lv_iload_n hx hb dX11_rowsPresent_13 rfl (lv_at hl 0 rfl) ?_
                refine va_aldq hx hb hK.1 hP 1 6 rfl rfl (mm_in mm_k3 (by decide)) dX11_rowsPresent_14 ?_
                refine W.eq (g2 := F0 m 15 ls [.ref a_15]) rfl ?_
                refine va_get (D := G) (ci := 6) (v := .int i_9) (C := RX6) (T := TX6) (N := 4) hx hb hts (mm_i inlX6) hown hK.1 hP 5 rfl rfl 0 (by decide) (mm_h hts mm_w1239) (fun _ h9 => h9) rfl dX11_rowsPresent_15 ?_
                refine lv_if_eq (tgt := 24) hx hb dX11_rowsPresent_18 (by decide) (fun c67 => ?_) (fun c67 => ?_)
                · have q68 := mm_eqI (lo := 0) (hi := 0) c67 h3 mm_k0 (by decide)
                  refine lv_iinc (v := 4) (lv' := [(2, .int 4), (1, .int 1), (0, .ref a_0)]) hx hb dX11_rowsPresent_24 hl (k := 0) rfl (by decide) (by decide) rfl ?_
                  clear hl
                  clear ls
                  intro ls hl
                  refine lv_goto (tgt := 4) hx hb dX11_rowsPresent_27 (by decide) ?_
                  refine lv_iload_n hx hb dX11_rowsPresent_4 rfl (lv_at hl 0 rfl) ?_
                  refine lv_iconst (v := 4) hx hb dX11_rowsPresent_5 (by decide) ?_
                  refine lv_icmp_ge (tgt := 30) hx hb dX11_rowsPresent_6 (by decide) (fun c69 => ?_) (fun c69 => ?_)
                  · refine lv_iload_n hx hb dX11_rowsPresent_30 rfl (lv_at hl 1 rfl) ?_
                    subst hAe
                    rw [hQ]
                    exact W.iret (v := 1) hx hb hr (fun t ht hW => ⟨⟨1, (), rfl, (mm_wk mm_k1 (by decide)), by rw [ht]; exact hP, hK.warm hW, hD⟩, hS.F ht⟩) hS.2.2 dX11_rowsPresent_31
                  · have q70 := mm_ltL (h := 3) (mm_nle c69) mm_k4 mm_k4 (by decide)
                    exact mm_no q70 (by decide)
                · have q71 := mm_neL (lo := 1) (mm_ne c67) h3 mm_k0 (by decide) (by decide)
                  refine lv_iinc (v := 2) (lv' := [(1, .int 2), (2, .int 3), (0, .ref a_0)]) hx hb dX11_rowsPresent_21 hl (k := 1) rfl (by decide) (by decide) rfl ?_
                  clear hl
                  clear ls
                  intro ls hl
                  refine lv_iinc (v := 4) (lv' := [(2, .int 4), (1, .int 2), (0, .ref a_0)]) hx hb dX11_rowsPresent_24 hl (k := 1) rfl (by decide) (by decide) rfl ?_
                  clear hl
                  clear ls
                  intro ls hl
                  refine lv_goto (tgt := 4) hx hb dX11_rowsPresent_27 (by decide) ?_
                  refine lv_iload_n hx hb dX11_rowsPresent_4 rfl (lv_at hl 0 rfl) ?_
                  refine lv_iconst (v := 4) hx hb dX11_rowsPresent_5 (by decide) ?_
                  refine lv_icmp_ge (tgt := 30) hx hb dX11_rowsPresent_6 (by decide) (fun c72 => ?_) (fun c72 => ?_)
                  · refine lv_iload_n hx hb dX11_rowsPresent_30 rfl (lv_at hl 1 rfl) ?_
                    subst hAe
                    rw [hQ]
                    exact W.iret (v := 2) hx hb hr (fun t ht hW => ⟨⟨2, (), rfl, (mm_wk mm_k2 (by decide)), by rw [ht]; exact hP, hK.warm hW, hD⟩, hS.F ht⟩) hS.2.2 dX11_rowsPresent_31
                  · have q73 := mm_ltL (h := 3) (mm_nle c72) mm_k4 mm_k4 (by decide)
                    exact mm_no q73 (by decide)
            · have q74 := mm_neL (lo := 1) (mm_ne c63) h2 mm_k0 (by decide) (by decide)
              refine lv_iinc (v := 2) (lv' := [(1, .int 2), (2, .int 2), (0, .ref a_0)]) hx hb dX11_rowsPresent_21 hl (k := 1) rfl (by decide) (by decide) rfl ?_
              clear hl
              clear ls
              intro ls hl
              refine lv_iinc (v := 3) (lv' := [(2, .int 3), (1, .int 2), (0, .ref a_0)]) hx hb dX11_rowsPresent_24 hl (k := 1) rfl (by decide) (by decide) rfl ?_
              clear hl
              clear ls
              intro ls hl
              refine lv_goto (tgt := 4) hx hb dX11_rowsPresent_27 (by decide) ?_
              refine lv_iload_n hx hb dX11_rowsPresent_4 rfl (lv_at hl 0 rfl) ?_
              refine lv_iconst (v := 4) hx hb dX11_rowsPresent_5 (by decide) ?_
              refine lv_icmp_ge (tgt := 30) hx hb dX11_rowsPresent_6 (by decide) (fun c75 => ?_) (fun c75 => ?_)
              · have q76 := mm_leL (mm_le c75) mm_k4 mm_k3
                exact mm_no q76 (by decide)
              · refine lv_aload_n hx hb dX11_rowsPresent_9 rfl (lv_at hl 2 rfl) ?_
                refine va_get (D := G) (ci := 11) (v := .ref a_6) (C := RX11) (T := TX11) (N := 11) hx hb hts (mm_i inlX11) hown hK.1 hP 0 rfl rfl 5 (by decide) (mm_h hts mm_w32) (fun _ h9 => h9) rfl dX11_rowsPresent_10 ?_
                refine lv_iload_n hx hb dX11_rowsPresent_13 rfl (lv_at hl 0 rfl) ?_
                refine va_aldq hx hb hK.1 hP 1 6 rfl rfl (mm_in mm_k3 (by decide)) dX11_rowsPresent_14 ?_
                refine W.eq (g2 := F0 m 15 ls [.ref a_15]) rfl ?_
                refine va_get (D := G) (ci := 6) (v := .int i_9) (C := RX6) (T := TX6) (N := 4) hx hb hts (mm_i inlX6) hown hK.1 hP 5 rfl rfl 0 (by decide) (mm_h hts mm_w1239) (fun _ h9 => h9) rfl dX11_rowsPresent_15 ?_
                refine lv_if_eq (tgt := 24) hx hb dX11_rowsPresent_18 (by decide) (fun c77 => ?_) (fun c77 => ?_)
                · have q78 := mm_eqI (lo := 0) (hi := 0) c77 h3 mm_k0 (by decide)
                  refine lv_iinc (v := 4) (lv' := [(2, .int 4), (1, .int 2), (0, .ref a_0)]) hx hb dX11_rowsPresent_24 hl (k := 0) rfl (by decide) (by decide) rfl ?_
                  clear hl
                  clear ls
                  intro ls hl
                  refine lv_goto (tgt := 4) hx hb dX11_rowsPresent_27 (by decide) ?_
                  refine lv_iload_n hx hb dX11_rowsPresent_4 rfl (lv_at hl 0 rfl) ?_
                  refine lv_iconst (v := 4) hx hb dX11_rowsPresent_5 (by decide) ?_
                  refine lv_icmp_ge (tgt := 30) hx hb dX11_rowsPresent_6 (by decide) (fun c79 => ?_) (fun c79 => ?_)
                  · refine lv_iload_n hx hb dX11_rowsPresent_30 rfl (lv_at hl 1 rfl) ?_
                    subst hAe
                    rw [hQ]
                    exact W.iret (v := 2) hx hb hr (fun t ht hW => ⟨⟨2, (), rfl, (mm_wk mm_k2 (by decide)), by rw [ht]; exact hP, hK.warm hW, hD⟩, hS.F ht⟩) hS.2.2 dX11_rowsPresent_31
                  · have q80 := mm_ltL (h := 3) (mm_nle c79) mm_k4 mm_k4 (by decide)
                    exact mm_no q80 (by decide)
                · have q81 := mm_neL (lo := 1) (mm_ne c77) h3 mm_k0 (by decide) (by decide)
                  refine lv_iinc (v := 3) (lv' := [(1, .int 3), (2, .int 3), (0, .ref a_0)]) hx hb dX11_rowsPresent_21 hl (k := 1) rfl (by decide) (by decide) rfl ?_
                  clear hl
                  clear ls
                  intro ls hl
                  refine lv_iinc (v := 4) (lv' := [(2, .int 4), (1, .int 3), (0, .ref a_0)]) hx hb dX11_rowsPresent_24 hl (k := 1) rfl (by decide) (by decide) rfl ?_
                  clear hl
                  clear ls
                  intro ls hl
                  refine lv_goto (tgt := 4) hx hb dX11_rowsPresent_27 (by decide) ?_
                  refine lv_iload_n hx hb dX11_rowsPresent_4 rfl (lv_at hl 0 rfl) ?_
                  refine lv_iconst (v := 4) hx hb dX11_rowsPresent_5 (by decide) ?_
                  refine lv_icmp_ge (tgt := 30) hx hb dX11_rowsPresent_6 (by decide) (fun c82 => ?_) (fun c82 => ?_)
                  · refine lv_iload_n hx hb dX11_rowsPresent_30 rfl (lv_at hl 1 rfl) ?_
                    subst hAe
                    rw [hQ]
                    exact W.iret (v := 3) hx hb hr (fun t ht hW => ⟨⟨3, (), rfl, (mm_wk mm_k3 (by decide)), by rw [ht]; exact hP, hK.warm hW, hD⟩, hS.F ht⟩) hS.2.2 dX11_rowsPresent_31
                  · have q83 := mm_ltL (h := 3) (mm_nle c82) mm_k4 mm_k4 (by decide)
                    exact mm_no q83 (by decide)
        · have q84 := mm_neL (lo := 1) (mm_ne c59) h1 mm_k0 (by decide) (by decide)
          refine lv_iinc (v := 2) (lv' := [(1, .int 2), (2, .int 1), (0, .ref a_0)]) hx hb dX11_rowsPresent_21 hl (k := 1) rfl (by decide) (by decide) rfl ?_
          clear hl
          clear ls
          intro ls hl
          refine lv_iinc (v := 2) (lv' := [(2, .int 2), (1, .int 2), (0, .ref a_0)]) hx hb dX11_rowsPresent_24 hl (k := 1) rfl (by decide) (by decide) rfl ?_
          clear hl
          clear ls
          intro ls hl
          refine lv_goto (tgt := 4) hx hb dX11_rowsPresent_27 (by decide) ?_
          refine lv_iload_n hx hb dX11_rowsPresent_4 rfl (lv_at hl 0 rfl) ?_
          refine lv_iconst (v := 4) hx hb dX11_rowsPresent_5 (by decide) ?_
          refine lv_icmp_ge (tgt := 30) hx hb dX11_rowsPresent_6 (by decide) (fun c85 => ?_) (fun c85 => ?_)
          · have q86 := mm_leL (mm_le c85) mm_k4 mm_k2
            exact mm_no q86 (by decide)
          · refine lv_aload_n hx hb dX11_rowsPresent_9 rfl (lv_at hl 2 rfl) ?_
            refine va_get (D := G) (ci := 11) (v := .ref a_6) (C := RX11) (T := TX11) (N := 11) hx hb hts (mm_i inlX11) hown hK.1 hP 0 rfl rfl 5 (by decide) (mm_h hts mm_w32) (fun _ h9 => h9) rfl dX11_rowsPresent_10 ?_
            refine lv_iload_n hx hb dX11_rowsPresent_13 rfl (lv_at hl 0 rfl) ?_
            refine va_aldq hx hb hK.1 hP 1 6 rfl rfl (mm_in mm_k2 (by decide)) dX11_rowsPresent_14 ?_
            refine W.eq (g2 := F0 m 15 ls [.ref a_14]) rfl ?_
            refine va_get (D := G) (ci := 6) (v := .int i_6) (C := RX6) (T := TX6) (N := 4) hx hb hts (mm_i inlX6) hown hK.1 hP 4 rfl rfl 0 (by decide) (mm_h hts mm_w1239) (fun _ h9 => h9) rfl dX11_rowsPresent_15 ?_
            refine lv_if_eq (tgt := 24) hx hb dX11_rowsPresent_18 (by decide) (fun c87 => ?_) (fun c87 => ?_)
            · have q88 := mm_eqI (lo := 0) (hi := 0) c87 h2 mm_k0 (by decide)
              refine lv_iinc (v := 3) (lv' := [(2, .int 3), (1, .int 2), (0, .ref a_0)]) hx hb dX11_rowsPresent_24 hl (k := 0) rfl (by decide) (by decide) rfl ?_
              clear hl
              clear ls
              intro ls hl
              refine lv_goto (tgt := 4) hx hb dX11_rowsPresent_27 (by decide) ?_
              refine lv_iload_n hx hb dX11_rowsPresent_4 rfl (lv_at hl 0 rfl) ?_
              refine lv_iconst (v := 4) hx hb dX11_rowsPresent_5 (by decide) ?_
              refine lv_icmp_ge (tgt := 30) hx hb dX11_rowsPresent_6 (by decide) (fun c89 => ?_) (fun c89 => ?_)
              · have q90 := mm_leL (mm_le c89) mm_k4 mm_k3
                exact mm_no q90 (by decide)
              · refine lv_aload_n hx hb dX11_rowsPresent_9 rfl (lv_at hl 2 rfl) ?_
                refine va_get (D := G) (ci := 11) (v := .ref a_6) (C := RX11) (T := TX11) (N := 11) hx hb hts (mm_i inlX11) hown hK.1 hP 0 rfl rfl 5 (by decide) (mm_h hts mm_w32) (fun _ h9 => h9) rfl dX11_rowsPresent_10 ?_
                refine lv_iload_n hx hb dX11_rowsPresent_13 rfl (lv_at hl 0 rfl) ?_
                refine va_aldq hx hb hK.1 hP 1 6 rfl rfl (mm_in mm_k3 (by decide)) dX11_rowsPresent_14 ?_
                refine W.eq (g2 := F0 m 15 ls [.ref a_15]) rfl ?_
                refine va_get (D := G) (ci := 6) (v := .int i_9) (C := RX6) (T := TX6) (N := 4) hx hb hts (mm_i inlX6) hown hK.1 hP 5 rfl rfl 0 (by decide) (mm_h hts mm_w1239) (fun _ h9 => h9) rfl dX11_rowsPresent_15 ?_
                refine lv_if_eq (tgt := 24) hx hb dX11_rowsPresent_18 (by decide) (fun c91 => ?_) (fun c91 => ?_)
                · have q92 := mm_eqI (lo := 0) (hi := 0) c91 h3 mm_k0 (by decide)
                  refine lv_iinc (v := 4) (lv' := [(2, .int 4), (1, .int 2), (0, .ref a_0)]) hx hb dX11_rowsPresent_24 hl (k := 0) rfl (by decide) (by decide) rfl ?_
                  clear hl
                  clear ls
                  intro ls hl
                  refine lv_goto (tgt := 4) hx hb dX11_rowsPresent_27 (by decide) ?_
                  refine lv_iload_n hx hb dX11_rowsPresent_4 rfl (lv_at hl 0 rfl) ?_
                  refine lv_iconst (v := 4) hx hb dX11_rowsPresent_5 (by decide) ?_
                  refine lv_icmp_ge (tgt := 30) hx hb dX11_rowsPresent_6 (by decide) (fun c93 => ?_) (fun c93 => ?_)
                  · refine lv_iload_n hx hb dX11_rowsPresent_30 rfl (lv_at hl 1 rfl) ?_
                    subst hAe
                    rw [hQ]
                    exact W.iret (v := 2) hx hb hr (fun t ht hW => ⟨⟨2, (), rfl, (mm_wk mm_k2 (by decide)), by rw [ht]; exact hP, hK.warm hW, hD⟩, hS.F ht⟩) hS.2.2 dX11_rowsPresent_31
                  · have q94 := mm_ltL (h := 3) (mm_nle c93) mm_k4 mm_k4 (by decide)
                    exact mm_no q94 (by decide)
                · have q95 := mm_neL (lo := 1) (mm_ne c91) h3 mm_k0 (by decide) (by decide)
                  refine lv_iinc (v := 3) (lv' := [(1, .int 3), (2, .int 3), (0, .ref a_0)]) hx hb dX11_rowsPresent_21 hl (k := 1) rfl (by decide) (by decide) rfl ?_
                  clear hl
                  clear ls
                  intro ls hl
                  refine lv_iinc (v := 4) (lv' := [(2, .int 4), (1, .int 3), (0, .ref a_0)]) hx hb dX11_rowsPresent_24 hl (k := 1) rfl (by decide) (by decide) rfl ?_
                  clear hl
                  clear ls
                  intro ls hl
                  refine lv_goto (tgt := 4) hx hb dX11_rowsPresent_27 (by decide) ?_
                  refine lv_iload_n hx hb dX11_rowsPresent_4 rfl (lv_at hl 0 rfl) ?_
                  refine lv_iconst (v := 4) hx hb dX11_rowsPresent_5 (by decide) ?_
                  refine lv_icmp_ge (tgt := 30) hx hb dX11_rowsPresent_6 (by decide) (fun c96 => ?_) (fun c96 => ?_)
                  · refine lv_iload_n hx hb dX11_rowsPresent_30 rfl (lv_at hl 1 rfl) ?_
                    subst hAe
                    rw [hQ]
                    exact W.iret (v := 3) hx hb hr (fun t ht hW => ⟨⟨3, (), rfl, (mm_wk mm_k3 (by decide)), by rw [ht]; exact hP, hK.warm hW, hD⟩, hS.F ht⟩) hS.2.2 dX11_rowsPresent_31
                  · have q97 := mm_ltL (h := 3) (mm_nle c96) mm_k4 mm_k4 (by decide)
                    exact mm_no q97 (by decide)
            · have q98 := mm_neL (lo := 1) (mm_ne c87) h2 mm_k0 (by decide) (by decide)
              refine lv_iinc (v := 3) (lv' := [(1, .int 3), (2, .int 2), (0, .ref a_0)]) hx hb dX11_rowsPresent_21 hl (k := 1) rfl (by decide) (by decide) rfl ?_
              clear hl
              clear ls
              intro ls hl
              refine lv_iinc (v := 3) (lv' := [(2, .int 3), (1, .int 3), (0, .ref a_0)]) hx hb dX11_rowsPresent_24 hl (k := 1) rfl (by decide) (by decide) rfl ?_
              clear hl
              clear ls
              intro ls hl
              refine lv_goto (tgt := 4) hx hb dX11_rowsPresent_27 (by decide) ?_
              refine lv_iload_n hx hb dX11_rowsPresent_4 rfl (lv_at hl 0 rfl) ?_
              refine lv_iconst (v := 4) hx hb dX11_rowsPresent_5 (by decide) ?_
              refine lv_icmp_ge (tgt := 30) hx hb dX11_rowsPresent_6 (by decide) (fun c99 => ?_) (fun c99 => ?_)
              · have q100 := mm_leL (mm_le c99) mm_k4 mm_k3
                exact mm_no q100 (by decide)
              · refine lv_aload_n hx hb dX11_rowsPresent_9 rfl (lv_at hl 2 rfl) ?_
                refine va_get (D := G) (ci := 11) (v := .ref a_6) (C := RX11) (T := TX11) (N := 11) hx hb hts (mm_i inlX11) hown hK.1 hP 0 rfl rfl 5 (by decide) (mm_h hts mm_w32) (fun _ h9 => h9) rfl dX11_rowsPresent_10 ?_
                refine lv_iload_n hx hb dX11_rowsPresent_13 rfl (lv_at hl 0 rfl) ?_
                refine va_aldq hx hb hK.1 hP 1 6 rfl rfl (mm_in mm_k3 (by decide)) dX11_rowsPresent_14 ?_
                refine W.eq (g2 := F0 m 15 ls [.ref a_15]) rfl ?_
                refine va_get (D := G) (ci := 6) (v := .int i_9) (C := RX6) (T := TX6) (N := 4) hx hb hts (mm_i inlX6) hown hK.1 hP 5 rfl rfl 0 (by decide) (mm_h hts mm_w1239) (fun _ h9 => h9) rfl dX11_rowsPresent_15 ?_
                refine lv_if_eq (tgt := 24) hx hb dX11_rowsPresent_18 (by decide) (fun c101 => ?_) (fun c101 => ?_)
                · have q102 := mm_eqI (lo := 0) (hi := 0) c101 h3 mm_k0 (by decide)
                  refine lv_iinc (v := 4) (lv' := [(2, .int 4), (1, .int 3), (0, .ref a_0)]) hx hb dX11_rowsPresent_24 hl (k := 0) rfl (by decide) (by decide) rfl ?_
                  clear hl
                  clear ls
                  intro ls hl
                  refine lv_goto (tgt := 4) hx hb dX11_rowsPresent_27 (by decide) ?_
                  refine lv_iload_n hx hb dX11_rowsPresent_4 rfl (lv_at hl 0 rfl) ?_
                  refine lv_iconst (v := 4) hx hb dX11_rowsPresent_5 (by decide) ?_
                  refine lv_icmp_ge (tgt := 30) hx hb dX11_rowsPresent_6 (by decide) (fun c103 => ?_) (fun c103 => ?_)
                  · refine lv_iload_n hx hb dX11_rowsPresent_30 rfl (lv_at hl 1 rfl) ?_
                    subst hAe
                    rw [hQ]
                    exact W.iret (v := 3) hx hb hr (fun t ht hW => ⟨⟨3, (), rfl, (mm_wk mm_k3 (by decide)), by rw [ht]; exact hP, hK.warm hW, hD⟩, hS.F ht⟩) hS.2.2 dX11_rowsPresent_31
                  · have q104 := mm_ltL (h := 3) (mm_nle c103) mm_k4 mm_k4 (by decide)
                    exact mm_no q104 (by decide)
                · have q105 := mm_neL (lo := 1) (mm_ne c101) h3 mm_k0 (by decide) (by decide)
                  refine lv_iinc (v := 4) (lv' := [(1, .int 4), (2, .int 3), (0, .ref a_0)]) hx hb dX11_rowsPresent_21 hl (k := 1) rfl (by decide) (by decide) rfl ?_
                  clear hl
                  clear ls
                  intro ls hl
                  refine lv_iinc (v := 4) (lv' := [(2, .int 4), (1, .int 4), (0, .ref a_0)]) hx hb dX11_rowsPresent_24 hl (k := 1) rfl (by decide) (by decide) rfl ?_
                  clear hl
                  clear ls
                  intro ls hl
                  refine lv_goto (tgt := 4) hx hb dX11_rowsPresent_27 (by decide) ?_
                  refine lv_iload_n hx hb dX11_rowsPresent_4 rfl (lv_at hl 0 rfl) ?_
                  refine lv_iconst (v := 4) hx hb dX11_rowsPresent_5 (by decide) ?_
                  refine lv_icmp_ge (tgt := 30) hx hb dX11_rowsPresent_6 (by decide) (fun c106 => ?_) (fun c106 => ?_)
                  · refine lv_iload_n hx hb dX11_rowsPresent_30 rfl (lv_at hl 1 rfl) ?_
                    subst hAe
                    rw [hQ]
                    exact W.iret (v := 4) hx hb hr (fun t ht hW => ⟨⟨4, (), rfl, (mm_wk mm_k4 (by decide)), by rw [ht]; exact hP, hK.warm hW, hD⟩, hS.F ht⟩) hS.2.2 dX11_rowsPresent_31
                  · have q107 := mm_ltL (h := 3) (mm_nle c106) mm_k4 mm_k4 (by decide)
                    exact mm_no q107 (by decide)

set_option maxHeartbeats 4000000 in
set_option maxRecDepth 100000 in
theorem K522_X11_count (l : Launch) (G : va_G) (cy : Nat → ClassId) (sz : Nat) (a_0 : Nat) (i_0 : Int32) (a_1 : Nat) (a_2 : Nat) (a_3 : Nat) (a_4 : Nat) (a_5 : Nat) (a_6 : Nat) (a_7 : Nat) (a_8 : Nat) (a_9 : Nat) (a_10 : Nat) (a_11 : Nat) (a_12 : Nat) (i_1 : Int32) (a_13 : Nat) (a_14 : Nat) (i_2 : Int32) (i_3 : Int32) (i_4 : Int32) (i_5 : Int32) (i_6 : Int32) (i_7 : Int32) (i_8 : Int32) (i_9 : Int32) (a_15 : Nat) (a_16 : Nat) (a_17 : Nat) (a_18 : Nat) (a_19 : Nat) (a_20 : Nat) (a_21 : Nat) (a_22 : Nat) (a_23 : Nat) (a_24 : Nat) (f_0 : Nat → Int32) (a_25 : Nat) (a_26 : Nat) (a_27 : Nat) (a_28 : Nat) (i_10 : Int32) (i_11 : Int32) (i_12 : Int32) (a_29 : Nat) (i_13 : Int32) (i_14 : Int32) (i_15 : Int32) (a_30 : Nat) (i_16 : Int32) (i_17 : Int32) (i_18 : Int32) (a_31 : Nat) (i_19 : Int32) (i_20 : Int32) (i_21 : Int32) (a_32 : Nat) (h0 : mm_rg i_1 0 600) (h1 : mm_rg i_3 0 10) (h2 : mm_rg i_4 0 99) (h3 : mm_rg i_6 0 9) (h4 : mm_rg i_7 0 3) (h5 : mm_rg i_8 0 6) (h6 : mm_rg i_9 0 30) (h7 : mm_ar f_0 0 7) (h8 : mm_rg i_10 0 1) (h9 : mm_rg i_13 0 1) (h10 : mm_rg i_16 0 1) (h11 : mm_rg i_19 0 1)  : mm_CI l yX11_count (mm_ws yX11_count cX11_count 2 (some .int)) ({ frames := 1, cells := 0, slots := 0, locals := 22 } : Room) G cy sz [(a_0, .inr (11, [.ref a_1, .ref a_2, .ref a_3, .ref a_4, .ref a_5, .ref a_6, .ref a_7, .ref a_8, .ref a_9, .ref a_10, .ref a_11])), (a_1, .inr (9, [.ref a_12, .int i_1])), (a_3, .inr (10, [.ref a_13, .ref a_14])), (a_13, .inr (0, [.int i_2, .int i_3, .int i_4, .int i_5, .int i_6, .int i_7, .int i_8, .int i_9, .ref a_15, .ref a_16, .ref a_17, .ref a_18, .ref a_19, .ref a_20, .ref a_21, .ref a_22, .ref a_23, .ref a_24])), (a_17, .inl (cy 1, 3, .inl f_0)), (a_6, .inl (cy 6, 4, .inr (.inr (.inr (.inr (va_up (va_up (va_up (va_up (fun _ => none) 0 (some a_25)) 1 (some a_26)) 2 (some a_27)) 3 (some a_28))))))), (a_25, .inr (6, [.int i_10, .int i_11, .int i_12, .ref a_29])), (a_26, .inr (6, [.int i_13, .int i_14, .int i_15, .ref a_30])), (a_27, .inr (6, [.int i_16, .int i_17, .int i_18, .ref a_31])), (a_28, .inr (6, [.int i_19, .int i_20, .int i_21, .ref a_32]))] [.ref a_0, .int i_0] (fun u : Unit => [(a_0, .inr (11, [.ref a_1, .ref a_2, .ref a_3, .ref a_4, .ref a_5, .ref a_6, .ref a_7, .ref a_8, .ref a_9, .ref a_10, .ref a_11])), (a_1, .inr (9, [.ref a_12, .int i_1])), (a_3, .inr (10, [.ref a_13, .ref a_14])), (a_13, .inr (0, [.int i_2, .int i_3, .int i_4, .int i_5, .int i_6, .int i_7, .int i_8, .int i_9, .ref a_15, .ref a_16, .ref a_17, .ref a_18, .ref a_19, .ref a_20, .ref a_21, .ref a_22, .ref a_23, .ref a_24])), (a_17, .inl (cy 1, 3, .inl f_0)), (a_6, .inl (cy 6, 4, .inr (.inr (.inr (.inr (va_up (va_up (va_up (va_up (fun _ => none) 0 (some a_25)) 1 (some a_26)) 2 (some a_27)) 3 (some a_28))))))), (a_25, .inr (6, [.int i_10, .int i_11, .int i_12, .ref a_29])), (a_26, .inr (6, [.int i_13, .int i_14, .int i_15, .ref a_30])), (a_27, .inr (6, [.int i_16, .int i_17, .int i_18, .ref a_31])), (a_28, .inr (6, [.int i_19, .int i_20, .int i_21, .ref a_32]))]) (fun (r : Int32) (u : Unit) => True) 0 0 := by
  refine mm_begin (lv := [(0, .ref a_0), (1, .int i_0)]) (by decide) (Nat.le_of_ble_eq_true rfl) rfl ?_
  intro p e s m below meth c A ls R args Q H locs hRe hQ hAe hx hb hr hlocks hml hown hnm hts hsz hA hS hP hK hD hZ hl
  have hRf : R.frames = 1 := by rw [hRe]
  have hRl : R.locals = 22 := by rw [hRe]
  have hRc : R.cells = 0 := by rw [hRe]
  have hRs : R.slots = 0 := by rw [hRe]
  refine lv_iload_n hx hb dX11_count_0 rfl (lv_at hl 1 rfl) ?_
  rcases mm_out i_0 0 9 with c1 | c1 | c1
  · have q2 : mm_rg i_0 (-2147483648) (-1) := ⟨((mm_top i_0)).1, by omega⟩
    refine lv_tableOut (tgt := 157) hx hb dX11_count_1 (Or.inl c1) (by decide) ?_
    refine lv_iconst (v := (-1)) hx hb dX11_count_157 (by decide) ?_
    subst hAe
    rw [hQ]
    exact W.iret (v := (-1)) hx hb hr (fun t ht hW => ⟨⟨(-1), (), rfl, trivial, by rw [ht]; exact hP, hK.warm hW, hD⟩, hS.F ht⟩) hS.2.2 dX11_count_158
  · have q3 : mm_rg i_0 10 2147483647 := ⟨by omega, ((mm_top i_0)).2⟩
    refine lv_tableOut (tgt := 157) hx hb dX11_count_1 (Or.inr c1) (by decide) ?_
    refine lv_iconst (v := (-1)) hx hb dX11_count_157 (by decide) ?_
    subst hAe
    rw [hQ]
    exact W.iret (v := (-1)) hx hb hr (fun t ht hW => ⟨⟨(-1), (), rfl, trivial, by rw [ht]; exact hP, hK.warm hW, hD⟩, hS.F ht⟩) hS.2.2 dX11_count_158
  · have c4 := mm_cases10 c1
    rcases c4 with rfl | rfl | rfl | rfl | rfl | rfl | rfl | rfl | rfl | rfl
    · refine lv_tableIn (tgt := 56) hx hb dX11_count_1 (by decide) (by decide) rfl (by decide) ?_
      refine lv_aload_n hx hb dX11_count_56 rfl (lv_at hl 0 rfl) ?_
      refine va_get (D := G) (ci := 11) (v := .ref a_3) (C := RX11) (T := TX11) (N := 11) hx hb hts (mm_i inlX11) hown hK.1 hP 0 rfl rfl 2 (by decide) (mm_h hts mm_w24) (fun _ h9 => h9) rfl dX11_count_57 ?_
      refine va_get (D := G) (ci := 10) (v := .ref a_13) (C := RX10) (T := TX10) (N := 2) hx hb hts (mm_i inlX10) hown hK.1 hP 2 rfl rfl 0 (by decide) (mm_h hts mm_w199) (fun _ h9 => h9) rfl dX11_count_60 ?_
      refine va_get (D := G) (ci := 0) (v := .int i_3) (C := RX0) (T := TX0) (N := 18) hx hb hts (mm_i inlX0) hown hK.1 hP 3 rfl rfl 1 (by decide) (mm_h hts mm_w1641) (fun _ h9 => h9) rfl dX11_count_63 ?_
      subst hAe
      rw [hQ]
      exact W.iret (v := i_3) hx hb hr (fun t ht hW => ⟨⟨i_3, (), rfl, trivial, by rw [ht]; exact hP, hK.warm hW, hD⟩, hS.F ht⟩) hS.2.2 dX11_count_66
    · refine lv_tableIn (tgt := 67) hx hb dX11_count_1 (by decide) (by decide) rfl (by decide) ?_
      refine lv_aload_n hx hb dX11_count_67 rfl (lv_at hl 0 rfl) ?_
      refine va_get (D := G) (ci := 11) (v := .ref a_3) (C := RX11) (T := TX11) (N := 11) hx hb hts (mm_i inlX11) hown hK.1 hP 0 rfl rfl 2 (by decide) (mm_h hts mm_w24) (fun _ h9 => h9) rfl dX11_count_68 ?_
      refine va_get (D := G) (ci := 10) (v := .ref a_13) (C := RX10) (T := TX10) (N := 2) hx hb hts (mm_i inlX10) hown hK.1 hP 2 rfl rfl 0 (by decide) (mm_h hts mm_w199) (fun _ h9 => h9) rfl dX11_count_71 ?_
      refine va_get (D := G) (ci := 0) (v := .int i_4) (C := RX0) (T := TX0) (N := 18) hx hb hts (mm_i inlX0) hown hK.1 hP 3 rfl rfl 2 (by decide) (mm_h hts mm_w1642) (fun _ h9 => h9) rfl dX11_count_74 ?_
      subst hAe
      rw [hQ]
      exact W.iret (v := i_4) hx hb hr (fun t ht hW => ⟨⟨i_4, (), rfl, trivial, by rw [ht]; exact hP, hK.warm hW, hD⟩, hS.F ht⟩) hS.2.2 dX11_count_77
    · refine lv_tableIn (tgt := 78) hx hb dX11_count_1 (by decide) (by decide) rfl (by decide) ?_
      refine lv_aload_n hx hb dX11_count_78 rfl (lv_at hl 0 rfl) ?_
      refine va_get (D := G) (ci := 11) (v := .ref a_3) (C := RX11) (T := TX11) (N := 11) hx hb hts (mm_i inlX11) hown hK.1 hP 0 rfl rfl 2 (by decide) (mm_h hts mm_w24) (fun _ h9 => h9) rfl dX11_count_79 ?_
      refine va_get (D := G) (ci := 10) (v := .ref a_13) (C := RX10) (T := TX10) (N := 2) hx hb hts (mm_i inlX10) hown hK.1 hP 2 rfl rfl 0 (by decide) (mm_h hts mm_w199) (fun _ h9 => h9) rfl dX11_count_82 ?_
      refine va_get (D := G) (ci := 0) (v := .int i_6) (C := RX0) (T := TX0) (N := 18) hx hb hts (mm_i inlX0) hown hK.1 hP 3 rfl rfl 4 (by decide) (mm_h hts mm_w580) (fun _ h9 => h9) rfl dX11_count_85 ?_
      subst hAe
      rw [hQ]
      exact W.iret (v := i_6) hx hb hr (fun t ht hW => ⟨⟨i_6, (), rfl, trivial, by rw [ht]; exact hP, hK.warm hW, hD⟩, hS.F ht⟩) hS.2.2 dX11_count_88
    · refine lv_tableIn (tgt := 89) hx hb dX11_count_1 (by decide) (by decide) rfl (by decide) ?_
      refine lv_aload_n hx hb dX11_count_89 rfl (lv_at hl 0 rfl) ?_
      refine va_get (D := G) (ci := 11) (v := .ref a_3) (C := RX11) (T := TX11) (N := 11) hx hb hts (mm_i inlX11) hown hK.1 hP 0 rfl rfl 2 (by decide) (mm_h hts mm_w24) (fun _ h9 => h9) rfl dX11_count_90 ?_
      refine va_get (D := G) (ci := 10) (v := .ref a_13) (C := RX10) (T := TX10) (N := 2) hx hb hts (mm_i inlX10) hown hK.1 hP 2 rfl rfl 0 (by decide) (mm_h hts mm_w199) (fun _ h9 => h9) rfl dX11_count_93 ?_
      refine va_get (D := G) (ci := 0) (v := .int i_7) (C := RX0) (T := TX0) (N := 18) hx hb hts (mm_i inlX0) hown hK.1 hP 3 rfl rfl 5 (by decide) (mm_h hts mm_w630) (fun _ h9 => h9) rfl dX11_count_96 ?_
      subst hAe
      rw [hQ]
      exact W.iret (v := i_7) hx hb hr (fun t ht hW => ⟨⟨i_7, (), rfl, trivial, by rw [ht]; exact hP, hK.warm hW, hD⟩, hS.F ht⟩) hS.2.2 dX11_count_99
    · refine lv_tableIn (tgt := 100) hx hb dX11_count_1 (by decide) (by decide) rfl (by decide) ?_
      refine lv_aload_n hx hb dX11_count_100 rfl (lv_at hl 0 rfl) ?_
      refine va_get (D := G) (ci := 11) (v := .ref a_3) (C := RX11) (T := TX11) (N := 11) hx hb hts (mm_i inlX11) hown hK.1 hP 0 rfl rfl 2 (by decide) (mm_h hts mm_w24) (fun _ h9 => h9) rfl dX11_count_101 ?_
      refine va_get (D := G) (ci := 10) (v := .ref a_13) (C := RX10) (T := TX10) (N := 2) hx hb hts (mm_i inlX10) hown hK.1 hP 2 rfl rfl 0 (by decide) (mm_h hts mm_w199) (fun _ h9 => h9) rfl dX11_count_104 ?_
      refine mm_finir (va_runV (As := []) (rest := []) ⟨hx, hb, hml, hown, hts⟩ (K520_X0_allRules l G cy H.size a_13 i_2 i_3 i_4 i_5 i_6 i_7 i_8 i_9 a_15 a_16 a_17 a_18 a_19 a_20 a_21 a_22 a_23 a_24 f_0 h4 h7) (cwV 0 hts (mm_gV mm_w1643 mm_w1644 mm_w1645 mm_w28 mm_w1646) rfl rfl rfl hd_X0_allRules ⟨by rw [hRf]; exact Nat.le_of_ble_eq_true rfl, by rw [hRl]; exact Nat.le_of_ble_eq_true rfl⟩) (mm_preV hK hZ hS hA hP hD [3, 4] rfl rfl 3 rfl rfl rfl) rfl rfl hl.1 rfl (lv_room (Nat.le_of_ble_eq_true rfl)) dX11_count_107 ⟨by rw [hRc]; exact Nat.le_of_ble_eq_true rfl, by rw [hRs]; exact Nat.le_of_ble_eq_true rfl⟩) hP hD hS hA [3, 4] rfl (fun _ => rfl) ?_
      clear hP hD hS
      clear H locs
      intro v5 _u H locs hw hP hD hS
      subst hAe
      rw [hQ]
      exact W.iret (v := v5) hx hb hr (fun t ht hW => ⟨⟨v5, (), rfl, trivial, by rw [ht]; exact hP, hK.warm hW, hD⟩, hS.F ht⟩) hS.2.2 dX11_count_110
    · refine lv_tableIn (tgt := 111) hx hb dX11_count_1 (by decide) (by decide) rfl (by decide) ?_
      refine lv_aload_n hx hb dX11_count_111 rfl (lv_at hl 0 rfl) ?_
      refine va_get (D := G) (ci := 11) (v := .ref a_3) (C := RX11) (T := TX11) (N := 11) hx hb hts (mm_i inlX11) hown hK.1 hP 0 rfl rfl 2 (by decide) (mm_h hts mm_w24) (fun _ h9 => h9) rfl dX11_count_112 ?_
      refine va_get (D := G) (ci := 10) (v := .ref a_13) (C := RX10) (T := TX10) (N := 2) hx hb hts (mm_i inlX10) hown hK.1 hP 2 rfl rfl 0 (by decide) (mm_h hts mm_w199) (fun _ h9 => h9) rfl dX11_count_115 ?_
      refine va_get (D := G) (ci := 0) (v := .int i_8) (C := RX0) (T := TX0) (N := 18) hx hb hts (mm_i inlX0) hown hK.1 hP 3 rfl rfl 6 (by decide) (mm_h hts mm_w604) (fun _ h9 => h9) rfl dX11_count_118 ?_
      subst hAe
      rw [hQ]
      exact W.iret (v := i_8) hx hb hr (fun t ht hW => ⟨⟨i_8, (), rfl, trivial, by rw [ht]; exact hP, hK.warm hW, hD⟩, hS.F ht⟩) hS.2.2 dX11_count_121
    · refine lv_tableIn (tgt := 122) hx hb dX11_count_1 (by decide) (by decide) rfl (by decide) ?_
      refine lv_aload_n hx hb dX11_count_122 rfl (lv_at hl 0 rfl) ?_
      refine va_get (D := G) (ci := 11) (v := .ref a_3) (C := RX11) (T := TX11) (N := 11) hx hb hts (mm_i inlX11) hown hK.1 hP 0 rfl rfl 2 (by decide) (mm_h hts mm_w24) (fun _ h9 => h9) rfl dX11_count_123 ?_
      refine va_get (D := G) (ci := 10) (v := .ref a_13) (C := RX10) (T := TX10) (N := 2) hx hb hts (mm_i inlX10) hown hK.1 hP 2 rfl rfl 0 (by decide) (mm_h hts mm_w199) (fun _ h9 => h9) rfl dX11_count_126 ?_
      refine va_get (D := G) (ci := 0) (v := .int i_9) (C := RX0) (T := TX0) (N := 18) hx hb hts (mm_i inlX0) hown hK.1 hP 3 rfl rfl 7 (by decide) (mm_h hts mm_w1540) (fun _ h9 => h9) rfl dX11_count_129 ?_
      subst hAe
      rw [hQ]
      exact W.iret (v := i_9) hx hb hr (fun t ht hW => ⟨⟨i_9, (), rfl, trivial, by rw [ht]; exact hP, hK.warm hW, hD⟩, hS.F ht⟩) hS.2.2 dX11_count_132
    · refine lv_tableIn (tgt := 133) hx hb dX11_count_1 (by decide) (by decide) rfl (by decide) ?_
      refine lv_aload_n hx hb dX11_count_133 rfl (lv_at hl 0 rfl) ?_
      refine va_get (D := G) (ci := 11) (v := .ref a_3) (C := RX11) (T := TX11) (N := 11) hx hb hts (mm_i inlX11) hown hK.1 hP 0 rfl rfl 2 (by decide) (mm_h hts mm_w24) (fun _ h9 => h9) rfl dX11_count_134 ?_
      refine va_get (D := G) (ci := 10) (v := .ref a_13) (C := RX10) (T := TX10) (N := 2) hx hb hts (mm_i inlX10) hown hK.1 hP 2 rfl rfl 0 (by decide) (mm_h hts mm_w199) (fun _ h9 => h9) rfl dX11_count_137 ?_
      refine va_get (D := G) (ci := 0) (v := .int i_2) (C := RX0) (T := TX0) (N := 18) hx hb hts (mm_i inlX0) hown hK.1 hP 3 rfl rfl 0 (by decide) (mm_h hts mm_w200) (fun _ h9 => h9) rfl dX11_count_140 ?_
      subst hAe
      rw [hQ]
      exact W.iret (v := i_2) hx hb hr (fun t ht hW => ⟨⟨i_2, (), rfl, trivial, by rw [ht]; exact hP, hK.warm hW, hD⟩, hS.F ht⟩) hS.2.2 dX11_count_143
    · refine lv_tableIn (tgt := 144) hx hb dX11_count_1 (by decide) (by decide) rfl (by decide) ?_
      refine lv_aload_n hx hb dX11_count_144 rfl (lv_at hl 0 rfl) ?_
      refine va_get (D := G) (ci := 11) (v := .ref a_1) (C := RX11) (T := TX11) (N := 11) hx hb hts (mm_i inlX11) hown hK.1 hP 0 rfl rfl 0 (by decide) (mm_h hts mm_w16) (fun _ h9 => h9) rfl dX11_count_145 ?_
      refine va_get (D := G) (ci := 9) (v := .int i_1) (C := RX9) (T := TX9) (N := 2) hx hb hts (mm_i inlX9) hown hK.1 hP 1 rfl rfl 1 (by decide) (mm_h hts mm_w167) (fun _ h9 => h9) rfl dX11_count_148 ?_
      subst hAe
      rw [hQ]
      exact W.iret (v := i_1) hx hb hr (fun t ht hW => ⟨⟨i_1, (), rfl, trivial, by rw [ht]; exact hP, hK.warm hW, hD⟩, hS.F ht⟩) hS.2.2 dX11_count_151
    · refine lv_tableIn (tgt := 152) hx hb dX11_count_1 (by decide) (by decide) rfl (by decide) ?_
      refine lv_aload_n hx hb dX11_count_152 rfl (lv_at hl 0 rfl) ?_
      refine mm_finir (va_runV (As := []) (rest := []) ⟨hx, hb, hml, hown, hts⟩ (K521_X11_rowsPresent l G cy H.size a_0 a_1 a_2 a_3 a_4 a_5 a_6 a_7 a_8 a_9 a_10 a_11 a_25 a_26 a_27 a_28 i_10 i_11 i_12 a_29 i_13 i_14 i_15 a_30 i_16 i_17 i_18 a_31 i_19 i_20 i_21 a_32 h8 h9 h10 h11) (cwV 0 hts (mm_gV mm_w1647 mm_w1648 mm_w1649 mm_w2 mm_w1650) rfl rfl rfl hd_X11_rowsPresent ⟨by rw [hRf]; exact Nat.le_of_ble_eq_true rfl, by rw [hRl]; exact Nat.le_of_ble_eq_true rfl⟩) (mm_preV hK hZ hS hA hP hD [0, 5, 6, 7, 8, 9] rfl rfl 0 rfl rfl rfl) rfl rfl hl.1 rfl (lv_room (Nat.le_of_ble_eq_true rfl)) dX11_count_153 ⟨by rw [hRc]; exact Nat.le_of_ble_eq_true rfl, by rw [hRs]; exact Nat.le_of_ble_eq_true rfl⟩) hP hD hS hA [0, 5, 6, 7, 8, 9] rfl (fun _ => rfl) ?_
      clear hP hD hS
      clear H locs
      intro v6 _u H locs hw hP hD hS
      have w7 := hw
      subst hAe
      rw [hQ]
      exact W.iret (v := v6) hx hb hr (fun t ht hW => ⟨⟨v6, (), rfl, trivial, by rw [ht]; exact hP, hK.warm hW, hD⟩, hS.F ht⟩) hS.2.2 dX11_count_156

set_option maxHeartbeats 4000000 in
set_option maxRecDepth 100000 in
theorem K523_X11_image (l : Launch) (G : va_G) (cy : Nat → ClassId) (sz : Nat) (a_0 : Nat) (i_0 : Int32) (a_1 : Nat) (a_2 : Nat) (a_3 : Nat) (a_4 : Nat) (a_5 : Nat) (a_6 : Nat) (a_7 : Nat) (a_8 : Nat) (a_9 : Nat) (a_10 : Nat) (a_11 : Nat) (a_12 : Nat) (a_13 : Nat) (i_1 : Int32) (i_2 : Int32) (i_3 : Int32) (i_4 : Int32) (i_5 : Int32) (i_6 : Int32) (i_7 : Int32) (i_8 : Int32) (a_14 : Nat) (a_15 : Nat) (a_16 : Nat) (a_17 : Nat) (a_18 : Nat) (a_19 : Nat) (a_20 : Nat) (a_21 : Nat) (a_22 : Nat) (a_23 : Nat) (f_0 : Nat → Int32) (f_1 : Nat → Int32) (f_2 : Nat → Int32) (f_3 : Nat → Int32) (f_4 : Nat → Int32) (f_5 : Nat → Int32) (f_6 : Nat → Int32) (f_7 : Nat → Int32) (f_8 : Nat → Int32) (f_9 : Nat → Int32) (a_24 : Nat) (a_25 : Nat) (a_26 : Nat) (i_9 : Int32) (i_10 : Int32) (i_11 : Int32) (i_12 : Int32) (i_13 : Int32) (i_14 : Int32) (i_15 : Int32) (i_16 : Int32) (a_27 : Nat) (a_28 : Nat) (a_29 : Nat) (a_30 : Nat) (a_31 : Nat) (a_32 : Nat) (a_33 : Nat) (a_34 : Nat) (a_35 : Nat) (a_36 : Nat) (f_10 : Nat → Int32) (f_11 : Nat → Int32) (f_12 : Nat → Int32) (f_13 : Nat → Int32) (f_14 : Nat → Int32) (f_15 : Nat → Int32) (f_16 : Nat → Int32) (f_17 : Nat → Int32) (f_18 : Nat → Int32) (f_19 : Nat → Int32) (i_17 : Int32) (i_18 : Int32) (i_19 : Int32) (i_20 : Int32) (i_21 : Int32) (i_22 : Int32) (i_23 : Int32) (i_24 : Int32) (a_37 : Nat) (a_38 : Nat) (a_39 : Nat) (a_40 : Nat) (a_41 : Nat) (a_42 : Nat) (a_43 : Nat) (a_44 : Nat) (a_45 : Nat) (a_46 : Nat) (f_20 : Nat → Int32) (f_21 : Nat → Int32) (f_22 : Nat → Int32) (f_23 : Nat → Int32) (f_24 : Nat → Int32) (f_25 : Nat → Int32) (f_26 : Nat → Int32) (f_27 : Nat → Int32) (f_28 : Nat → Int32) (f_29 : Nat → Int32) (i_25 : Int32) (i_26 : Int32) (i_27 : Int32) (i_28 : Int32) (i_29 : Int32) (i_30 : Int32) (i_31 : Int32) (i_32 : Int32) (a_47 : Nat) (a_48 : Nat) (a_49 : Nat) (a_50 : Nat) (a_51 : Nat) (a_52 : Nat) (a_53 : Nat) (a_54 : Nat) (a_55 : Nat) (a_56 : Nat) (f_30 : Nat → Int32) (f_31 : Nat → Int32) (f_32 : Nat → Int32) (f_33 : Nat → Int32) (f_34 : Nat → Int32) (f_35 : Nat → Int32) (f_36 : Nat → Int32) (f_37 : Nat → Int32) (f_38 : Nat → Int32) (f_39 : Nat → Int32) (f_40 : Nat → Int32) (h0 : mm_rg i_2 0 10) (h1 : mm_rg i_3 0 99) (h2 : mm_rg i_4 0 99) (h3 : mm_rg i_5 0 9) (h4 : mm_rg i_6 0 3) (h5 : mm_rg i_7 0 6) (h6 : mm_rg i_8 0 30) (h7 : mm_ar f_0 (-1) 4) (h8 : mm_ar f_1 0 99) (h9 : mm_ar f_2 0 7) (h10 : mm_ar f_3 0 9) (h11 : mm_ar f_4 0 8) (h12 : mm_ar f_5 0 9) (h13 : mm_ar f_6 0 9) (h14 : mm_ar f_7 (-1) 2) (h15 : mm_ar f_8 0 99) (h16 : mm_ar f_9 0 9) (h17 : mm_rg i_10 0 10) (h18 : mm_rg i_11 0 99) (h19 : mm_rg i_12 0 99) (h20 : mm_rg i_13 0 9) (h21 : mm_rg i_14 0 3) (h22 : mm_rg i_15 0 6) (h23 : mm_rg i_16 0 30) (h24 : mm_ar f_10 (-1) 4) (h25 : mm_ar f_11 0 99) (h26 : mm_ar f_12 0 7) (h27 : mm_ar f_13 0 9) (h28 : mm_ar f_14 0 8) (h29 : mm_ar f_15 0 9) (h30 : mm_ar f_16 0 9) (h31 : mm_ar f_17 (-1) 2) (h32 : mm_ar f_18 0 99) (h33 : mm_ar f_19 0 9) (h34 : mm_rg i_18 0 10) (h35 : mm_rg i_19 0 99) (h36 : mm_rg i_20 0 99) (h37 : mm_rg i_21 0 9) (h38 : mm_rg i_22 0 3) (h39 : mm_rg i_23 0 6) (h40 : mm_rg i_24 0 30) (h41 : mm_ar f_20 (-1) 4) (h42 : mm_ar f_21 0 99) (h43 : mm_ar f_22 0 7) (h44 : mm_ar f_23 0 9) (h45 : mm_ar f_24 0 8) (h46 : mm_ar f_25 0 9) (h47 : mm_ar f_26 0 9) (h48 : mm_ar f_27 (-1) 2) (h49 : mm_ar f_28 0 99) (h50 : mm_ar f_29 0 9) (h51 : mm_rg i_26 0 10) (h52 : mm_rg i_27 0 99) (h53 : mm_rg i_28 0 99) (h54 : mm_rg i_29 0 9) (h55 : mm_rg i_30 0 3) (h56 : mm_rg i_31 0 6) (h57 : mm_rg i_32 0 30) (h58 : mm_ar f_30 (-1) 4) (h59 : mm_ar f_31 0 99) (h60 : mm_ar f_32 0 7) (h61 : mm_ar f_33 0 9) (h62 : mm_ar f_34 0 8) (h63 : mm_ar f_35 0 9) (h64 : mm_ar f_36 0 9) (h65 : mm_ar f_37 (-1) 2) (h66 : mm_ar f_38 0 99) (h67 : mm_ar f_39 0 9) (h68 : mm_ar f_40 0 1) (h69 : mm_act f_7 f_8) (h70 : mm_act f_17 f_18) (h71 : mm_act f_27 f_28) (h72 : mm_act f_37 f_38)  : mm_CI l yX11_image (mm_ws yX11_image cX11_image 2 (some .int)) ({ frames := 3, cells := 0, slots := 0, locals := 106 } : Room) G cy sz [(a_0, .inr (11, [.ref a_1, .ref a_2, .ref a_3, .ref a_4, .ref a_5, .ref a_6, .ref a_7, .ref a_8, .ref a_9, .ref a_10, .ref a_11])), (a_3, .inr (10, [.ref a_12, .ref a_13])), (a_12, .inr (0, [.int i_1, .int i_2, .int i_3, .int i_4, .int i_5, .int i_6, .int i_7, .int i_8, .ref a_14, .ref a_15, .ref a_16, .ref a_17, .ref a_18, .ref a_19, .ref a_20, .ref a_21, .ref a_22, .ref a_23])), (a_14, .inl (cy 1, 9, .inl f_0)), (a_15, .inl (cy 1, 9, .inl f_1)), (a_16, .inl (cy 1, 3, .inl f_2)), (a_17, .inl (cy 1, 210, .inl f_3)), (a_18, .inl (cy 1, 6, .inl f_4)), (a_19, .inl (cy 1, 48, .inl f_5)), (a_20, .inl (cy 1, 30, .inl f_6)), (a_21, .inl (cy 1, 30, .inl f_7)), (a_22, .inl (cy 1, 30, .inl f_8)), (a_23, .inl (cy 1, 30, .inl f_9)), (a_4, .inl (cy 4, 3, .inr (.inr (.inr (.inr (va_up (va_up (va_up (fun _ => none) 0 (some a_24)) 1 (some a_25)) 2 (some a_26))))))), (a_24, .inr (0, [.int i_9, .int i_10, .int i_11, .int i_12, .int i_13, .int i_14, .int i_15, .int i_16, .ref a_27, .ref a_28, .ref a_29, .ref a_30, .ref a_31, .ref a_32, .ref a_33, .ref a_34, .ref a_35, .ref a_36])), (a_27, .inl (cy 1, 9, .inl f_10)), (a_28, .inl (cy 1, 9, .inl f_11)), (a_29, .inl (cy 1, 3, .inl f_12)), (a_30, .inl (cy 1, 210, .inl f_13)), (a_31, .inl (cy 1, 6, .inl f_14)), (a_32, .inl (cy 1, 48, .inl f_15)), (a_33, .inl (cy 1, 30, .inl f_16)), (a_34, .inl (cy 1, 30, .inl f_17)), (a_35, .inl (cy 1, 30, .inl f_18)), (a_36, .inl (cy 1, 30, .inl f_19)), (a_25, .inr (0, [.int i_17, .int i_18, .int i_19, .int i_20, .int i_21, .int i_22, .int i_23, .int i_24, .ref a_37, .ref a_38, .ref a_39, .ref a_40, .ref a_41, .ref a_42, .ref a_43, .ref a_44, .ref a_45, .ref a_46])), (a_37, .inl (cy 1, 9, .inl f_20)), (a_38, .inl (cy 1, 9, .inl f_21)), (a_39, .inl (cy 1, 3, .inl f_22)), (a_40, .inl (cy 1, 210, .inl f_23)), (a_41, .inl (cy 1, 6, .inl f_24)), (a_42, .inl (cy 1, 48, .inl f_25)), (a_43, .inl (cy 1, 30, .inl f_26)), (a_44, .inl (cy 1, 30, .inl f_27)), (a_45, .inl (cy 1, 30, .inl f_28)), (a_46, .inl (cy 1, 30, .inl f_29)), (a_26, .inr (0, [.int i_25, .int i_26, .int i_27, .int i_28, .int i_29, .int i_30, .int i_31, .int i_32, .ref a_47, .ref a_48, .ref a_49, .ref a_50, .ref a_51, .ref a_52, .ref a_53, .ref a_54, .ref a_55, .ref a_56])), (a_47, .inl (cy 1, 9, .inl f_30)), (a_48, .inl (cy 1, 9, .inl f_31)), (a_49, .inl (cy 1, 3, .inl f_32)), (a_50, .inl (cy 1, 210, .inl f_33)), (a_51, .inl (cy 1, 6, .inl f_34)), (a_52, .inl (cy 1, 48, .inl f_35)), (a_53, .inl (cy 1, 30, .inl f_36)), (a_54, .inl (cy 1, 30, .inl f_37)), (a_55, .inl (cy 1, 30, .inl f_38)), (a_56, .inl (cy 1, 30, .inl f_39)), (a_5, .inl (cy 3, 3, .inl f_40))] [.ref a_0, .int i_0] (fun u : Int32 × Int32 × Int32 × Int32 × Int32 × Int32 × Int32 × Int32 × (Nat → Int32) × (Nat → Int32) × (Nat → Int32) × (Nat → Int32) × (Nat → Int32) × (Nat → Int32) × (Nat → Int32) × (Nat → Int32) × (Nat → Int32) × (Nat → Int32) × Int32 × Int32 × Int32 × Int32 × Int32 × Int32 × Int32 × Int32 × (Nat → Int32) × (Nat → Int32) × (Nat → Int32) × (Nat → Int32) × (Nat → Int32) × (Nat → Int32) × (Nat → Int32) × (Nat → Int32) × (Nat → Int32) × (Nat → Int32) × Int32 × Int32 × Int32 × Int32 × Int32 × Int32 × Int32 × Int32 × (Nat → Int32) × (Nat → Int32) × (Nat → Int32) × (Nat → Int32) × (Nat → Int32) × (Nat → Int32) × (Nat → Int32) × (Nat → Int32) × (Nat → Int32) × (Nat → Int32) × (Nat → Int32) => [(a_0, .inr (11, [.ref a_1, .ref a_2, .ref a_3, .ref a_4, .ref a_5, .ref a_6, .ref a_7, .ref a_8, .ref a_9, .ref a_10, .ref a_11])), (a_3, .inr (10, [.ref a_12, .ref a_13])), (a_12, .inr (0, [.int i_1, .int i_2, .int i_3, .int i_4, .int i_5, .int i_6, .int i_7, .int i_8, .ref a_14, .ref a_15, .ref a_16, .ref a_17, .ref a_18, .ref a_19, .ref a_20, .ref a_21, .ref a_22, .ref a_23])), (a_14, .inl (cy 1, 9, .inl f_0)), (a_15, .inl (cy 1, 9, .inl f_1)), (a_16, .inl (cy 1, 3, .inl f_2)), (a_17, .inl (cy 1, 210, .inl f_3)), (a_18, .inl (cy 1, 6, .inl f_4)), (a_19, .inl (cy 1, 48, .inl f_5)), (a_20, .inl (cy 1, 30, .inl f_6)), (a_21, .inl (cy 1, 30, .inl f_7)), (a_22, .inl (cy 1, 30, .inl f_8)), (a_23, .inl (cy 1, 30, .inl f_9)), (a_4, .inl (cy 4, 3, .inr (.inr (.inr (.inr (va_up (va_up (va_up (fun _ => none) 0 (some a_24)) 1 (some a_25)) 2 (some a_26))))))), (a_24, .inr (0, [.int u.1, .int u.2.1, .int u.2.2.1, .int u.2.2.2.1, .int u.2.2.2.2.1, .int u.2.2.2.2.2.1, .int u.2.2.2.2.2.2.1, .int u.2.2.2.2.2.2.2.1, .ref a_27, .ref a_28, .ref a_29, .ref a_30, .ref a_31, .ref a_32, .ref a_33, .ref a_34, .ref a_35, .ref a_36])), (a_27, .inl (cy 1, 9, .inl u.2.2.2.2.2.2.2.2.1)), (a_28, .inl (cy 1, 9, .inl u.2.2.2.2.2.2.2.2.2.1)), (a_29, .inl (cy 1, 3, .inl u.2.2.2.2.2.2.2.2.2.2.1)), (a_30, .inl (cy 1, 210, .inl u.2.2.2.2.2.2.2.2.2.2.2.1)), (a_31, .inl (cy 1, 6, .inl u.2.2.2.2.2.2.2.2.2.2.2.2.1)), (a_32, .inl (cy 1, 48, .inl u.2.2.2.2.2.2.2.2.2.2.2.2.2.1)), (a_33, .inl (cy 1, 30, .inl u.2.2.2.2.2.2.2.2.2.2.2.2.2.2.1)), (a_34, .inl (cy 1, 30, .inl u.2.2.2.2.2.2.2.2.2.2.2.2.2.2.2.1)), (a_35, .inl (cy 1, 30, .inl u.2.2.2.2.2.2.2.2.2.2.2.2.2.2.2.2.1)), (a_36, .inl (cy 1, 30, .inl u.2.2.2.2.2.2.2.2.2.2.2.2.2.2.2.2.2.1)), (a_25, .inr (0, [.int u.2.2.2.2.2.2.2.2.2.2.2.2.2.2.2.2.2.2.1, .int u.2.2.2.2.2.2.2.2.2.2.2.2.2.2.2.2.2.2.2.1, .int u.2.2.2.2.2.2.2.2.2.2.2.2.2.2.2.2.2.2.2.2.1, .int u.2.2.2.2.2.2.2.2.2.2.2.2.2.2.2.2.2.2.2.2.2.1, .int u.2.2.2.2.2.2.2.2.2.2.2.2.2.2.2.2.2.2.2.2.2.2.1, .int u.2.2.2.2.2.2.2.2.2.2.2.2.2.2.2.2.2.2.2.2.2.2.2.1, .int u.2.2.2.2.2.2.2.2.2.2.2.2.2.2.2.2.2.2.2.2.2.2.2.2.1, .int u.2.2.2.2.2.2.2.2.2.2.2.2.2.2.2.2.2.2.2.2.2.2.2.2.2.1, .ref a_37, .ref a_38, .ref a_39, .ref a_40, .ref a_41, .ref a_42, .ref a_43, .ref a_44, .ref a_45, .ref a_46])), (a_37, .inl (cy 1, 9, .inl u.2.2.2.2.2.2.2.2.2.2.2.2.2.2.2.2.2.2.2.2.2.2.2.2.2.2.1)), (a_38, .inl (cy 1, 9, .inl u.2.2.2.2.2.2.2.2.2.2.2.2.2.2.2.2.2.2.2.2.2.2.2.2.2.2.2.1)), (a_39, .inl (cy 1, 3, .inl u.2.2.2.2.2.2.2.2.2.2.2.2.2.2.2.2.2.2.2.2.2.2.2.2.2.2.2.2.1)), (a_40, .inl (cy 1, 210, .inl u.2.2.2.2.2.2.2.2.2.2.2.2.2.2.2.2.2.2.2.2.2.2.2.2.2.2.2.2.2.1)), (a_41, .inl (cy 1, 6, .inl u.2.2.2.2.2.2.2.2.2.2.2.2.2.2.2.2.2.2.2.2.2.2.2.2.2.2.2.2.2.2.1)), (a_42, .inl (cy 1, 48, .inl u.2.2.2.2.2.2.2.2.2.2.2.2.2.2.2.2.2.2.2.2.2.2.2.2.2.2.2.2.2.2.2.1)), (a_43, .inl (cy 1, 30, .inl u.2.2.2.2.2.2.2.2.2.2.2.2.2.2.2.2.2.2.2.2.2.2.2.2.2.2.2.2.2.2.2.2.1)), (a_44, .inl (cy 1, 30, .inl u.2.2.2.2.2.2.2.2.2.2.2.2.2.2.2.2.2.2.2.2.2.2.2.2.2.2.2.2.2.2.2.2.2.1)), (a_45, .inl (cy 1, 30, .inl u.2.2.2.2.2.2.2.2.2.2.2.2.2.2.2.2.2.2.2.2.2.2.2.2.2.2.2.2.2.2.2.2.2.2.1)), (a_46, .inl (cy 1, 30, .inl u.2.2.2.2.2.2.2.2.2.2.2.2.2.2.2.2.2.2.2.2.2.2.2.2.2.2.2.2.2.2.2.2.2.2.2.1)), (a_26, .inr (0, [.int u.2.2.2.2.2.2.2.2.2.2.2.2.2.2.2.2.2.2.2.2.2.2.2.2.2.2.2.2.2.2.2.2.2.2.2.2.1, .int u.2.2.2.2.2.2.2.2.2.2.2.2.2.2.2.2.2.2.2.2.2.2.2.2.2.2.2.2.2.2.2.2.2.2.2.2.2.1, .int u.2.2.2.2.2.2.2.2.2.2.2.2.2.2.2.2.2.2.2.2.2.2.2.2.2.2.2.2.2.2.2.2.2.2.2.2.2.2.1, .int u.2.2.2.2.2.2.2.2.2.2.2.2.2.2.2.2.2.2.2.2.2.2.2.2.2.2.2.2.2.2.2.2.2.2.2.2.2.2.2.1, .int u.2.2.2.2.2.2.2.2.2.2.2.2.2.2.2.2.2.2.2.2.2.2.2.2.2.2.2.2.2.2.2.2.2.2.2.2.2.2.2.2.1, .int u.2.2.2.2.2.2.2.2.2.2.2.2.2.2.2.2.2.2.2.2.2.2.2.2.2.2.2.2.2.2.2.2.2.2.2.2.2.2.2.2.2.1, .int u.2.2.2.2.2.2.2.2.2.2.2.2.2.2.2.2.2.2.2.2.2.2.2.2.2.2.2.2.2.2.2.2.2.2.2.2.2.2.2.2.2.2.1, .int u.2.2.2.2.2.2.2.2.2.2.2.2.2.2.2.2.2.2.2.2.2.2.2.2.2.2.2.2.2.2.2.2.2.2.2.2.2.2.2.2.2.2.2.1, .ref a_47, .ref a_48, .ref a_49, .ref a_50, .ref a_51, .ref a_52, .ref a_53, .ref a_54, .ref a_55, .ref a_56])), (a_47, .inl (cy 1, 9, .inl u.2.2.2.2.2.2.2.2.2.2.2.2.2.2.2.2.2.2.2.2.2.2.2.2.2.2.2.2.2.2.2.2.2.2.2.2.2.2.2.2.2.2.2.2.1)), (a_48, .inl (cy 1, 9, .inl u.2.2.2.2.2.2.2.2.2.2.2.2.2.2.2.2.2.2.2.2.2.2.2.2.2.2.2.2.2.2.2.2.2.2.2.2.2.2.2.2.2.2.2.2.2.1)), (a_49, .inl (cy 1, 3, .inl u.2.2.2.2.2.2.2.2.2.2.2.2.2.2.2.2.2.2.2.2.2.2.2.2.2.2.2.2.2.2.2.2.2.2.2.2.2.2.2.2.2.2.2.2.2.2.1)), (a_50, .inl (cy 1, 210, .inl u.2.2.2.2.2.2.2.2.2.2.2.2.2.2.2.2.2.2.2.2.2.2.2.2.2.2.2.2.2.2.2.2.2.2.2.2.2.2.2.2.2.2.2.2.2.2.2.1)), (a_51, .inl (cy 1, 6, .inl u.2.2.2.2.2.2.2.2.2.2.2.2.2.2.2.2.2.2.2.2.2.2.2.2.2.2.2.2.2.2.2.2.2.2.2.2.2.2.2.2.2.2.2.2.2.2.2.2.1)), (a_52, .inl (cy 1, 48, .inl u.2.2.2.2.2.2.2.2.2.2.2.2.2.2.2.2.2.2.2.2.2.2.2.2.2.2.2.2.2.2.2.2.2.2.2.2.2.2.2.2.2.2.2.2.2.2.2.2.2.1)), (a_53, .inl (cy 1, 30, .inl u.2.2.2.2.2.2.2.2.2.2.2.2.2.2.2.2.2.2.2.2.2.2.2.2.2.2.2.2.2.2.2.2.2.2.2.2.2.2.2.2.2.2.2.2.2.2.2.2.2.2.1)), (a_54, .inl (cy 1, 30, .inl u.2.2.2.2.2.2.2.2.2.2.2.2.2.2.2.2.2.2.2.2.2.2.2.2.2.2.2.2.2.2.2.2.2.2.2.2.2.2.2.2.2.2.2.2.2.2.2.2.2.2.2.1)), (a_55, .inl (cy 1, 30, .inl u.2.2.2.2.2.2.2.2.2.2.2.2.2.2.2.2.2.2.2.2.2.2.2.2.2.2.2.2.2.2.2.2.2.2.2.2.2.2.2.2.2.2.2.2.2.2.2.2.2.2.2.2.1)), (a_56, .inl (cy 1, 30, .inl u.2.2.2.2.2.2.2.2.2.2.2.2.2.2.2.2.2.2.2.2.2.2.2.2.2.2.2.2.2.2.2.2.2.2.2.2.2.2.2.2.2.2.2.2.2.2.2.2.2.2.2.2.2.1)), (a_5, .inl (cy 3, 3, .inl u.2.2.2.2.2.2.2.2.2.2.2.2.2.2.2.2.2.2.2.2.2.2.2.2.2.2.2.2.2.2.2.2.2.2.2.2.2.2.2.2.2.2.2.2.2.2.2.2.2.2.2.2.2.2))]) (fun (r : Int32) (u : Int32 × Int32 × Int32 × Int32 × Int32 × Int32 × Int32 × Int32 × (Nat → Int32) × (Nat → Int32) × (Nat → Int32) × (Nat → Int32) × (Nat → Int32) × (Nat → Int32) × (Nat → Int32) × (Nat → Int32) × (Nat → Int32) × (Nat → Int32) × Int32 × Int32 × Int32 × Int32 × Int32 × Int32 × Int32 × Int32 × (Nat → Int32) × (Nat → Int32) × (Nat → Int32) × (Nat → Int32) × (Nat → Int32) × (Nat → Int32) × (Nat → Int32) × (Nat → Int32) × (Nat → Int32) × (Nat → Int32) × Int32 × Int32 × Int32 × Int32 × Int32 × Int32 × Int32 × Int32 × (Nat → Int32) × (Nat → Int32) × (Nat → Int32) × (Nat → Int32) × (Nat → Int32) × (Nat → Int32) × (Nat → Int32) × (Nat → Int32) × (Nat → Int32) × (Nat → Int32) × (Nat → Int32)) => mm_rg u.2.1 0 10 ∧ mm_rg u.2.2.1 0 99 ∧ mm_rg u.2.2.2.1 0 99 ∧ mm_rg u.2.2.2.2.1 0 9 ∧ mm_rg u.2.2.2.2.2.1 0 3 ∧ mm_rg u.2.2.2.2.2.2.1 0 6 ∧ mm_rg u.2.2.2.2.2.2.2.1 0 30 ∧ mm_ar u.2.2.2.2.2.2.2.2.1 (-1) 4 ∧ mm_ar u.2.2.2.2.2.2.2.2.2.1 0 99 ∧ mm_ar u.2.2.2.2.2.2.2.2.2.2.1 0 7 ∧ mm_ar u.2.2.2.2.2.2.2.2.2.2.2.1 0 9 ∧ mm_ar u.2.2.2.2.2.2.2.2.2.2.2.2.1 0 8 ∧ mm_ar u.2.2.2.2.2.2.2.2.2.2.2.2.2.1 0 9 ∧ mm_ar u.2.2.2.2.2.2.2.2.2.2.2.2.2.2.1 0 9 ∧ mm_ar u.2.2.2.2.2.2.2.2.2.2.2.2.2.2.2.1 (-1) 2 ∧ mm_ar u.2.2.2.2.2.2.2.2.2.2.2.2.2.2.2.2.1 0 99 ∧ mm_ar u.2.2.2.2.2.2.2.2.2.2.2.2.2.2.2.2.2.1 0 9 ∧ mm_rg u.2.2.2.2.2.2.2.2.2.2.2.2.2.2.2.2.2.2.2.1 0 10 ∧ mm_rg u.2.2.2.2.2.2.2.2.2.2.2.2.2.2.2.2.2.2.2.2.1 0 99 ∧ mm_rg u.2.2.2.2.2.2.2.2.2.2.2.2.2.2.2.2.2.2.2.2.2.1 0 99 ∧ mm_rg u.2.2.2.2.2.2.2.2.2.2.2.2.2.2.2.2.2.2.2.2.2.2.1 0 9 ∧ mm_rg u.2.2.2.2.2.2.2.2.2.2.2.2.2.2.2.2.2.2.2.2.2.2.2.1 0 3 ∧ mm_rg u.2.2.2.2.2.2.2.2.2.2.2.2.2.2.2.2.2.2.2.2.2.2.2.2.1 0 6 ∧ mm_rg u.2.2.2.2.2.2.2.2.2.2.2.2.2.2.2.2.2.2.2.2.2.2.2.2.2.1 0 30 ∧ mm_ar u.2.2.2.2.2.2.2.2.2.2.2.2.2.2.2.2.2.2.2.2.2.2.2.2.2.2.1 (-1) 4 ∧ mm_ar u.2.2.2.2.2.2.2.2.2.2.2.2.2.2.2.2.2.2.2.2.2.2.2.2.2.2.2.1 0 99 ∧ mm_ar u.2.2.2.2.2.2.2.2.2.2.2.2.2.2.2.2.2.2.2.2.2.2.2.2.2.2.2.2.1 0 7 ∧ mm_ar u.2.2.2.2.2.2.2.2.2.2.2.2.2.2.2.2.2.2.2.2.2.2.2.2.2.2.2.2.2.1 0 9 ∧ mm_ar u.2.2.2.2.2.2.2.2.2.2.2.2.2.2.2.2.2.2.2.2.2.2.2.2.2.2.2.2.2.2.1 0 8 ∧ mm_ar u.2.2.2.2.2.2.2.2.2.2.2.2.2.2.2.2.2.2.2.2.2.2.2.2.2.2.2.2.2.2.2.1 0 9 ∧ mm_ar u.2.2.2.2.2.2.2.2.2.2.2.2.2.2.2.2.2.2.2.2.2.2.2.2.2.2.2.2.2.2.2.2.1 0 9 ∧ mm_ar u.2.2.2.2.2.2.2.2.2.2.2.2.2.2.2.2.2.2.2.2.2.2.2.2.2.2.2.2.2.2.2.2.2.1 (-1) 2 ∧ mm_ar u.2.2.2.2.2.2.2.2.2.2.2.2.2.2.2.2.2.2.2.2.2.2.2.2.2.2.2.2.2.2.2.2.2.2.1 0 99 ∧ mm_ar u.2.2.2.2.2.2.2.2.2.2.2.2.2.2.2.2.2.2.2.2.2.2.2.2.2.2.2.2.2.2.2.2.2.2.2.1 0 9 ∧ mm_rg u.2.2.2.2.2.2.2.2.2.2.2.2.2.2.2.2.2.2.2.2.2.2.2.2.2.2.2.2.2.2.2.2.2.2.2.2.2.1 0 10 ∧ mm_rg u.2.2.2.2.2.2.2.2.2.2.2.2.2.2.2.2.2.2.2.2.2.2.2.2.2.2.2.2.2.2.2.2.2.2.2.2.2.2.1 0 99 ∧ mm_rg u.2.2.2.2.2.2.2.2.2.2.2.2.2.2.2.2.2.2.2.2.2.2.2.2.2.2.2.2.2.2.2.2.2.2.2.2.2.2.2.1 0 99 ∧ mm_rg u.2.2.2.2.2.2.2.2.2.2.2.2.2.2.2.2.2.2.2.2.2.2.2.2.2.2.2.2.2.2.2.2.2.2.2.2.2.2.2.2.1 0 9 ∧ mm_rg u.2.2.2.2.2.2.2.2.2.2.2.2.2.2.2.2.2.2.2.2.2.2.2.2.2.2.2.2.2.2.2.2.2.2.2.2.2.2.2.2.2.1 0 3 ∧ mm_rg u.2.2.2.2.2.2.2.2.2.2.2.2.2.2.2.2.2.2.2.2.2.2.2.2.2.2.2.2.2.2.2.2.2.2.2.2.2.2.2.2.2.2.1 0 6 ∧ mm_rg u.2.2.2.2.2.2.2.2.2.2.2.2.2.2.2.2.2.2.2.2.2.2.2.2.2.2.2.2.2.2.2.2.2.2.2.2.2.2.2.2.2.2.2.1 0 30 ∧ mm_ar u.2.2.2.2.2.2.2.2.2.2.2.2.2.2.2.2.2.2.2.2.2.2.2.2.2.2.2.2.2.2.2.2.2.2.2.2.2.2.2.2.2.2.2.2.1 (-1) 4 ∧ mm_ar u.2.2.2.2.2.2.2.2.2.2.2.2.2.2.2.2.2.2.2.2.2.2.2.2.2.2.2.2.2.2.2.2.2.2.2.2.2.2.2.2.2.2.2.2.2.1 0 99 ∧ mm_ar u.2.2.2.2.2.2.2.2.2.2.2.2.2.2.2.2.2.2.2.2.2.2.2.2.2.2.2.2.2.2.2.2.2.2.2.2.2.2.2.2.2.2.2.2.2.2.1 0 7 ∧ mm_ar u.2.2.2.2.2.2.2.2.2.2.2.2.2.2.2.2.2.2.2.2.2.2.2.2.2.2.2.2.2.2.2.2.2.2.2.2.2.2.2.2.2.2.2.2.2.2.2.1 0 9 ∧ mm_ar u.2.2.2.2.2.2.2.2.2.2.2.2.2.2.2.2.2.2.2.2.2.2.2.2.2.2.2.2.2.2.2.2.2.2.2.2.2.2.2.2.2.2.2.2.2.2.2.2.1 0 8 ∧ mm_ar u.2.2.2.2.2.2.2.2.2.2.2.2.2.2.2.2.2.2.2.2.2.2.2.2.2.2.2.2.2.2.2.2.2.2.2.2.2.2.2.2.2.2.2.2.2.2.2.2.2.1 0 9 ∧ mm_ar u.2.2.2.2.2.2.2.2.2.2.2.2.2.2.2.2.2.2.2.2.2.2.2.2.2.2.2.2.2.2.2.2.2.2.2.2.2.2.2.2.2.2.2.2.2.2.2.2.2.2.1 0 9 ∧ mm_ar u.2.2.2.2.2.2.2.2.2.2.2.2.2.2.2.2.2.2.2.2.2.2.2.2.2.2.2.2.2.2.2.2.2.2.2.2.2.2.2.2.2.2.2.2.2.2.2.2.2.2.2.1 (-1) 2 ∧ mm_ar u.2.2.2.2.2.2.2.2.2.2.2.2.2.2.2.2.2.2.2.2.2.2.2.2.2.2.2.2.2.2.2.2.2.2.2.2.2.2.2.2.2.2.2.2.2.2.2.2.2.2.2.2.1 0 99 ∧ mm_ar u.2.2.2.2.2.2.2.2.2.2.2.2.2.2.2.2.2.2.2.2.2.2.2.2.2.2.2.2.2.2.2.2.2.2.2.2.2.2.2.2.2.2.2.2.2.2.2.2.2.2.2.2.2.1 0 9 ∧ mm_ar u.2.2.2.2.2.2.2.2.2.2.2.2.2.2.2.2.2.2.2.2.2.2.2.2.2.2.2.2.2.2.2.2.2.2.2.2.2.2.2.2.2.2.2.2.2.2.2.2.2.2.2.2.2.2 0 1 ∧ mm_act u.2.2.2.2.2.2.2.2.2.2.2.2.2.2.2.1 u.2.2.2.2.2.2.2.2.2.2.2.2.2.2.2.2.1 ∧ mm_act u.2.2.2.2.2.2.2.2.2.2.2.2.2.2.2.2.2.2.2.2.2.2.2.2.2.2.2.2.2.2.2.2.2.1 u.2.2.2.2.2.2.2.2.2.2.2.2.2.2.2.2.2.2.2.2.2.2.2.2.2.2.2.2.2.2.2.2.2.2.1 ∧ mm_act u.2.2.2.2.2.2.2.2.2.2.2.2.2.2.2.2.2.2.2.2.2.2.2.2.2.2.2.2.2.2.2.2.2.2.2.2.2.2.2.2.2.2.2.2.2.2.2.2.2.2.2.1 u.2.2.2.2.2.2.2.2.2.2.2.2.2.2.2.2.2.2.2.2.2.2.2.2.2.2.2.2.2.2.2.2.2.2.2.2.2.2.2.2.2.2.2.2.2.2.2.2.2.2.2.2.1 ∧ mm_rg r (-2) 0) 0 0 := by
  refine mm_begin (lv := [(0, .ref a_0), (1, .int i_0)]) (by decide) (Nat.le_of_ble_eq_true rfl) rfl ?_
  intro p e s m below meth c A ls R args Q H locs hRe hQ hAe hx hb hr hlocks hml hown hnm hts hsz hA hS hP hK hD hZ hl
  have hRf : R.frames = 3 := by rw [hRe]
  have hRl : R.locals = 106 := by rw [hRe]
  have hRc : R.cells = 0 := by rw [hRe]
  have hRs : R.slots = 0 := by rw [hRe]
  refine lv_iload_n hx hb dX11_image_0 rfl (lv_at hl 1 rfl) ?_
  refine lv_if_lt (tgt := 9) hx hb dX11_image_1 (by decide) (fun c1 => ?_) (fun c1 => ?_)
  · have q2 := mm_ltL (h := (-1)) (mm_lt c1) (mm_top i_0) mm_k0 (by decide)
    refine lv_bipush (v := (-2)) hx hb dX11_image_9 (by decide) ?_
    subst hAe
    rw [hQ]
    exact W.iret (v := (-2)) hx hb hr (fun t ht hW => ⟨⟨(-2), (i_9, i_10, i_11, i_12, i_13, i_14, i_15, i_16, f_10, f_11, f_12, f_13, f_14, f_15, f_16, f_17, f_18, f_19, i_17, i_18, i_19, i_20, i_21, i_22, i_23, i_24, f_20, f_21, f_22, f_23, f_24, f_25, f_26, f_27, f_28, f_29, i_25, i_26, i_27, i_28, i_29, i_30, i_31, i_32, f_30, f_31, f_32, f_33, f_34, f_35, f_36, f_37, f_38, f_39, f_40), rfl, ⟨h17, h18, h19, h20, h21, h22, h23, h24, h25, h26, h27, h28, h29, h30, h31, h32, h33, h34, h35, h36, h37, h38, h39, h40, h41, h42, h43, h44, h45, h46, h47, h48, h49, h50, h51, h52, h53, h54, h55, h56, h57, h58, h59, h60, h61, h62, h63, h64, h65, h66, h67, h68, h70, h71, h72, (mm_wk mm_km2 (by decide))⟩, by rw [ht]; exact hP, hK.warm hW, hD⟩, hS.F ht⟩) hS.2.2 dX11_image_11
  · have q3 := mm_leR (mm_nlt c1) mm_k0 (mm_top i_0)
    refine lv_iload_n hx hb dX11_image_4 rfl (lv_at hl 1 rfl) ?_
    refine lv_iconst (v := 3) hx hb dX11_image_5 (by decide) ?_
    refine lv_icmp_lt (tgt := 12) hx hb dX11_image_6 (by decide) (fun c4 => ?_) (fun c4 => ?_)
    · have q5 := mm_ltL (h := 2) (mm_lt c4) q3 mm_k3 (by decide)
      refine lv_aload_n hx hb dX11_image_12 rfl (lv_at hl 0 rfl) ?_
      refine va_get (D := G) (ci := 11) (v := .ref a_4) (C := RX11) (T := TX11) (N := 11) hx hb hts (mm_i inlX11) hown hK.1 hP 0 rfl rfl 3 (by decide) (mm_h hts mm_w26) (fun _ h9 => h9) rfl dX11_image_13 ?_
      refine lv_iload_n hx hb dX11_image_16 rfl (lv_at hl 1 rfl) ?_
      refine va_aldq hx hb hK.1 hP 13 4 rfl rfl (mm_in q5 (by decide)) dX11_image_17 ?_
      have c6 := mm_cases3 q5
      rcases c6 with rfl | rfl | rfl
      · refine W.eq (g2 := F0 m 18 ls [.ref a_24]) rfl ?_
        refine lv_aload_n hx hb dX11_image_18 rfl (lv_at hl 0 rfl) ?_
        refine va_get (D := G) (ci := 11) (v := .ref a_3) (C := RX11) (T := TX11) (N := 11) hx hb hts (mm_i inlX11) hown hK.1 hP 0 rfl rfl 2 (by decide) (mm_h hts mm_w24) (fun _ h9 => h9) rfl dX11_image_19 ?_
        refine va_get (D := G) (ci := 10) (v := .ref a_12) (C := RX10) (T := TX10) (N := 2) hx hb hts (mm_i inlX10) hown hK.1 hP 1 rfl rfl 0 (by decide) (mm_h hts mm_w199) (fun _ h9 => h9) rfl dX11_image_22 ?_
        refine mm_finv (va_runV (As := [.ref a_12]) (rest := []) ⟨hx, hb, hml, hown, hts⟩ (K331_X0_copyFrom l G cy H.size a_24 a_12 i_1 i_2 i_3 i_4 i_5 i_6 i_7 i_8 a_14 a_15 a_16 a_17 a_18 a_19 a_20 a_21 a_22 a_23 f_0 f_1 f_2 f_3 f_4 f_5 f_6 f_7 f_8 f_9 i_9 i_10 i_11 i_12 i_13 i_14 i_15 i_16 a_27 a_28 a_29 a_30 a_31 a_32 a_33 a_34 a_35 a_36 f_10 f_11 f_12 f_13 f_14 f_15 f_16 f_17 f_18 f_19 h0 h1 h2 h3 h4 h5 h6 h7 h8 h9 h10 h11 h12 h13 h14 h15 h16 h17 h18 h19 h20 h21 h22 h23 h24 h25 h26 h27 h28 h29 h30 h31 h32 h33 h69 h70) (cwV 1 hts (mm_gV mm_w1659 mm_w378 mm_w379 mm_w28 mm_w380) rfl rfl rfl hd_X0_copyFrom ⟨by rw [hRf]; exact Nat.le_of_ble_eq_true rfl, by rw [hRl]; exact Nat.le_of_ble_eq_true rfl⟩) (mm_preV hK hZ hS hA hP hD [2, 3, 4, 5, 6, 7, 8, 9, 10, 11, 12, 14, 15, 16, 17, 18, 19, 20, 21, 22, 23, 24] rfl rfl 14 rfl rfl rfl) rfl rfl hl.1 rfl (lv_room (Nat.le_of_ble_eq_true rfl)) dX11_image_25 ⟨by rw [hRc]; exact Nat.le_of_ble_eq_true rfl, by rw [hRs]; exact Nat.le_of_ble_eq_true rfl⟩) hP hD hS hA (fun u : Unit => [(a_0, .inr (11, [.ref a_1, .ref a_2, .ref a_3, .ref a_4, .ref a_5, .ref a_6, .ref a_7, .ref a_8, .ref a_9, .ref a_10, .ref a_11])), (a_3, .inr (10, [.ref a_12, .ref a_13])), (a_12, .inr (0, [.int i_1, .int i_2, .int i_3, .int i_4, .int i_5, .int i_6, .int i_7, .int i_8, .ref a_14, .ref a_15, .ref a_16, .ref a_17, .ref a_18, .ref a_19, .ref a_20, .ref a_21, .ref a_22, .ref a_23])), (a_14, .inl (cy 1, 9, .inl f_0)), (a_15, .inl (cy 1, 9, .inl f_1)), (a_16, .inl (cy 1, 3, .inl f_2)), (a_17, .inl (cy 1, 210, .inl f_3)), (a_18, .inl (cy 1, 6, .inl f_4)), (a_19, .inl (cy 1, 48, .inl f_5)), (a_20, .inl (cy 1, 30, .inl f_6)), (a_21, .inl (cy 1, 30, .inl f_7)), (a_22, .inl (cy 1, 30, .inl f_8)), (a_23, .inl (cy 1, 30, .inl f_9)), (a_4, .inl (cy 4, 3, .inr (.inr (.inr (.inr (va_up (va_up (va_up (fun _ => none) 0 (some a_24)) 1 (some a_25)) 2 (some a_26))))))), (a_24, .inr (0, [.int i_1, .int i_2, .int i_3, .int i_4, .int i_5, .int i_6, .int i_7, .int i_8, .ref a_27, .ref a_28, .ref a_29, .ref a_30, .ref a_31, .ref a_32, .ref a_33, .ref a_34, .ref a_35, .ref a_36])), (a_27, .inl (cy 1, 9, .inl f_0)), (a_28, .inl (cy 1, 9, .inl f_1)), (a_29, .inl (cy 1, 3, .inl f_2)), (a_30, .inl (cy 1, 210, .inl f_3)), (a_31, .inl (cy 1, 6, .inl f_4)), (a_32, .inl (cy 1, 48, .inl f_5)), (a_33, .inl (cy 1, 30, .inl f_6)), (a_34, .inl (cy 1, 30, .inl f_7)), (a_35, .inl (cy 1, 30, .inl f_8)), (a_36, .inl (cy 1, 30, .inl f_9)), (a_25, .inr (0, [.int i_17, .int i_18, .int i_19, .int i_20, .int i_21, .int i_22, .int i_23, .int i_24, .ref a_37, .ref a_38, .ref a_39, .ref a_40, .ref a_41, .ref a_42, .ref a_43, .ref a_44, .ref a_45, .ref a_46])), (a_37, .inl (cy 1, 9, .inl f_20)), (a_38, .inl (cy 1, 9, .inl f_21)), (a_39, .inl (cy 1, 3, .inl f_22)), (a_40, .inl (cy 1, 210, .inl f_23)), (a_41, .inl (cy 1, 6, .inl f_24)), (a_42, .inl (cy 1, 48, .inl f_25)), (a_43, .inl (cy 1, 30, .inl f_26)), (a_44, .inl (cy 1, 30, .inl f_27)), (a_45, .inl (cy 1, 30, .inl f_28)), (a_46, .inl (cy 1, 30, .inl f_29)), (a_26, .inr (0, [.int i_25, .int i_26, .int i_27, .int i_28, .int i_29, .int i_30, .int i_31, .int i_32, .ref a_47, .ref a_48, .ref a_49, .ref a_50, .ref a_51, .ref a_52, .ref a_53, .ref a_54, .ref a_55, .ref a_56])), (a_47, .inl (cy 1, 9, .inl f_30)), (a_48, .inl (cy 1, 9, .inl f_31)), (a_49, .inl (cy 1, 3, .inl f_32)), (a_50, .inl (cy 1, 210, .inl f_33)), (a_51, .inl (cy 1, 6, .inl f_34)), (a_52, .inl (cy 1, 48, .inl f_35)), (a_53, .inl (cy 1, 30, .inl f_36)), (a_54, .inl (cy 1, 30, .inl f_37)), (a_55, .inl (cy 1, 30, .inl f_38)), (a_56, .inl (cy 1, 30, .inl f_39)), (a_5, .inl (cy 3, 3, .inl f_40))]) [2, 3, 4, 5, 6, 7, 8, 9, 10, 11, 12, 14, 15, 16, 17, 18, 19, 20, 21, 22, 23, 24] [0, 1, 13, 25, 26, 27, 28, 29, 30, 31, 32, 33, 34, 35, 36, 37, 38, 39, 40, 41, 42, 43, 44, 45, 46, 47] (n := 48) (fun _ => rfl) (by decide +kernel) (by decide +kernel) rfl (fun _ => rfl) (wr := [(a_0, .inr (11, [.ref a_1, .ref a_2, .ref a_3, .ref a_4, .ref a_5, .ref a_6, .ref a_7, .ref a_8, .ref a_9, .ref a_10, .ref a_11])), (a_3, .inr (10, [.ref a_12, .ref a_13])), (a_4, .inl (cy 4, 3, .inr (.inr (.inr (.inr (va_up (va_up (va_up (fun _ => none) 0 (some a_24)) 1 (some a_25)) 2 (some a_26))))))), (a_25, .inr (0, [.int i_17, .int i_18, .int i_19, .int i_20, .int i_21, .int i_22, .int i_23, .int i_24, .ref a_37, .ref a_38, .ref a_39, .ref a_40, .ref a_41, .ref a_42, .ref a_43, .ref a_44, .ref a_45, .ref a_46])), (a_37, .inl (cy 1, 9, .inl f_20)), (a_38, .inl (cy 1, 9, .inl f_21)), (a_39, .inl (cy 1, 3, .inl f_22)), (a_40, .inl (cy 1, 210, .inl f_23)), (a_41, .inl (cy 1, 6, .inl f_24)), (a_42, .inl (cy 1, 48, .inl f_25)), (a_43, .inl (cy 1, 30, .inl f_26)), (a_44, .inl (cy 1, 30, .inl f_27)), (a_45, .inl (cy 1, 30, .inl f_28)), (a_46, .inl (cy 1, 30, .inl f_29)), (a_26, .inr (0, [.int i_25, .int i_26, .int i_27, .int i_28, .int i_29, .int i_30, .int i_31, .int i_32, .ref a_47, .ref a_48, .ref a_49, .ref a_50, .ref a_51, .ref a_52, .ref a_53, .ref a_54, .ref a_55, .ref a_56])), (a_47, .inl (cy 1, 9, .inl f_30)), (a_48, .inl (cy 1, 9, .inl f_31)), (a_49, .inl (cy 1, 3, .inl f_32)), (a_50, .inl (cy 1, 210, .inl f_33)), (a_51, .inl (cy 1, 6, .inl f_34)), (a_52, .inl (cy 1, 48, .inl f_35)), (a_53, .inl (cy 1, 30, .inl f_36)), (a_54, .inl (cy 1, 30, .inl f_37)), (a_55, .inl (cy 1, 30, .inl f_38)), (a_56, .inl (cy 1, 30, .inl f_39)), (a_5, .inl (cy 3, 3, .inl f_40))]) rfl (fun _ => rfl) (fun _ => rfl) ?_
        clear hP hD hS
        clear H locs
        intro _u H locs hw (hP : va_P G vwCl [(a_0, .inr (11, [.ref a_1, .ref a_2, .ref a_3, .ref a_4, .ref a_5, .ref a_6, .ref a_7, .ref a_8, .ref a_9, .ref a_10, .ref a_11])), (a_3, .inr (10, [.ref a_12, .ref a_13])), (a_12, .inr (0, [.int i_1, .int i_2, .int i_3, .int i_4, .int i_5, .int i_6, .int i_7, .int i_8, .ref a_14, .ref a_15, .ref a_16, .ref a_17, .ref a_18, .ref a_19, .ref a_20, .ref a_21, .ref a_22, .ref a_23])), (a_14, .inl (cy 1, 9, .inl f_0)), (a_15, .inl (cy 1, 9, .inl f_1)), (a_16, .inl (cy 1, 3, .inl f_2)), (a_17, .inl (cy 1, 210, .inl f_3)), (a_18, .inl (cy 1, 6, .inl f_4)), (a_19, .inl (cy 1, 48, .inl f_5)), (a_20, .inl (cy 1, 30, .inl f_6)), (a_21, .inl (cy 1, 30, .inl f_7)), (a_22, .inl (cy 1, 30, .inl f_8)), (a_23, .inl (cy 1, 30, .inl f_9)), (a_4, .inl (cy 4, 3, .inr (.inr (.inr (.inr (va_up (va_up (va_up (fun _ => none) 0 (some a_24)) 1 (some a_25)) 2 (some a_26))))))), (a_24, .inr (0, [.int i_1, .int i_2, .int i_3, .int i_4, .int i_5, .int i_6, .int i_7, .int i_8, .ref a_27, .ref a_28, .ref a_29, .ref a_30, .ref a_31, .ref a_32, .ref a_33, .ref a_34, .ref a_35, .ref a_36])), (a_27, .inl (cy 1, 9, .inl f_0)), (a_28, .inl (cy 1, 9, .inl f_1)), (a_29, .inl (cy 1, 3, .inl f_2)), (a_30, .inl (cy 1, 210, .inl f_3)), (a_31, .inl (cy 1, 6, .inl f_4)), (a_32, .inl (cy 1, 48, .inl f_5)), (a_33, .inl (cy 1, 30, .inl f_6)), (a_34, .inl (cy 1, 30, .inl f_7)), (a_35, .inl (cy 1, 30, .inl f_8)), (a_36, .inl (cy 1, 30, .inl f_9)), (a_25, .inr (0, [.int i_17, .int i_18, .int i_19, .int i_20, .int i_21, .int i_22, .int i_23, .int i_24, .ref a_37, .ref a_38, .ref a_39, .ref a_40, .ref a_41, .ref a_42, .ref a_43, .ref a_44, .ref a_45, .ref a_46])), (a_37, .inl (cy 1, 9, .inl f_20)), (a_38, .inl (cy 1, 9, .inl f_21)), (a_39, .inl (cy 1, 3, .inl f_22)), (a_40, .inl (cy 1, 210, .inl f_23)), (a_41, .inl (cy 1, 6, .inl f_24)), (a_42, .inl (cy 1, 48, .inl f_25)), (a_43, .inl (cy 1, 30, .inl f_26)), (a_44, .inl (cy 1, 30, .inl f_27)), (a_45, .inl (cy 1, 30, .inl f_28)), (a_46, .inl (cy 1, 30, .inl f_29)), (a_26, .inr (0, [.int i_25, .int i_26, .int i_27, .int i_28, .int i_29, .int i_30, .int i_31, .int i_32, .ref a_47, .ref a_48, .ref a_49, .ref a_50, .ref a_51, .ref a_52, .ref a_53, .ref a_54, .ref a_55, .ref a_56])), (a_47, .inl (cy 1, 9, .inl f_30)), (a_48, .inl (cy 1, 9, .inl f_31)), (a_49, .inl (cy 1, 3, .inl f_32)), (a_50, .inl (cy 1, 210, .inl f_33)), (a_51, .inl (cy 1, 6, .inl f_34)), (a_52, .inl (cy 1, 48, .inl f_35)), (a_53, .inl (cy 1, 30, .inl f_36)), (a_54, .inl (cy 1, 30, .inl f_37)), (a_55, .inl (cy 1, 30, .inl f_38)), (a_56, .inl (cy 1, 30, .inl f_39)), (a_5, .inl (cy 3, 3, .inl f_40))] H) (hD : va_D A [(a_0, .inr (11, [.ref a_1, .ref a_2, .ref a_3, .ref a_4, .ref a_5, .ref a_6, .ref a_7, .ref a_8, .ref a_9, .ref a_10, .ref a_11])), (a_3, .inr (10, [.ref a_12, .ref a_13])), (a_12, .inr (0, [.int i_1, .int i_2, .int i_3, .int i_4, .int i_5, .int i_6, .int i_7, .int i_8, .ref a_14, .ref a_15, .ref a_16, .ref a_17, .ref a_18, .ref a_19, .ref a_20, .ref a_21, .ref a_22, .ref a_23])), (a_14, .inl (cy 1, 9, .inl f_0)), (a_15, .inl (cy 1, 9, .inl f_1)), (a_16, .inl (cy 1, 3, .inl f_2)), (a_17, .inl (cy 1, 210, .inl f_3)), (a_18, .inl (cy 1, 6, .inl f_4)), (a_19, .inl (cy 1, 48, .inl f_5)), (a_20, .inl (cy 1, 30, .inl f_6)), (a_21, .inl (cy 1, 30, .inl f_7)), (a_22, .inl (cy 1, 30, .inl f_8)), (a_23, .inl (cy 1, 30, .inl f_9)), (a_4, .inl (cy 4, 3, .inr (.inr (.inr (.inr (va_up (va_up (va_up (fun _ => none) 0 (some a_24)) 1 (some a_25)) 2 (some a_26))))))), (a_24, .inr (0, [.int i_1, .int i_2, .int i_3, .int i_4, .int i_5, .int i_6, .int i_7, .int i_8, .ref a_27, .ref a_28, .ref a_29, .ref a_30, .ref a_31, .ref a_32, .ref a_33, .ref a_34, .ref a_35, .ref a_36])), (a_27, .inl (cy 1, 9, .inl f_0)), (a_28, .inl (cy 1, 9, .inl f_1)), (a_29, .inl (cy 1, 3, .inl f_2)), (a_30, .inl (cy 1, 210, .inl f_3)), (a_31, .inl (cy 1, 6, .inl f_4)), (a_32, .inl (cy 1, 48, .inl f_5)), (a_33, .inl (cy 1, 30, .inl f_6)), (a_34, .inl (cy 1, 30, .inl f_7)), (a_35, .inl (cy 1, 30, .inl f_8)), (a_36, .inl (cy 1, 30, .inl f_9)), (a_25, .inr (0, [.int i_17, .int i_18, .int i_19, .int i_20, .int i_21, .int i_22, .int i_23, .int i_24, .ref a_37, .ref a_38, .ref a_39, .ref a_40, .ref a_41, .ref a_42, .ref a_43, .ref a_44, .ref a_45, .ref a_46])), (a_37, .inl (cy 1, 9, .inl f_20)), (a_38, .inl (cy 1, 9, .inl f_21)), (a_39, .inl (cy 1, 3, .inl f_22)), (a_40, .inl (cy 1, 210, .inl f_23)), (a_41, .inl (cy 1, 6, .inl f_24)), (a_42, .inl (cy 1, 48, .inl f_25)), (a_43, .inl (cy 1, 30, .inl f_26)), (a_44, .inl (cy 1, 30, .inl f_27)), (a_45, .inl (cy 1, 30, .inl f_28)), (a_46, .inl (cy 1, 30, .inl f_29)), (a_26, .inr (0, [.int i_25, .int i_26, .int i_27, .int i_28, .int i_29, .int i_30, .int i_31, .int i_32, .ref a_47, .ref a_48, .ref a_49, .ref a_50, .ref a_51, .ref a_52, .ref a_53, .ref a_54, .ref a_55, .ref a_56])), (a_47, .inl (cy 1, 9, .inl f_30)), (a_48, .inl (cy 1, 9, .inl f_31)), (a_49, .inl (cy 1, 3, .inl f_32)), (a_50, .inl (cy 1, 210, .inl f_33)), (a_51, .inl (cy 1, 6, .inl f_34)), (a_52, .inl (cy 1, 48, .inl f_35)), (a_53, .inl (cy 1, 30, .inl f_36)), (a_54, .inl (cy 1, 30, .inl f_37)), (a_55, .inl (cy 1, 30, .inl f_38)), (a_56, .inl (cy 1, 30, .inl f_39)), (a_5, .inl (cy 3, 3, .inl f_40))]) hS
        refine lv_aload_n hx hb dX11_image_28 rfl (lv_at hl 0 rfl) ?_
        refine va_get (D := G) (ci := 11) (v := .ref a_5) (C := RX11) (T := TX11) (N := 11) hx hb hts (mm_i inlX11) hown hK.1 hP 0 rfl rfl 4 (by decide) (mm_h hts mm_w30) (fun _ h9 => h9) rfl dX11_image_29 ?_
        refine lv_iload_n hx hb dX11_image_32 rfl (lv_at hl 1 rfl) ?_
        refine lv_iconst (v := 1) hx hb dX11_image_33 (by decide) ?_
        refine va_zast hx hb hK.1 hP hD hS 47 3 rfl rfl (mm_in mm_k0 (by decide)) dX11_image_34 ?_
        clear hP hD hS
        clear H locs
        obtain ⟨g7, eg7⟩ : ∃ z : Nat → Int32, z = upd f_40 (0 : Int32).toNatClampNeg (vp_nar .boolean 1) := ⟨_, rfl⟩
        rw [← eg7]
        intro H locs (hP : va_P G vwCl [(a_0, .inr (11, [.ref a_1, .ref a_2, .ref a_3, .ref a_4, .ref a_5, .ref a_6, .ref a_7, .ref a_8, .ref a_9, .ref a_10, .ref a_11])), (a_3, .inr (10, [.ref a_12, .ref a_13])), (a_12, .inr (0, [.int i_1, .int i_2, .int i_3, .int i_4, .int i_5, .int i_6, .int i_7, .int i_8, .ref a_14, .ref a_15, .ref a_16, .ref a_17, .ref a_18, .ref a_19, .ref a_20, .ref a_21, .ref a_22, .ref a_23])), (a_14, .inl (cy 1, 9, .inl f_0)), (a_15, .inl (cy 1, 9, .inl f_1)), (a_16, .inl (cy 1, 3, .inl f_2)), (a_17, .inl (cy 1, 210, .inl f_3)), (a_18, .inl (cy 1, 6, .inl f_4)), (a_19, .inl (cy 1, 48, .inl f_5)), (a_20, .inl (cy 1, 30, .inl f_6)), (a_21, .inl (cy 1, 30, .inl f_7)), (a_22, .inl (cy 1, 30, .inl f_8)), (a_23, .inl (cy 1, 30, .inl f_9)), (a_4, .inl (cy 4, 3, .inr (.inr (.inr (.inr (va_up (va_up (va_up (fun _ => none) 0 (some a_24)) 1 (some a_25)) 2 (some a_26))))))), (a_24, .inr (0, [.int i_1, .int i_2, .int i_3, .int i_4, .int i_5, .int i_6, .int i_7, .int i_8, .ref a_27, .ref a_28, .ref a_29, .ref a_30, .ref a_31, .ref a_32, .ref a_33, .ref a_34, .ref a_35, .ref a_36])), (a_27, .inl (cy 1, 9, .inl f_0)), (a_28, .inl (cy 1, 9, .inl f_1)), (a_29, .inl (cy 1, 3, .inl f_2)), (a_30, .inl (cy 1, 210, .inl f_3)), (a_31, .inl (cy 1, 6, .inl f_4)), (a_32, .inl (cy 1, 48, .inl f_5)), (a_33, .inl (cy 1, 30, .inl f_6)), (a_34, .inl (cy 1, 30, .inl f_7)), (a_35, .inl (cy 1, 30, .inl f_8)), (a_36, .inl (cy 1, 30, .inl f_9)), (a_25, .inr (0, [.int i_17, .int i_18, .int i_19, .int i_20, .int i_21, .int i_22, .int i_23, .int i_24, .ref a_37, .ref a_38, .ref a_39, .ref a_40, .ref a_41, .ref a_42, .ref a_43, .ref a_44, .ref a_45, .ref a_46])), (a_37, .inl (cy 1, 9, .inl f_20)), (a_38, .inl (cy 1, 9, .inl f_21)), (a_39, .inl (cy 1, 3, .inl f_22)), (a_40, .inl (cy 1, 210, .inl f_23)), (a_41, .inl (cy 1, 6, .inl f_24)), (a_42, .inl (cy 1, 48, .inl f_25)), (a_43, .inl (cy 1, 30, .inl f_26)), (a_44, .inl (cy 1, 30, .inl f_27)), (a_45, .inl (cy 1, 30, .inl f_28)), (a_46, .inl (cy 1, 30, .inl f_29)), (a_26, .inr (0, [.int i_25, .int i_26, .int i_27, .int i_28, .int i_29, .int i_30, .int i_31, .int i_32, .ref a_47, .ref a_48, .ref a_49, .ref a_50, .ref a_51, .ref a_52, .ref a_53, .ref a_54, .ref a_55, .ref a_56])), (a_47, .inl (cy 1, 9, .inl f_30)), (a_48, .inl (cy 1, 9, .inl f_31)), (a_49, .inl (cy 1, 3, .inl f_32)), (a_50, .inl (cy 1, 210, .inl f_33)), (a_51, .inl (cy 1, 6, .inl f_34)), (a_52, .inl (cy 1, 48, .inl f_35)), (a_53, .inl (cy 1, 30, .inl f_36)), (a_54, .inl (cy 1, 30, .inl f_37)), (a_55, .inl (cy 1, 30, .inl f_38)), (a_56, .inl (cy 1, 30, .inl f_39)), (a_5, .inl (cy 3, 3, .inl g7))] H) (hD : va_D A [(a_0, .inr (11, [.ref a_1, .ref a_2, .ref a_3, .ref a_4, .ref a_5, .ref a_6, .ref a_7, .ref a_8, .ref a_9, .ref a_10, .ref a_11])), (a_3, .inr (10, [.ref a_12, .ref a_13])), (a_12, .inr (0, [.int i_1, .int i_2, .int i_3, .int i_4, .int i_5, .int i_6, .int i_7, .int i_8, .ref a_14, .ref a_15, .ref a_16, .ref a_17, .ref a_18, .ref a_19, .ref a_20, .ref a_21, .ref a_22, .ref a_23])), (a_14, .inl (cy 1, 9, .inl f_0)), (a_15, .inl (cy 1, 9, .inl f_1)), (a_16, .inl (cy 1, 3, .inl f_2)), (a_17, .inl (cy 1, 210, .inl f_3)), (a_18, .inl (cy 1, 6, .inl f_4)), (a_19, .inl (cy 1, 48, .inl f_5)), (a_20, .inl (cy 1, 30, .inl f_6)), (a_21, .inl (cy 1, 30, .inl f_7)), (a_22, .inl (cy 1, 30, .inl f_8)), (a_23, .inl (cy 1, 30, .inl f_9)), (a_4, .inl (cy 4, 3, .inr (.inr (.inr (.inr (va_up (va_up (va_up (fun _ => none) 0 (some a_24)) 1 (some a_25)) 2 (some a_26))))))), (a_24, .inr (0, [.int i_1, .int i_2, .int i_3, .int i_4, .int i_5, .int i_6, .int i_7, .int i_8, .ref a_27, .ref a_28, .ref a_29, .ref a_30, .ref a_31, .ref a_32, .ref a_33, .ref a_34, .ref a_35, .ref a_36])), (a_27, .inl (cy 1, 9, .inl f_0)), (a_28, .inl (cy 1, 9, .inl f_1)), (a_29, .inl (cy 1, 3, .inl f_2)), (a_30, .inl (cy 1, 210, .inl f_3)), (a_31, .inl (cy 1, 6, .inl f_4)), (a_32, .inl (cy 1, 48, .inl f_5)), (a_33, .inl (cy 1, 30, .inl f_6)), (a_34, .inl (cy 1, 30, .inl f_7)), (a_35, .inl (cy 1, 30, .inl f_8)), (a_36, .inl (cy 1, 30, .inl f_9)), (a_25, .inr (0, [.int i_17, .int i_18, .int i_19, .int i_20, .int i_21, .int i_22, .int i_23, .int i_24, .ref a_37, .ref a_38, .ref a_39, .ref a_40, .ref a_41, .ref a_42, .ref a_43, .ref a_44, .ref a_45, .ref a_46])), (a_37, .inl (cy 1, 9, .inl f_20)), (a_38, .inl (cy 1, 9, .inl f_21)), (a_39, .inl (cy 1, 3, .inl f_22)), (a_40, .inl (cy 1, 210, .inl f_23)), (a_41, .inl (cy 1, 6, .inl f_24)), (a_42, .inl (cy 1, 48, .inl f_25)), (a_43, .inl (cy 1, 30, .inl f_26)), (a_44, .inl (cy 1, 30, .inl f_27)), (a_45, .inl (cy 1, 30, .inl f_28)), (a_46, .inl (cy 1, 30, .inl f_29)), (a_26, .inr (0, [.int i_25, .int i_26, .int i_27, .int i_28, .int i_29, .int i_30, .int i_31, .int i_32, .ref a_47, .ref a_48, .ref a_49, .ref a_50, .ref a_51, .ref a_52, .ref a_53, .ref a_54, .ref a_55, .ref a_56])), (a_47, .inl (cy 1, 9, .inl f_30)), (a_48, .inl (cy 1, 9, .inl f_31)), (a_49, .inl (cy 1, 3, .inl f_32)), (a_50, .inl (cy 1, 210, .inl f_33)), (a_51, .inl (cy 1, 6, .inl f_34)), (a_52, .inl (cy 1, 48, .inl f_35)), (a_53, .inl (cy 1, 30, .inl f_36)), (a_54, .inl (cy 1, 30, .inl f_37)), (a_55, .inl (cy 1, 30, .inl f_38)), (a_56, .inl (cy 1, 30, .inl f_39)), (a_5, .inl (cy 3, 3, .inl g7))]) hS
        have rg7 : mm_ar g7 0 1 := by rw [eg7]; exact mm_ar_upd (mm_ar_wk h68 (by decide)) (mm_nz1 1) _
        refine lv_iconst (v := 0) hx hb dX11_image_35 (by decide) ?_
        subst hAe
        rw [hQ]
        exact W.iret (v := 0) hx hb hr (fun t ht hW => ⟨⟨0, (i_1, i_2, i_3, i_4, i_5, i_6, i_7, i_8, f_0, f_1, f_2, f_3, f_4, f_5, f_6, f_7, f_8, f_9, i_17, i_18, i_19, i_20, i_21, i_22, i_23, i_24, f_20, f_21, f_22, f_23, f_24, f_25, f_26, f_27, f_28, f_29, i_25, i_26, i_27, i_28, i_29, i_30, i_31, i_32, f_30, f_31, f_32, f_33, f_34, f_35, f_36, f_37, f_38, f_39, g7), rfl, ⟨h0, h1, h2, h3, h4, h5, h6, h7, h8, h9, h10, h11, h12, h13, h14, h15, h16, h34, h35, h36, h37, h38, h39, h40, h41, h42, h43, h44, h45, h46, h47, h48, h49, h50, h51, h52, h53, h54, h55, h56, h57, h58, h59, h60, h61, h62, h63, h64, h65, h66, h67, rg7, h69, h71, h72, (mm_wk mm_k0 (by decide))⟩, by rw [ht]; exact hP, hK.warm hW, hD⟩, hS.F ht⟩) hS.2.2 dX11_image_36
      · refine W.eq (g2 := F0 m 18 ls [.ref a_25]) rfl ?_
        refine lv_aload_n hx hb dX11_image_18 rfl (lv_at hl 0 rfl) ?_
        refine va_get (D := G) (ci := 11) (v := .ref a_3) (C := RX11) (T := TX11) (N := 11) hx hb hts (mm_i inlX11) hown hK.1 hP 0 rfl rfl 2 (by decide) (mm_h hts mm_w24) (fun _ h9 => h9) rfl dX11_image_19 ?_
        refine va_get (D := G) (ci := 10) (v := .ref a_12) (C := RX10) (T := TX10) (N := 2) hx hb hts (mm_i inlX10) hown hK.1 hP 1 rfl rfl 0 (by decide) (mm_h hts mm_w199) (fun _ h9 => h9) rfl dX11_image_22 ?_
        refine mm_finv (va_runV (As := [.ref a_12]) (rest := []) ⟨hx, hb, hml, hown, hts⟩ (K331_X0_copyFrom l G cy H.size a_25 a_12 i_1 i_2 i_3 i_4 i_5 i_6 i_7 i_8 a_14 a_15 a_16 a_17 a_18 a_19 a_20 a_21 a_22 a_23 f_0 f_1 f_2 f_3 f_4 f_5 f_6 f_7 f_8 f_9 i_17 i_18 i_19 i_20 i_21 i_22 i_23 i_24 a_37 a_38 a_39 a_40 a_41 a_42 a_43 a_44 a_45 a_46 f_20 f_21 f_22 f_23 f_24 f_25 f_26 f_27 f_28 f_29 h0 h1 h2 h3 h4 h5 h6 h7 h8 h9 h10 h11 h12 h13 h14 h15 h16 h34 h35 h36 h37 h38 h39 h40 h41 h42 h43 h44 h45 h46 h47 h48 h49 h50 h69 h71) (cwV 1 hts (mm_gV mm_w1659 mm_w378 mm_w379 mm_w28 mm_w380) rfl rfl rfl hd_X0_copyFrom ⟨by rw [hRf]; exact Nat.le_of_ble_eq_true rfl, by rw [hRl]; exact Nat.le_of_ble_eq_true rfl⟩) (mm_preV hK hZ hS hA hP hD [2, 3, 4, 5, 6, 7, 8, 9, 10, 11, 12, 25, 26, 27, 28, 29, 30, 31, 32, 33, 34, 35] rfl rfl 25 rfl rfl rfl) rfl rfl hl.1 rfl (lv_room (Nat.le_of_ble_eq_true rfl)) dX11_image_25 ⟨by rw [hRc]; exact Nat.le_of_ble_eq_true rfl, by rw [hRs]; exact Nat.le_of_ble_eq_true rfl⟩) hP hD hS hA (fun u : Unit => [(a_0, .inr (11, [.ref a_1, .ref a_2, .ref a_3, .ref a_4, .ref a_5, .ref a_6, .ref a_7, .ref a_8, .ref a_9, .ref a_10, .ref a_11])), (a_3, .inr (10, [.ref a_12, .ref a_13])), (a_12, .inr (0, [.int i_1, .int i_2, .int i_3, .int i_4, .int i_5, .int i_6, .int i_7, .int i_8, .ref a_14, .ref a_15, .ref a_16, .ref a_17, .ref a_18, .ref a_19, .ref a_20, .ref a_21, .ref a_22, .ref a_23])), (a_14, .inl (cy 1, 9, .inl f_0)), (a_15, .inl (cy 1, 9, .inl f_1)), (a_16, .inl (cy 1, 3, .inl f_2)), (a_17, .inl (cy 1, 210, .inl f_3)), (a_18, .inl (cy 1, 6, .inl f_4)), (a_19, .inl (cy 1, 48, .inl f_5)), (a_20, .inl (cy 1, 30, .inl f_6)), (a_21, .inl (cy 1, 30, .inl f_7)), (a_22, .inl (cy 1, 30, .inl f_8)), (a_23, .inl (cy 1, 30, .inl f_9)), (a_4, .inl (cy 4, 3, .inr (.inr (.inr (.inr (va_up (va_up (va_up (fun _ => none) 0 (some a_24)) 1 (some a_25)) 2 (some a_26))))))), (a_24, .inr (0, [.int i_9, .int i_10, .int i_11, .int i_12, .int i_13, .int i_14, .int i_15, .int i_16, .ref a_27, .ref a_28, .ref a_29, .ref a_30, .ref a_31, .ref a_32, .ref a_33, .ref a_34, .ref a_35, .ref a_36])), (a_27, .inl (cy 1, 9, .inl f_10)), (a_28, .inl (cy 1, 9, .inl f_11)), (a_29, .inl (cy 1, 3, .inl f_12)), (a_30, .inl (cy 1, 210, .inl f_13)), (a_31, .inl (cy 1, 6, .inl f_14)), (a_32, .inl (cy 1, 48, .inl f_15)), (a_33, .inl (cy 1, 30, .inl f_16)), (a_34, .inl (cy 1, 30, .inl f_17)), (a_35, .inl (cy 1, 30, .inl f_18)), (a_36, .inl (cy 1, 30, .inl f_19)), (a_25, .inr (0, [.int i_1, .int i_2, .int i_3, .int i_4, .int i_5, .int i_6, .int i_7, .int i_8, .ref a_37, .ref a_38, .ref a_39, .ref a_40, .ref a_41, .ref a_42, .ref a_43, .ref a_44, .ref a_45, .ref a_46])), (a_37, .inl (cy 1, 9, .inl f_0)), (a_38, .inl (cy 1, 9, .inl f_1)), (a_39, .inl (cy 1, 3, .inl f_2)), (a_40, .inl (cy 1, 210, .inl f_3)), (a_41, .inl (cy 1, 6, .inl f_4)), (a_42, .inl (cy 1, 48, .inl f_5)), (a_43, .inl (cy 1, 30, .inl f_6)), (a_44, .inl (cy 1, 30, .inl f_7)), (a_45, .inl (cy 1, 30, .inl f_8)), (a_46, .inl (cy 1, 30, .inl f_9)), (a_26, .inr (0, [.int i_25, .int i_26, .int i_27, .int i_28, .int i_29, .int i_30, .int i_31, .int i_32, .ref a_47, .ref a_48, .ref a_49, .ref a_50, .ref a_51, .ref a_52, .ref a_53, .ref a_54, .ref a_55, .ref a_56])), (a_47, .inl (cy 1, 9, .inl f_30)), (a_48, .inl (cy 1, 9, .inl f_31)), (a_49, .inl (cy 1, 3, .inl f_32)), (a_50, .inl (cy 1, 210, .inl f_33)), (a_51, .inl (cy 1, 6, .inl f_34)), (a_52, .inl (cy 1, 48, .inl f_35)), (a_53, .inl (cy 1, 30, .inl f_36)), (a_54, .inl (cy 1, 30, .inl f_37)), (a_55, .inl (cy 1, 30, .inl f_38)), (a_56, .inl (cy 1, 30, .inl f_39)), (a_5, .inl (cy 3, 3, .inl f_40))]) [2, 3, 4, 5, 6, 7, 8, 9, 10, 11, 12, 25, 26, 27, 28, 29, 30, 31, 32, 33, 34, 35] [0, 1, 13, 14, 15, 16, 17, 18, 19, 20, 21, 22, 23, 24, 36, 37, 38, 39, 40, 41, 42, 43, 44, 45, 46, 47] (n := 48) (fun _ => rfl) (by decide +kernel) (by decide +kernel) rfl (fun _ => rfl) (wr := [(a_0, .inr (11, [.ref a_1, .ref a_2, .ref a_3, .ref a_4, .ref a_5, .ref a_6, .ref a_7, .ref a_8, .ref a_9, .ref a_10, .ref a_11])), (a_3, .inr (10, [.ref a_12, .ref a_13])), (a_4, .inl (cy 4, 3, .inr (.inr (.inr (.inr (va_up (va_up (va_up (fun _ => none) 0 (some a_24)) 1 (some a_25)) 2 (some a_26))))))), (a_24, .inr (0, [.int i_9, .int i_10, .int i_11, .int i_12, .int i_13, .int i_14, .int i_15, .int i_16, .ref a_27, .ref a_28, .ref a_29, .ref a_30, .ref a_31, .ref a_32, .ref a_33, .ref a_34, .ref a_35, .ref a_36])), (a_27, .inl (cy 1, 9, .inl f_10)), (a_28, .inl (cy 1, 9, .inl f_11)), (a_29, .inl (cy 1, 3, .inl f_12)), (a_30, .inl (cy 1, 210, .inl f_13)), (a_31, .inl (cy 1, 6, .inl f_14)), (a_32, .inl (cy 1, 48, .inl f_15)), (a_33, .inl (cy 1, 30, .inl f_16)), (a_34, .inl (cy 1, 30, .inl f_17)), (a_35, .inl (cy 1, 30, .inl f_18)), (a_36, .inl (cy 1, 30, .inl f_19)), (a_26, .inr (0, [.int i_25, .int i_26, .int i_27, .int i_28, .int i_29, .int i_30, .int i_31, .int i_32, .ref a_47, .ref a_48, .ref a_49, .ref a_50, .ref a_51, .ref a_52, .ref a_53, .ref a_54, .ref a_55, .ref a_56])), (a_47, .inl (cy 1, 9, .inl f_30)), (a_48, .inl (cy 1, 9, .inl f_31)), (a_49, .inl (cy 1, 3, .inl f_32)), (a_50, .inl (cy 1, 210, .inl f_33)), (a_51, .inl (cy 1, 6, .inl f_34)), (a_52, .inl (cy 1, 48, .inl f_35)), (a_53, .inl (cy 1, 30, .inl f_36)), (a_54, .inl (cy 1, 30, .inl f_37)), (a_55, .inl (cy 1, 30, .inl f_38)), (a_56, .inl (cy 1, 30, .inl f_39)), (a_5, .inl (cy 3, 3, .inl f_40))]) rfl (fun _ => rfl) (fun _ => rfl) ?_
        clear hP hD hS
        clear H locs
        intro _u H locs hw (hP : va_P G vwCl [(a_0, .inr (11, [.ref a_1, .ref a_2, .ref a_3, .ref a_4, .ref a_5, .ref a_6, .ref a_7, .ref a_8, .ref a_9, .ref a_10, .ref a_11])), (a_3, .inr (10, [.ref a_12, .ref a_13])), (a_12, .inr (0, [.int i_1, .int i_2, .int i_3, .int i_4, .int i_5, .int i_6, .int i_7, .int i_8, .ref a_14, .ref a_15, .ref a_16, .ref a_17, .ref a_18, .ref a_19, .ref a_20, .ref a_21, .ref a_22, .ref a_23])), (a_14, .inl (cy 1, 9, .inl f_0)), (a_15, .inl (cy 1, 9, .inl f_1)), (a_16, .inl (cy 1, 3, .inl f_2)), (a_17, .inl (cy 1, 210, .inl f_3)), (a_18, .inl (cy 1, 6, .inl f_4)), (a_19, .inl (cy 1, 48, .inl f_5)), (a_20, .inl (cy 1, 30, .inl f_6)), (a_21, .inl (cy 1, 30, .inl f_7)), (a_22, .inl (cy 1, 30, .inl f_8)), (a_23, .inl (cy 1, 30, .inl f_9)), (a_4, .inl (cy 4, 3, .inr (.inr (.inr (.inr (va_up (va_up (va_up (fun _ => none) 0 (some a_24)) 1 (some a_25)) 2 (some a_26))))))), (a_24, .inr (0, [.int i_9, .int i_10, .int i_11, .int i_12, .int i_13, .int i_14, .int i_15, .int i_16, .ref a_27, .ref a_28, .ref a_29, .ref a_30, .ref a_31, .ref a_32, .ref a_33, .ref a_34, .ref a_35, .ref a_36])), (a_27, .inl (cy 1, 9, .inl f_10)), (a_28, .inl (cy 1, 9, .inl f_11)), (a_29, .inl (cy 1, 3, .inl f_12)), (a_30, .inl (cy 1, 210, .inl f_13)), (a_31, .inl (cy 1, 6, .inl f_14)), (a_32, .inl (cy 1, 48, .inl f_15)), (a_33, .inl (cy 1, 30, .inl f_16)), (a_34, .inl (cy 1, 30, .inl f_17)), (a_35, .inl (cy 1, 30, .inl f_18)), (a_36, .inl (cy 1, 30, .inl f_19)), (a_25, .inr (0, [.int i_1, .int i_2, .int i_3, .int i_4, .int i_5, .int i_6, .int i_7, .int i_8, .ref a_37, .ref a_38, .ref a_39, .ref a_40, .ref a_41, .ref a_42, .ref a_43, .ref a_44, .ref a_45, .ref a_46])), (a_37, .inl (cy 1, 9, .inl f_0)), (a_38, .inl (cy 1, 9, .inl f_1)), (a_39, .inl (cy 1, 3, .inl f_2)), (a_40, .inl (cy 1, 210, .inl f_3)), (a_41, .inl (cy 1, 6, .inl f_4)), (a_42, .inl (cy 1, 48, .inl f_5)), (a_43, .inl (cy 1, 30, .inl f_6)), (a_44, .inl (cy 1, 30, .inl f_7)), (a_45, .inl (cy 1, 30, .inl f_8)), (a_46, .inl (cy 1, 30, .inl f_9)), (a_26, .inr (0, [.int i_25, .int i_26, .int i_27, .int i_28, .int i_29, .int i_30, .int i_31, .int i_32, .ref a_47, .ref a_48, .ref a_49, .ref a_50, .ref a_51, .ref a_52, .ref a_53, .ref a_54, .ref a_55, .ref a_56])), (a_47, .inl (cy 1, 9, .inl f_30)), (a_48, .inl (cy 1, 9, .inl f_31)), (a_49, .inl (cy 1, 3, .inl f_32)), (a_50, .inl (cy 1, 210, .inl f_33)), (a_51, .inl (cy 1, 6, .inl f_34)), (a_52, .inl (cy 1, 48, .inl f_35)), (a_53, .inl (cy 1, 30, .inl f_36)), (a_54, .inl (cy 1, 30, .inl f_37)), (a_55, .inl (cy 1, 30, .inl f_38)), (a_56, .inl (cy 1, 30, .inl f_39)), (a_5, .inl (cy 3, 3, .inl f_40))] H) (hD : va_D A [(a_0, .inr (11, [.ref a_1, .ref a_2, .ref a_3, .ref a_4, .ref a_5, .ref a_6, .ref a_7, .ref a_8, .ref a_9, .ref a_10, .ref a_11])), (a_3, .inr (10, [.ref a_12, .ref a_13])), (a_12, .inr (0, [.int i_1, .int i_2, .int i_3, .int i_4, .int i_5, .int i_6, .int i_7, .int i_8, .ref a_14, .ref a_15, .ref a_16, .ref a_17, .ref a_18, .ref a_19, .ref a_20, .ref a_21, .ref a_22, .ref a_23])), (a_14, .inl (cy 1, 9, .inl f_0)), (a_15, .inl (cy 1, 9, .inl f_1)), (a_16, .inl (cy 1, 3, .inl f_2)), (a_17, .inl (cy 1, 210, .inl f_3)), (a_18, .inl (cy 1, 6, .inl f_4)), (a_19, .inl (cy 1, 48, .inl f_5)), (a_20, .inl (cy 1, 30, .inl f_6)), (a_21, .inl (cy 1, 30, .inl f_7)), (a_22, .inl (cy 1, 30, .inl f_8)), (a_23, .inl (cy 1, 30, .inl f_9)), (a_4, .inl (cy 4, 3, .inr (.inr (.inr (.inr (va_up (va_up (va_up (fun _ => none) 0 (some a_24)) 1 (some a_25)) 2 (some a_26))))))), (a_24, .inr (0, [.int i_9, .int i_10, .int i_11, .int i_12, .int i_13, .int i_14, .int i_15, .int i_16, .ref a_27, .ref a_28, .ref a_29, .ref a_30, .ref a_31, .ref a_32, .ref a_33, .ref a_34, .ref a_35, .ref a_36])), (a_27, .inl (cy 1, 9, .inl f_10)), (a_28, .inl (cy 1, 9, .inl f_11)), (a_29, .inl (cy 1, 3, .inl f_12)), (a_30, .inl (cy 1, 210, .inl f_13)), (a_31, .inl (cy 1, 6, .inl f_14)), (a_32, .inl (cy 1, 48, .inl f_15)), (a_33, .inl (cy 1, 30, .inl f_16)), (a_34, .inl (cy 1, 30, .inl f_17)), (a_35, .inl (cy 1, 30, .inl f_18)), (a_36, .inl (cy 1, 30, .inl f_19)), (a_25, .inr (0, [.int i_1, .int i_2, .int i_3, .int i_4, .int i_5, .int i_6, .int i_7, .int i_8, .ref a_37, .ref a_38, .ref a_39, .ref a_40, .ref a_41, .ref a_42, .ref a_43, .ref a_44, .ref a_45, .ref a_46])), (a_37, .inl (cy 1, 9, .inl f_0)), (a_38, .inl (cy 1, 9, .inl f_1)), (a_39, .inl (cy 1, 3, .inl f_2)), (a_40, .inl (cy 1, 210, .inl f_3)), (a_41, .inl (cy 1, 6, .inl f_4)), (a_42, .inl (cy 1, 48, .inl f_5)), (a_43, .inl (cy 1, 30, .inl f_6)), (a_44, .inl (cy 1, 30, .inl f_7)), (a_45, .inl (cy 1, 30, .inl f_8)), (a_46, .inl (cy 1, 30, .inl f_9)), (a_26, .inr (0, [.int i_25, .int i_26, .int i_27, .int i_28, .int i_29, .int i_30, .int i_31, .int i_32, .ref a_47, .ref a_48, .ref a_49, .ref a_50, .ref a_51, .ref a_52, .ref a_53, .ref a_54, .ref a_55, .ref a_56])), (a_47, .inl (cy 1, 9, .inl f_30)), (a_48, .inl (cy 1, 9, .inl f_31)), (a_49, .inl (cy 1, 3, .inl f_32)), (a_50, .inl (cy 1, 210, .inl f_33)), (a_51, .inl (cy 1, 6, .inl f_34)), (a_52, .inl (cy 1, 48, .inl f_35)), (a_53, .inl (cy 1, 30, .inl f_36)), (a_54, .inl (cy 1, 30, .inl f_37)), (a_55, .inl (cy 1, 30, .inl f_38)), (a_56, .inl (cy 1, 30, .inl f_39)), (a_5, .inl (cy 3, 3, .inl f_40))]) hS
        refine lv_aload_n hx hb dX11_image_28 rfl (lv_at hl 0 rfl) ?_
        refine va_get (D := G) (ci := 11) (v := .ref a_5) (C := RX11) (T := TX11) (N := 11) hx hb hts (mm_i inlX11) hown hK.1 hP 0 rfl rfl 4 (by decide) (mm_h hts mm_w30) (fun _ h9 => h9) rfl dX11_image_29 ?_
        refine lv_iload_n hx hb dX11_image_32 rfl (lv_at hl 1 rfl) ?_
        refine lv_iconst (v := 1) hx hb dX11_image_33 (by decide) ?_
        refine va_zast hx hb hK.1 hP hD hS 47 3 rfl rfl (mm_in mm_k1 (by decide)) dX11_image_34 ?_
        clear hP hD hS
        clear H locs
        obtain ⟨g8, eg8⟩ : ∃ z : Nat → Int32, z = upd f_40 (1 : Int32).toNatClampNeg (vp_nar .boolean 1) := ⟨_, rfl⟩
        rw [← eg8]
        intro H locs (hP : va_P G vwCl [(a_0, .inr (11, [.ref a_1, .ref a_2, .ref a_3, .ref a_4, .ref a_5, .ref a_6, .ref a_7, .ref a_8, .ref a_9, .ref a_10, .ref a_11])), (a_3, .inr (10, [.ref a_12, .ref a_13])), (a_12, .inr (0, [.int i_1, .int i_2, .int i_3, .int i_4, .int i_5, .int i_6, .int i_7, .int i_8, .ref a_14, .ref a_15, .ref a_16, .ref a_17, .ref a_18, .ref a_19, .ref a_20, .ref a_21, .ref a_22, .ref a_23])), (a_14, .inl (cy 1, 9, .inl f_0)), (a_15, .inl (cy 1, 9, .inl f_1)), (a_16, .inl (cy 1, 3, .inl f_2)), (a_17, .inl (cy 1, 210, .inl f_3)), (a_18, .inl (cy 1, 6, .inl f_4)), (a_19, .inl (cy 1, 48, .inl f_5)), (a_20, .inl (cy 1, 30, .inl f_6)), (a_21, .inl (cy 1, 30, .inl f_7)), (a_22, .inl (cy 1, 30, .inl f_8)), (a_23, .inl (cy 1, 30, .inl f_9)), (a_4, .inl (cy 4, 3, .inr (.inr (.inr (.inr (va_up (va_up (va_up (fun _ => none) 0 (some a_24)) 1 (some a_25)) 2 (some a_26))))))), (a_24, .inr (0, [.int i_9, .int i_10, .int i_11, .int i_12, .int i_13, .int i_14, .int i_15, .int i_16, .ref a_27, .ref a_28, .ref a_29, .ref a_30, .ref a_31, .ref a_32, .ref a_33, .ref a_34, .ref a_35, .ref a_36])), (a_27, .inl (cy 1, 9, .inl f_10)), (a_28, .inl (cy 1, 9, .inl f_11)), (a_29, .inl (cy 1, 3, .inl f_12)), (a_30, .inl (cy 1, 210, .inl f_13)), (a_31, .inl (cy 1, 6, .inl f_14)), (a_32, .inl (cy 1, 48, .inl f_15)), (a_33, .inl (cy 1, 30, .inl f_16)), (a_34, .inl (cy 1, 30, .inl f_17)), (a_35, .inl (cy 1, 30, .inl f_18)), (a_36, .inl (cy 1, 30, .inl f_19)), (a_25, .inr (0, [.int i_1, .int i_2, .int i_3, .int i_4, .int i_5, .int i_6, .int i_7, .int i_8, .ref a_37, .ref a_38, .ref a_39, .ref a_40, .ref a_41, .ref a_42, .ref a_43, .ref a_44, .ref a_45, .ref a_46])), (a_37, .inl (cy 1, 9, .inl f_0)), (a_38, .inl (cy 1, 9, .inl f_1)), (a_39, .inl (cy 1, 3, .inl f_2)), (a_40, .inl (cy 1, 210, .inl f_3)), (a_41, .inl (cy 1, 6, .inl f_4)), (a_42, .inl (cy 1, 48, .inl f_5)), (a_43, .inl (cy 1, 30, .inl f_6)), (a_44, .inl (cy 1, 30, .inl f_7)), (a_45, .inl (cy 1, 30, .inl f_8)), (a_46, .inl (cy 1, 30, .inl f_9)), (a_26, .inr (0, [.int i_25, .int i_26, .int i_27, .int i_28, .int i_29, .int i_30, .int i_31, .int i_32, .ref a_47, .ref a_48, .ref a_49, .ref a_50, .ref a_51, .ref a_52, .ref a_53, .ref a_54, .ref a_55, .ref a_56])), (a_47, .inl (cy 1, 9, .inl f_30)), (a_48, .inl (cy 1, 9, .inl f_31)), (a_49, .inl (cy 1, 3, .inl f_32)), (a_50, .inl (cy 1, 210, .inl f_33)), (a_51, .inl (cy 1, 6, .inl f_34)), (a_52, .inl (cy 1, 48, .inl f_35)), (a_53, .inl (cy 1, 30, .inl f_36)), (a_54, .inl (cy 1, 30, .inl f_37)), (a_55, .inl (cy 1, 30, .inl f_38)), (a_56, .inl (cy 1, 30, .inl f_39)), (a_5, .inl (cy 3, 3, .inl g8))] H) (hD : va_D A [(a_0, .inr (11, [.ref a_1, .ref a_2, .ref a_3, .ref a_4, .ref a_5, .ref a_6, .ref a_7, .ref a_8, .ref a_9, .ref a_10, .ref a_11])), (a_3, .inr (10, [.ref a_12, .ref a_13])), (a_12, .inr (0, [.int i_1, .int i_2, .int i_3, .int i_4, .int i_5, .int i_6, .int i_7, .int i_8, .ref a_14, .ref a_15, .ref a_16, .ref a_17, .ref a_18, .ref a_19, .ref a_20, .ref a_21, .ref a_22, .ref a_23])), (a_14, .inl (cy 1, 9, .inl f_0)), (a_15, .inl (cy 1, 9, .inl f_1)), (a_16, .inl (cy 1, 3, .inl f_2)), (a_17, .inl (cy 1, 210, .inl f_3)), (a_18, .inl (cy 1, 6, .inl f_4)), (a_19, .inl (cy 1, 48, .inl f_5)), (a_20, .inl (cy 1, 30, .inl f_6)), (a_21, .inl (cy 1, 30, .inl f_7)), (a_22, .inl (cy 1, 30, .inl f_8)), (a_23, .inl (cy 1, 30, .inl f_9)), (a_4, .inl (cy 4, 3, .inr (.inr (.inr (.inr (va_up (va_up (va_up (fun _ => none) 0 (some a_24)) 1 (some a_25)) 2 (some a_26))))))), (a_24, .inr (0, [.int i_9, .int i_10, .int i_11, .int i_12, .int i_13, .int i_14, .int i_15, .int i_16, .ref a_27, .ref a_28, .ref a_29, .ref a_30, .ref a_31, .ref a_32, .ref a_33, .ref a_34, .ref a_35, .ref a_36])), (a_27, .inl (cy 1, 9, .inl f_10)), (a_28, .inl (cy 1, 9, .inl f_11)), (a_29, .inl (cy 1, 3, .inl f_12)), (a_30, .inl (cy 1, 210, .inl f_13)), (a_31, .inl (cy 1, 6, .inl f_14)), (a_32, .inl (cy 1, 48, .inl f_15)), (a_33, .inl (cy 1, 30, .inl f_16)), (a_34, .inl (cy 1, 30, .inl f_17)), (a_35, .inl (cy 1, 30, .inl f_18)), (a_36, .inl (cy 1, 30, .inl f_19)), (a_25, .inr (0, [.int i_1, .int i_2, .int i_3, .int i_4, .int i_5, .int i_6, .int i_7, .int i_8, .ref a_37, .ref a_38, .ref a_39, .ref a_40, .ref a_41, .ref a_42, .ref a_43, .ref a_44, .ref a_45, .ref a_46])), (a_37, .inl (cy 1, 9, .inl f_0)), (a_38, .inl (cy 1, 9, .inl f_1)), (a_39, .inl (cy 1, 3, .inl f_2)), (a_40, .inl (cy 1, 210, .inl f_3)), (a_41, .inl (cy 1, 6, .inl f_4)), (a_42, .inl (cy 1, 48, .inl f_5)), (a_43, .inl (cy 1, 30, .inl f_6)), (a_44, .inl (cy 1, 30, .inl f_7)), (a_45, .inl (cy 1, 30, .inl f_8)), (a_46, .inl (cy 1, 30, .inl f_9)), (a_26, .inr (0, [.int i_25, .int i_26, .int i_27, .int i_28, .int i_29, .int i_30, .int i_31, .int i_32, .ref a_47, .ref a_48, .ref a_49, .ref a_50, .ref a_51, .ref a_52, .ref a_53, .ref a_54, .ref a_55, .ref a_56])), (a_47, .inl (cy 1, 9, .inl f_30)), (a_48, .inl (cy 1, 9, .inl f_31)), (a_49, .inl (cy 1, 3, .inl f_32)), (a_50, .inl (cy 1, 210, .inl f_33)), (a_51, .inl (cy 1, 6, .inl f_34)), (a_52, .inl (cy 1, 48, .inl f_35)), (a_53, .inl (cy 1, 30, .inl f_36)), (a_54, .inl (cy 1, 30, .inl f_37)), (a_55, .inl (cy 1, 30, .inl f_38)), (a_56, .inl (cy 1, 30, .inl f_39)), (a_5, .inl (cy 3, 3, .inl g8))]) hS
        have rg8 : mm_ar g8 0 1 := by rw [eg8]; exact mm_ar_upd (mm_ar_wk h68 (by decide)) (mm_nz1 1) _
        refine lv_iconst (v := 0) hx hb dX11_image_35 (by decide) ?_
        subst hAe
        rw [hQ]
        exact W.iret (v := 0) hx hb hr (fun t ht hW => ⟨⟨0, (i_9, i_10, i_11, i_12, i_13, i_14, i_15, i_16, f_10, f_11, f_12, f_13, f_14, f_15, f_16, f_17, f_18, f_19, i_1, i_2, i_3, i_4, i_5, i_6, i_7, i_8, f_0, f_1, f_2, f_3, f_4, f_5, f_6, f_7, f_8, f_9, i_25, i_26, i_27, i_28, i_29, i_30, i_31, i_32, f_30, f_31, f_32, f_33, f_34, f_35, f_36, f_37, f_38, f_39, g8), rfl, ⟨h17, h18, h19, h20, h21, h22, h23, h24, h25, h26, h27, h28, h29, h30, h31, h32, h33, h0, h1, h2, h3, h4, h5, h6, h7, h8, h9, h10, h11, h12, h13, h14, h15, h16, h51, h52, h53, h54, h55, h56, h57, h58, h59, h60, h61, h62, h63, h64, h65, h66, h67, rg8, h70, h69, h72, (mm_wk mm_k0 (by decide))⟩, by rw [ht]; exact hP, hK.warm hW, hD⟩, hS.F ht⟩) hS.2.2 dX11_image_36
      · refine W.eq (g2 := F0 m 18 ls [.ref a_26]) rfl ?_
        refine lv_aload_n hx hb dX11_image_18 rfl (lv_at hl 0 rfl) ?_
        refine va_get (D := G) (ci := 11) (v := .ref a_3) (C := RX11) (T := TX11) (N := 11) hx hb hts (mm_i inlX11) hown hK.1 hP 0 rfl rfl 2 (by decide) (mm_h hts mm_w24) (fun _ h9 => h9) rfl dX11_image_19 ?_
        refine va_get (D := G) (ci := 10) (v := .ref a_12) (C := RX10) (T := TX10) (N := 2) hx hb hts (mm_i inlX10) hown hK.1 hP 1 rfl rfl 0 (by decide) (mm_h hts mm_w199) (fun _ h9 => h9) rfl dX11_image_22 ?_
        refine mm_finv (va_runV (As := [.ref a_12]) (rest := []) ⟨hx, hb, hml, hown, hts⟩ (K331_X0_copyFrom l G cy H.size a_26 a_12 i_1 i_2 i_3 i_4 i_5 i_6 i_7 i_8 a_14 a_15 a_16 a_17 a_18 a_19 a_20 a_21 a_22 a_23 f_0 f_1 f_2 f_3 f_4 f_5 f_6 f_7 f_8 f_9 i_25 i_26 i_27 i_28 i_29 i_30 i_31 i_32 a_47 a_48 a_49 a_50 a_51 a_52 a_53 a_54 a_55 a_56 f_30 f_31 f_32 f_33 f_34 f_35 f_36 f_37 f_38 f_39 h0 h1 h2 h3 h4 h5 h6 h7 h8 h9 h10 h11 h12 h13 h14 h15 h16 h51 h52 h53 h54 h55 h56 h57 h58 h59 h60 h61 h62 h63 h64 h65 h66 h67 h69 h72) (cwV 1 hts (mm_gV mm_w1659 mm_w378 mm_w379 mm_w28 mm_w380) rfl rfl rfl hd_X0_copyFrom ⟨by rw [hRf]; exact Nat.le_of_ble_eq_true rfl, by rw [hRl]; exact Nat.le_of_ble_eq_true rfl⟩) (mm_preV hK hZ hS hA hP hD [2, 3, 4, 5, 6, 7, 8, 9, 10, 11, 12, 36, 37, 38, 39, 40, 41, 42, 43, 44, 45, 46] rfl rfl 36 rfl rfl rfl) rfl rfl hl.1 rfl (lv_room (Nat.le_of_ble_eq_true rfl)) dX11_image_25 ⟨by rw [hRc]; exact Nat.le_of_ble_eq_true rfl, by rw [hRs]; exact Nat.le_of_ble_eq_true rfl⟩) hP hD hS hA (fun u : Unit => [(a_0, .inr (11, [.ref a_1, .ref a_2, .ref a_3, .ref a_4, .ref a_5, .ref a_6, .ref a_7, .ref a_8, .ref a_9, .ref a_10, .ref a_11])), (a_3, .inr (10, [.ref a_12, .ref a_13])), (a_12, .inr (0, [.int i_1, .int i_2, .int i_3, .int i_4, .int i_5, .int i_6, .int i_7, .int i_8, .ref a_14, .ref a_15, .ref a_16, .ref a_17, .ref a_18, .ref a_19, .ref a_20, .ref a_21, .ref a_22, .ref a_23])), (a_14, .inl (cy 1, 9, .inl f_0)), (a_15, .inl (cy 1, 9, .inl f_1)), (a_16, .inl (cy 1, 3, .inl f_2)), (a_17, .inl (cy 1, 210, .inl f_3)), (a_18, .inl (cy 1, 6, .inl f_4)), (a_19, .inl (cy 1, 48, .inl f_5)), (a_20, .inl (cy 1, 30, .inl f_6)), (a_21, .inl (cy 1, 30, .inl f_7)), (a_22, .inl (cy 1, 30, .inl f_8)), (a_23, .inl (cy 1, 30, .inl f_9)), (a_4, .inl (cy 4, 3, .inr (.inr (.inr (.inr (va_up (va_up (va_up (fun _ => none) 0 (some a_24)) 1 (some a_25)) 2 (some a_26))))))), (a_24, .inr (0, [.int i_9, .int i_10, .int i_11, .int i_12, .int i_13, .int i_14, .int i_15, .int i_16, .ref a_27, .ref a_28, .ref a_29, .ref a_30, .ref a_31, .ref a_32, .ref a_33, .ref a_34, .ref a_35, .ref a_36])), (a_27, .inl (cy 1, 9, .inl f_10)), (a_28, .inl (cy 1, 9, .inl f_11)), (a_29, .inl (cy 1, 3, .inl f_12)), (a_30, .inl (cy 1, 210, .inl f_13)), (a_31, .inl (cy 1, 6, .inl f_14)), (a_32, .inl (cy 1, 48, .inl f_15)), (a_33, .inl (cy 1, 30, .inl f_16)), (a_34, .inl (cy 1, 30, .inl f_17)), (a_35, .inl (cy 1, 30, .inl f_18)), (a_36, .inl (cy 1, 30, .inl f_19)), (a_25, .inr (0, [.int i_17, .int i_18, .int i_19, .int i_20, .int i_21, .int i_22, .int i_23, .int i_24, .ref a_37, .ref a_38, .ref a_39, .ref a_40, .ref a_41, .ref a_42, .ref a_43, .ref a_44, .ref a_45, .ref a_46])), (a_37, .inl (cy 1, 9, .inl f_20)), (a_38, .inl (cy 1, 9, .inl f_21)), (a_39, .inl (cy 1, 3, .inl f_22)), (a_40, .inl (cy 1, 210, .inl f_23)), (a_41, .inl (cy 1, 6, .inl f_24)), (a_42, .inl (cy 1, 48, .inl f_25)), (a_43, .inl (cy 1, 30, .inl f_26)), (a_44, .inl (cy 1, 30, .inl f_27)), (a_45, .inl (cy 1, 30, .inl f_28)), (a_46, .inl (cy 1, 30, .inl f_29)), (a_26, .inr (0, [.int i_1, .int i_2, .int i_3, .int i_4, .int i_5, .int i_6, .int i_7, .int i_8, .ref a_47, .ref a_48, .ref a_49, .ref a_50, .ref a_51, .ref a_52, .ref a_53, .ref a_54, .ref a_55, .ref a_56])), (a_47, .inl (cy 1, 9, .inl f_0)), (a_48, .inl (cy 1, 9, .inl f_1)), (a_49, .inl (cy 1, 3, .inl f_2)), (a_50, .inl (cy 1, 210, .inl f_3)), (a_51, .inl (cy 1, 6, .inl f_4)), (a_52, .inl (cy 1, 48, .inl f_5)), (a_53, .inl (cy 1, 30, .inl f_6)), (a_54, .inl (cy 1, 30, .inl f_7)), (a_55, .inl (cy 1, 30, .inl f_8)), (a_56, .inl (cy 1, 30, .inl f_9)), (a_5, .inl (cy 3, 3, .inl f_40))]) [2, 3, 4, 5, 6, 7, 8, 9, 10, 11, 12, 36, 37, 38, 39, 40, 41, 42, 43, 44, 45, 46] [0, 1, 13, 14, 15, 16, 17, 18, 19, 20, 21, 22, 23, 24, 25, 26, 27, 28, 29, 30, 31, 32, 33, 34, 35, 47] (n := 48) (fun _ => rfl) (by decide +kernel) (by decide +kernel) rfl (fun _ => rfl) (wr := [(a_0, .inr (11, [.ref a_1, .ref a_2, .ref a_3, .ref a_4, .ref a_5, .ref a_6, .ref a_7, .ref a_8, .ref a_9, .ref a_10, .ref a_11])), (a_3, .inr (10, [.ref a_12, .ref a_13])), (a_4, .inl (cy 4, 3, .inr (.inr (.inr (.inr (va_up (va_up (va_up (fun _ => none) 0 (some a_24)) 1 (some a_25)) 2 (some a_26))))))), (a_24, .inr (0, [.int i_9, .int i_10, .int i_11, .int i_12, .int i_13, .int i_14, .int i_15, .int i_16, .ref a_27, .ref a_28, .ref a_29, .ref a_30, .ref a_31, .ref a_32, .ref a_33, .ref a_34, .ref a_35, .ref a_36])), (a_27, .inl (cy 1, 9, .inl f_10)), (a_28, .inl (cy 1, 9, .inl f_11)), (a_29, .inl (cy 1, 3, .inl f_12)), (a_30, .inl (cy 1, 210, .inl f_13)), (a_31, .inl (cy 1, 6, .inl f_14)), (a_32, .inl (cy 1, 48, .inl f_15)), (a_33, .inl (cy 1, 30, .inl f_16)), (a_34, .inl (cy 1, 30, .inl f_17)), (a_35, .inl (cy 1, 30, .inl f_18)), (a_36, .inl (cy 1, 30, .inl f_19)), (a_25, .inr (0, [.int i_17, .int i_18, .int i_19, .int i_20, .int i_21, .int i_22, .int i_23, .int i_24, .ref a_37, .ref a_38, .ref a_39, .ref a_40, .ref a_41, .ref a_42, .ref a_43, .ref a_44, .ref a_45, .ref a_46])), (a_37, .inl (cy 1, 9, .inl f_20)), (a_38, .inl (cy 1, 9, .inl f_21)), (a_39, .inl (cy 1, 3, .inl f_22)), (a_40, .inl (cy 1, 210, .inl f_23)), (a_41, .inl (cy 1, 6, .inl f_24)), (a_42, .inl (cy 1, 48, .inl f_25)), (a_43, .inl (cy 1, 30, .inl f_26)), (a_44, .inl (cy 1, 30, .inl f_27)), (a_45, .inl (cy 1, 30, .inl f_28)), (a_46, .inl (cy 1, 30, .inl f_29)), (a_5, .inl (cy 3, 3, .inl f_40))]) rfl (fun _ => rfl) (fun _ => rfl) ?_
        clear hP hD hS
        clear H locs
        intro _u H locs hw (hP : va_P G vwCl [(a_0, .inr (11, [.ref a_1, .ref a_2, .ref a_3, .ref a_4, .ref a_5, .ref a_6, .ref a_7, .ref a_8, .ref a_9, .ref a_10, .ref a_11])), (a_3, .inr (10, [.ref a_12, .ref a_13])), (a_12, .inr (0, [.int i_1, .int i_2, .int i_3, .int i_4, .int i_5, .int i_6, .int i_7, .int i_8, .ref a_14, .ref a_15, .ref a_16, .ref a_17, .ref a_18, .ref a_19, .ref a_20, .ref a_21, .ref a_22, .ref a_23])), (a_14, .inl (cy 1, 9, .inl f_0)), (a_15, .inl (cy 1, 9, .inl f_1)), (a_16, .inl (cy 1, 3, .inl f_2)), (a_17, .inl (cy 1, 210, .inl f_3)), (a_18, .inl (cy 1, 6, .inl f_4)), (a_19, .inl (cy 1, 48, .inl f_5)), (a_20, .inl (cy 1, 30, .inl f_6)), (a_21, .inl (cy 1, 30, .inl f_7)), (a_22, .inl (cy 1, 30, .inl f_8)), (a_23, .inl (cy 1, 30, .inl f_9)), (a_4, .inl (cy 4, 3, .inr (.inr (.inr (.inr (va_up (va_up (va_up (fun _ => none) 0 (some a_24)) 1 (some a_25)) 2 (some a_26))))))), (a_24, .inr (0, [.int i_9, .int i_10, .int i_11, .int i_12, .int i_13, .int i_14, .int i_15, .int i_16, .ref a_27, .ref a_28, .ref a_29, .ref a_30, .ref a_31, .ref a_32, .ref a_33, .ref a_34, .ref a_35, .ref a_36])), (a_27, .inl (cy 1, 9, .inl f_10)), (a_28, .inl (cy 1, 9, .inl f_11)), (a_29, .inl (cy 1, 3, .inl f_12)), (a_30, .inl (cy 1, 210, .inl f_13)), (a_31, .inl (cy 1, 6, .inl f_14)), (a_32, .inl (cy 1, 48, .inl f_15)), (a_33, .inl (cy 1, 30, .inl f_16)), (a_34, .inl (cy 1, 30, .inl f_17)), (a_35, .inl (cy 1, 30, .inl f_18)), (a_36, .inl (cy 1, 30, .inl f_19)), (a_25, .inr (0, [.int i_17, .int i_18, .int i_19, .int i_20, .int i_21, .int i_22, .int i_23, .int i_24, .ref a_37, .ref a_38, .ref a_39, .ref a_40, .ref a_41, .ref a_42, .ref a_43, .ref a_44, .ref a_45, .ref a_46])), (a_37, .inl (cy 1, 9, .inl f_20)), (a_38, .inl (cy 1, 9, .inl f_21)), (a_39, .inl (cy 1, 3, .inl f_22)), (a_40, .inl (cy 1, 210, .inl f_23)), (a_41, .inl (cy 1, 6, .inl f_24)), (a_42, .inl (cy 1, 48, .inl f_25)), (a_43, .inl (cy 1, 30, .inl f_26)), (a_44, .inl (cy 1, 30, .inl f_27)), (a_45, .inl (cy 1, 30, .inl f_28)), (a_46, .inl (cy 1, 30, .inl f_29)), (a_26, .inr (0, [.int i_1, .int i_2, .int i_3, .int i_4, .int i_5, .int i_6, .int i_7, .int i_8, .ref a_47, .ref a_48, .ref a_49, .ref a_50, .ref a_51, .ref a_52, .ref a_53, .ref a_54, .ref a_55, .ref a_56])), (a_47, .inl (cy 1, 9, .inl f_0)), (a_48, .inl (cy 1, 9, .inl f_1)), (a_49, .inl (cy 1, 3, .inl f_2)), (a_50, .inl (cy 1, 210, .inl f_3)), (a_51, .inl (cy 1, 6, .inl f_4)), (a_52, .inl (cy 1, 48, .inl f_5)), (a_53, .inl (cy 1, 30, .inl f_6)), (a_54, .inl (cy 1, 30, .inl f_7)), (a_55, .inl (cy 1, 30, .inl f_8)), (a_56, .inl (cy 1, 30, .inl f_9)), (a_5, .inl (cy 3, 3, .inl f_40))] H) (hD : va_D A [(a_0, .inr (11, [.ref a_1, .ref a_2, .ref a_3, .ref a_4, .ref a_5, .ref a_6, .ref a_7, .ref a_8, .ref a_9, .ref a_10, .ref a_11])), (a_3, .inr (10, [.ref a_12, .ref a_13])), (a_12, .inr (0, [.int i_1, .int i_2, .int i_3, .int i_4, .int i_5, .int i_6, .int i_7, .int i_8, .ref a_14, .ref a_15, .ref a_16, .ref a_17, .ref a_18, .ref a_19, .ref a_20, .ref a_21, .ref a_22, .ref a_23])), (a_14, .inl (cy 1, 9, .inl f_0)), (a_15, .inl (cy 1, 9, .inl f_1)), (a_16, .inl (cy 1, 3, .inl f_2)), (a_17, .inl (cy 1, 210, .inl f_3)), (a_18, .inl (cy 1, 6, .inl f_4)), (a_19, .inl (cy 1, 48, .inl f_5)), (a_20, .inl (cy 1, 30, .inl f_6)), (a_21, .inl (cy 1, 30, .inl f_7)), (a_22, .inl (cy 1, 30, .inl f_8)), (a_23, .inl (cy 1, 30, .inl f_9)), (a_4, .inl (cy 4, 3, .inr (.inr (.inr (.inr (va_up (va_up (va_up (fun _ => none) 0 (some a_24)) 1 (some a_25)) 2 (some a_26))))))), (a_24, .inr (0, [.int i_9, .int i_10, .int i_11, .int i_12, .int i_13, .int i_14, .int i_15, .int i_16, .ref a_27, .ref a_28, .ref a_29, .ref a_30, .ref a_31, .ref a_32, .ref a_33, .ref a_34, .ref a_35, .ref a_36])), (a_27, .inl (cy 1, 9, .inl f_10)), (a_28, .inl (cy 1, 9, .inl f_11)), (a_29, .inl (cy 1, 3, .inl f_12)), (a_30, .inl (cy 1, 210, .inl f_13)), (a_31, .inl (cy 1, 6, .inl f_14)), (a_32, .inl (cy 1, 48, .inl f_15)), (a_33, .inl (cy 1, 30, .inl f_16)), (a_34, .inl (cy 1, 30, .inl f_17)), (a_35, .inl (cy 1, 30, .inl f_18)), (a_36, .inl (cy 1, 30, .inl f_19)), (a_25, .inr (0, [.int i_17, .int i_18, .int i_19, .int i_20, .int i_21, .int i_22, .int i_23, .int i_24, .ref a_37, .ref a_38, .ref a_39, .ref a_40, .ref a_41, .ref a_42, .ref a_43, .ref a_44, .ref a_45, .ref a_46])), (a_37, .inl (cy 1, 9, .inl f_20)), (a_38, .inl (cy 1, 9, .inl f_21)), (a_39, .inl (cy 1, 3, .inl f_22)), (a_40, .inl (cy 1, 210, .inl f_23)), (a_41, .inl (cy 1, 6, .inl f_24)), (a_42, .inl (cy 1, 48, .inl f_25)), (a_43, .inl (cy 1, 30, .inl f_26)), (a_44, .inl (cy 1, 30, .inl f_27)), (a_45, .inl (cy 1, 30, .inl f_28)), (a_46, .inl (cy 1, 30, .inl f_29)), (a_26, .inr (0, [.int i_1, .int i_2, .int i_3, .int i_4, .int i_5, .int i_6, .int i_7, .int i_8, .ref a_47, .ref a_48, .ref a_49, .ref a_50, .ref a_51, .ref a_52, .ref a_53, .ref a_54, .ref a_55, .ref a_56])), (a_47, .inl (cy 1, 9, .inl f_0)), (a_48, .inl (cy 1, 9, .inl f_1)), (a_49, .inl (cy 1, 3, .inl f_2)), (a_50, .inl (cy 1, 210, .inl f_3)), (a_51, .inl (cy 1, 6, .inl f_4)), (a_52, .inl (cy 1, 48, .inl f_5)), (a_53, .inl (cy 1, 30, .inl f_6)), (a_54, .inl (cy 1, 30, .inl f_7)), (a_55, .inl (cy 1, 30, .inl f_8)), (a_56, .inl (cy 1, 30, .inl f_9)), (a_5, .inl (cy 3, 3, .inl f_40))]) hS
        refine lv_aload_n hx hb dX11_image_28 rfl (lv_at hl 0 rfl) ?_
        refine va_get (D := G) (ci := 11) (v := .ref a_5) (C := RX11) (T := TX11) (N := 11) hx hb hts (mm_i inlX11) hown hK.1 hP 0 rfl rfl 4 (by decide) (mm_h hts mm_w30) (fun _ h9 => h9) rfl dX11_image_29 ?_
        refine lv_iload_n hx hb dX11_image_32 rfl (lv_at hl 1 rfl) ?_
        refine lv_iconst (v := 1) hx hb dX11_image_33 (by decide) ?_
        refine va_zast hx hb hK.1 hP hD hS 47 3 rfl rfl (mm_in mm_k2 (by decide)) dX11_image_34 ?_
        clear hP hD hS
        clear H locs
        obtain ⟨g9, eg9⟩ : ∃ z : Nat → Int32, z = upd f_40 (2 : Int32).toNatClampNeg (vp_nar .boolean 1) := ⟨_, rfl⟩
        rw [← eg9]
        intro H locs (hP : va_P G vwCl [(a_0, .inr (11, [.ref a_1, .ref a_2, .ref a_3, .ref a_4, .ref a_5, .ref a_6, .ref a_7, .ref a_8, .ref a_9, .ref a_10, .ref a_11])), (a_3, .inr (10, [.ref a_12, .ref a_13])), (a_12, .inr (0, [.int i_1, .int i_2, .int i_3, .int i_4, .int i_5, .int i_6, .int i_7, .int i_8, .ref a_14, .ref a_15, .ref a_16, .ref a_17, .ref a_18, .ref a_19, .ref a_20, .ref a_21, .ref a_22, .ref a_23])), (a_14, .inl (cy 1, 9, .inl f_0)), (a_15, .inl (cy 1, 9, .inl f_1)), (a_16, .inl (cy 1, 3, .inl f_2)), (a_17, .inl (cy 1, 210, .inl f_3)), (a_18, .inl (cy 1, 6, .inl f_4)), (a_19, .inl (cy 1, 48, .inl f_5)), (a_20, .inl (cy 1, 30, .inl f_6)), (a_21, .inl (cy 1, 30, .inl f_7)), (a_22, .inl (cy 1, 30, .inl f_8)), (a_23, .inl (cy 1, 30, .inl f_9)), (a_4, .inl (cy 4, 3, .inr (.inr (.inr (.inr (va_up (va_up (va_up (fun _ => none) 0 (some a_24)) 1 (some a_25)) 2 (some a_26))))))), (a_24, .inr (0, [.int i_9, .int i_10, .int i_11, .int i_12, .int i_13, .int i_14, .int i_15, .int i_16, .ref a_27, .ref a_28, .ref a_29, .ref a_30, .ref a_31, .ref a_32, .ref a_33, .ref a_34, .ref a_35, .ref a_36])), (a_27, .inl (cy 1, 9, .inl f_10)), (a_28, .inl (cy 1, 9, .inl f_11)), (a_29, .inl (cy 1, 3, .inl f_12)), (a_30, .inl (cy 1, 210, .inl f_13)), (a_31, .inl (cy 1, 6, .inl f_14)), (a_32, .inl (cy 1, 48, .inl f_15)), (a_33, .inl (cy 1, 30, .inl f_16)), (a_34, .inl (cy 1, 30, .inl f_17)), (a_35, .inl (cy 1, 30, .inl f_18)), (a_36, .inl (cy 1, 30, .inl f_19)), (a_25, .inr (0, [.int i_17, .int i_18, .int i_19, .int i_20, .int i_21, .int i_22, .int i_23, .int i_24, .ref a_37, .ref a_38, .ref a_39, .ref a_40, .ref a_41, .ref a_42, .ref a_43, .ref a_44, .ref a_45, .ref a_46])), (a_37, .inl (cy 1, 9, .inl f_20)), (a_38, .inl (cy 1, 9, .inl f_21)), (a_39, .inl (cy 1, 3, .inl f_22)), (a_40, .inl (cy 1, 210, .inl f_23)), (a_41, .inl (cy 1, 6, .inl f_24)), (a_42, .inl (cy 1, 48, .inl f_25)), (a_43, .inl (cy 1, 30, .inl f_26)), (a_44, .inl (cy 1, 30, .inl f_27)), (a_45, .inl (cy 1, 30, .inl f_28)), (a_46, .inl (cy 1, 30, .inl f_29)), (a_26, .inr (0, [.int i_1, .int i_2, .int i_3, .int i_4, .int i_5, .int i_6, .int i_7, .int i_8, .ref a_47, .ref a_48, .ref a_49, .ref a_50, .ref a_51, .ref a_52, .ref a_53, .ref a_54, .ref a_55, .ref a_56])), (a_47, .inl (cy 1, 9, .inl f_0)), (a_48, .inl (cy 1, 9, .inl f_1)), (a_49, .inl (cy 1, 3, .inl f_2)), (a_50, .inl (cy 1, 210, .inl f_3)), (a_51, .inl (cy 1, 6, .inl f_4)), (a_52, .inl (cy 1, 48, .inl f_5)), (a_53, .inl (cy 1, 30, .inl f_6)), (a_54, .inl (cy 1, 30, .inl f_7)), (a_55, .inl (cy 1, 30, .inl f_8)), (a_56, .inl (cy 1, 30, .inl f_9)), (a_5, .inl (cy 3, 3, .inl g9))] H) (hD : va_D A [(a_0, .inr (11, [.ref a_1, .ref a_2, .ref a_3, .ref a_4, .ref a_5, .ref a_6, .ref a_7, .ref a_8, .ref a_9, .ref a_10, .ref a_11])), (a_3, .inr (10, [.ref a_12, .ref a_13])), (a_12, .inr (0, [.int i_1, .int i_2, .int i_3, .int i_4, .int i_5, .int i_6, .int i_7, .int i_8, .ref a_14, .ref a_15, .ref a_16, .ref a_17, .ref a_18, .ref a_19, .ref a_20, .ref a_21, .ref a_22, .ref a_23])), (a_14, .inl (cy 1, 9, .inl f_0)), (a_15, .inl (cy 1, 9, .inl f_1)), (a_16, .inl (cy 1, 3, .inl f_2)), (a_17, .inl (cy 1, 210, .inl f_3)), (a_18, .inl (cy 1, 6, .inl f_4)), (a_19, .inl (cy 1, 48, .inl f_5)), (a_20, .inl (cy 1, 30, .inl f_6)), (a_21, .inl (cy 1, 30, .inl f_7)), (a_22, .inl (cy 1, 30, .inl f_8)), (a_23, .inl (cy 1, 30, .inl f_9)), (a_4, .inl (cy 4, 3, .inr (.inr (.inr (.inr (va_up (va_up (va_up (fun _ => none) 0 (some a_24)) 1 (some a_25)) 2 (some a_26))))))), (a_24, .inr (0, [.int i_9, .int i_10, .int i_11, .int i_12, .int i_13, .int i_14, .int i_15, .int i_16, .ref a_27, .ref a_28, .ref a_29, .ref a_30, .ref a_31, .ref a_32, .ref a_33, .ref a_34, .ref a_35, .ref a_36])), (a_27, .inl (cy 1, 9, .inl f_10)), (a_28, .inl (cy 1, 9, .inl f_11)), (a_29, .inl (cy 1, 3, .inl f_12)), (a_30, .inl (cy 1, 210, .inl f_13)), (a_31, .inl (cy 1, 6, .inl f_14)), (a_32, .inl (cy 1, 48, .inl f_15)), (a_33, .inl (cy 1, 30, .inl f_16)), (a_34, .inl (cy 1, 30, .inl f_17)), (a_35, .inl (cy 1, 30, .inl f_18)), (a_36, .inl (cy 1, 30, .inl f_19)), (a_25, .inr (0, [.int i_17, .int i_18, .int i_19, .int i_20, .int i_21, .int i_22, .int i_23, .int i_24, .ref a_37, .ref a_38, .ref a_39, .ref a_40, .ref a_41, .ref a_42, .ref a_43, .ref a_44, .ref a_45, .ref a_46])), (a_37, .inl (cy 1, 9, .inl f_20)), (a_38, .inl (cy 1, 9, .inl f_21)), (a_39, .inl (cy 1, 3, .inl f_22)), (a_40, .inl (cy 1, 210, .inl f_23)), (a_41, .inl (cy 1, 6, .inl f_24)), (a_42, .inl (cy 1, 48, .inl f_25)), (a_43, .inl (cy 1, 30, .inl f_26)), (a_44, .inl (cy 1, 30, .inl f_27)), (a_45, .inl (cy 1, 30, .inl f_28)), (a_46, .inl (cy 1, 30, .inl f_29)), (a_26, .inr (0, [.int i_1, .int i_2, .int i_3, .int i_4, .int i_5, .int i_6, .int i_7, .int i_8, .ref a_47, .ref a_48, .ref a_49, .ref a_50, .ref a_51, .ref a_52, .ref a_53, .ref a_54, .ref a_55, .ref a_56])), (a_47, .inl (cy 1, 9, .inl f_0)), (a_48, .inl (cy 1, 9, .inl f_1)), (a_49, .inl (cy 1, 3, .inl f_2)), (a_50, .inl (cy 1, 210, .inl f_3)), (a_51, .inl (cy 1, 6, .inl f_4)), (a_52, .inl (cy 1, 48, .inl f_5)), (a_53, .inl (cy 1, 30, .inl f_6)), (a_54, .inl (cy 1, 30, .inl f_7)), (a_55, .inl (cy 1, 30, .inl f_8)), (a_56, .inl (cy 1, 30, .inl f_9)), (a_5, .inl (cy 3, 3, .inl g9))]) hS
        have rg9 : mm_ar g9 0 1 := by rw [eg9]; exact mm_ar_upd (mm_ar_wk h68 (by decide)) (mm_nz1 1) _
        refine lv_iconst (v := 0) hx hb dX11_image_35 (by decide) ?_
        subst hAe
        rw [hQ]
        exact W.iret (v := 0) hx hb hr (fun t ht hW => ⟨⟨0, (i_9, i_10, i_11, i_12, i_13, i_14, i_15, i_16, f_10, f_11, f_12, f_13, f_14, f_15, f_16, f_17, f_18, f_19, i_17, i_18, i_19, i_20, i_21, i_22, i_23, i_24, f_20, f_21, f_22, f_23, f_24, f_25, f_26, f_27, f_28, f_29, i_1, i_2, i_3, i_4, i_5, i_6, i_7, i_8, f_0, f_1, f_2, f_3, f_4, f_5, f_6, f_7, f_8, f_9, g9), rfl, ⟨h17, h18, h19, h20, h21, h22, h23, h24, h25, h26, h27, h28, h29, h30, h31, h32, h33, h34, h35, h36, h37, h38, h39, h40, h41, h42, h43, h44, h45, h46, h47, h48, h49, h50, h0, h1, h2, h3, h4, h5, h6, h7, h8, h9, h10, h11, h12, h13, h14, h15, h16, rg9, h70, h71, h69, (mm_wk mm_k0 (by decide))⟩, by rw [ht]; exact hP, hK.warm hW, hD⟩, hS.F ht⟩) hS.2.2 dX11_image_36
    · have q10 := mm_leR (mm_nlt c4) mm_k3 q3
      refine lv_bipush (v := (-2)) hx hb dX11_image_9 (by decide) ?_
      subst hAe
      rw [hQ]
      exact W.iret (v := (-2)) hx hb hr (fun t ht hW => ⟨⟨(-2), (i_9, i_10, i_11, i_12, i_13, i_14, i_15, i_16, f_10, f_11, f_12, f_13, f_14, f_15, f_16, f_17, f_18, f_19, i_17, i_18, i_19, i_20, i_21, i_22, i_23, i_24, f_20, f_21, f_22, f_23, f_24, f_25, f_26, f_27, f_28, f_29, i_25, i_26, i_27, i_28, i_29, i_30, i_31, i_32, f_30, f_31, f_32, f_33, f_34, f_35, f_36, f_37, f_38, f_39, f_40), rfl, ⟨h17, h18, h19, h20, h21, h22, h23, h24, h25, h26, h27, h28, h29, h30, h31, h32, h33, h34, h35, h36, h37, h38, h39, h40, h41, h42, h43, h44, h45, h46, h47, h48, h49, h50, h51, h52, h53, h54, h55, h56, h57, h58, h59, h60, h61, h62, h63, h64, h65, h66, h67, h68, h70, h71, h72, (mm_wk mm_km2 (by decide))⟩, by rw [ht]; exact hP, hK.warm hW, hD⟩, hS.F ht⟩) hS.2.2 dX11_image_11

set_option maxHeartbeats 4000000 in
set_option maxRecDepth 100000 in
theorem K524_X0_copyRow (l : Launch) (G : va_G) (cy : Nat → ClassId) (sz : Nat) (a_0 : Nat) (a_1 : Nat) (f_0 : Nat → Int32) (f_1 : Nat → Int32) (h0 : mm_ar f_0 (-1) 4) (h1 : mm_ar f_1 (-1) 4)  : mm_CV l yX0_copyRow (mm_ws yX0_copyRow cX0_copyRow 2 (none)) ({ frames := 1, cells := 0, slots := 0, locals := 64 } : Room) G cy sz [(a_1, .inl (cy 1, 9, .inl f_0)), (a_0, .inl (cy 1, 9, .inl f_1))] [.ref a_0, .ref a_1] (fun u : Unit => [(a_1, .inl (cy 1, 9, .inl f_1)), (a_0, .inl (cy 1, 9, .inl f_1))]) (fun u : Unit => True) 0 0 := by
  refine mm_begin (lv := [(0, .ref a_0), (1, .ref a_1)]) (by decide) (Nat.le_of_ble_eq_true rfl) rfl ?_
  intro p e s m below meth c A ls R args Q H locs hRe hQ hAe hx hb hr hlocks hml hown hnm hts hsz hA hS hP hK hD hZ hl
  have hRf : R.frames = 1 := by rw [hRe]
  have hRl : R.locals = 64 := by rw [hRe]
  have hRc : R.cells = 0 := by rw [hRe]
  have hRs : R.slots = 0 := by rw [hRe]
  refine lv_aload_n hx hb dX0_copyRow_0 rfl (lv_at hl 0 rfl) ?_
  refine lv_iconst (v := 0) hx hb dX0_copyRow_1 (by decide) ?_
  refine lv_aload_n hx hb dX0_copyRow_2 rfl (lv_at hl 1 rfl) ?_
  refine lv_iconst (v := 0) hx hb dX0_copyRow_3 (by decide) ?_
  refine lv_aload_n hx hb dX0_copyRow_4 rfl (lv_at hl 0 rfl) ?_
  refine va_alen (v := 9) hx hb hK.1 hP 1 1 rfl rfl rfl dX0_copyRow_5 ?_
  refine lv_aload_n hx hb dX0_copyRow_6 rfl (lv_at hl 1 rfl) ?_
  refine va_alen (v := 9) hx hb hK.1 hP 0 1 rfl rfl rfl dX0_copyRow_7 ?_
  refine va_mmin hx hb (by rw [hml]; exact hl.1.symm) hown (mm_h hts mm_w384) (mm_h hts mm_w385) (mm_h hts mm_w346) (mm_h hts mm_w386) (by rw [hRf]; exact Nat.le_of_ble_eq_true rfl) (by rw [hRl]; exact Nat.le_of_ble_eq_true rfl) (by rw [hRc]; exact Nat.le_of_ble_eq_true rfl) (by rw [hRs]; exact Nat.le_of_ble_eq_true rfl) dX0_copyRow_8 ?_
  refine lv_topi (fun v1 ev1 => ?_)
  obtain rfl : v1 = 9 := ev1.trans (by decide)
  refine va_copyi hx hb (by rw [hml]; exact hl.1.symm) hown (mm_h hts mm_w387) (mm_h hts mm_w388) (mm_h hts mm_w389) (mm_h hts mm_w390) hK.1 hP hD hS 1 0 1 1 rfl rfl rfl rfl rfl (by decide) (by decide) (by decide) (by decide) (by decide) (fun _ _ => rfl) (by rw [hRf]; exact Nat.le_of_ble_eq_true rfl) (by rw [hRl]; exact Nat.le_of_ble_eq_true rfl) dX0_copyRow_11 ?_
  clear hP hD hS
  clear H locs
  obtain ⟨g2, eg2⟩ : ∃ z : Nat → Int32, z = va_cpy f_1 f_0 (0 : Int32).toNatClampNeg (0 : Int32).toNatClampNeg (9 : Int32).toNatClampNeg := ⟨_, rfl⟩
  rw [← eg2]
  intro H locs (hP : va_P G vwCl [(a_1, .inl (cy 1, 9, .inl g2)), (a_0, .inl (cy 1, 9, .inl f_1))] H) (hD : va_D A [(a_1, .inl (cy 1, 9, .inl g2)), (a_0, .inl (cy 1, 9, .inl f_1))]) hS
  have rg2 : mm_ar g2 (-1) 4 := by rw [eg2]; exact mm_ar_cpy (mm_ar_wk h1 (by decide)) (mm_ar_wk h0 (by decide)) _ _ _
  have hq := mm_recont hP hD 0 rfl (g := f_1) (by rw [eg2]; exact mm_cpyF (by decide))
  replace hP := hq.1
  replace hD := hq.2
  clear hq
  replace hP : va_P G vwCl [(a_1, .inl (cy 1, 9, .inl f_1)), (a_0, .inl (cy 1, 9, .inl f_1))] H := hP
  replace hD : va_D A [(a_1, .inl (cy 1, 9, .inl f_1)), (a_0, .inl (cy 1, 9, .inl f_1))] := hD
  subst hAe
  rw [hQ]
  exact W.vret hx hb hr (fun t ht hW => ⟨⟨(), rfl, trivial, by rw [ht]; exact hP, hK.warm hW, hD⟩, hS.F ht⟩) hS.2.2 dX0_copyRow_14

set_option maxHeartbeats 4000000 in
set_option maxRecDepth 100000 in
theorem K525_X0_copyRow (l : Launch) (G : va_G) (cy : Nat → ClassId) (sz : Nat) (a_0 : Nat) (a_1 : Nat) (f_0 : Nat → Int32) (f_1 : Nat → Int32) (h0 : mm_ar f_0 0 99) (h1 : mm_ar f_1 0 99)  : mm_CV l yX0_copyRow (mm_ws yX0_copyRow cX0_copyRow 2 (none)) ({ frames := 1, cells := 0, slots := 0, locals := 64 } : Room) G cy sz [(a_1, .inl (cy 1, 9, .inl f_0)), (a_0, .inl (cy 1, 9, .inl f_1))] [.ref a_0, .ref a_1] (fun u : Unit => [(a_1, .inl (cy 1, 9, .inl f_1)), (a_0, .inl (cy 1, 9, .inl f_1))]) (fun u : Unit => True) 0 0 := by
  refine mm_begin (lv := [(0, .ref a_0), (1, .ref a_1)]) (by decide) (Nat.le_of_ble_eq_true rfl) rfl ?_
  intro p e s m below meth c A ls R args Q H locs hRe hQ hAe hx hb hr hlocks hml hown hnm hts hsz hA hS hP hK hD hZ hl
  have hRf : R.frames = 1 := by rw [hRe]
  have hRl : R.locals = 64 := by rw [hRe]
  have hRc : R.cells = 0 := by rw [hRe]
  have hRs : R.slots = 0 := by rw [hRe]
  refine lv_aload_n hx hb dX0_copyRow_0 rfl (lv_at hl 0 rfl) ?_
  refine lv_iconst (v := 0) hx hb dX0_copyRow_1 (by decide) ?_
  refine lv_aload_n hx hb dX0_copyRow_2 rfl (lv_at hl 1 rfl) ?_
  refine lv_iconst (v := 0) hx hb dX0_copyRow_3 (by decide) ?_
  refine lv_aload_n hx hb dX0_copyRow_4 rfl (lv_at hl 0 rfl) ?_
  refine va_alen (v := 9) hx hb hK.1 hP 1 1 rfl rfl rfl dX0_copyRow_5 ?_
  refine lv_aload_n hx hb dX0_copyRow_6 rfl (lv_at hl 1 rfl) ?_
  refine va_alen (v := 9) hx hb hK.1 hP 0 1 rfl rfl rfl dX0_copyRow_7 ?_
  refine va_mmin hx hb (by rw [hml]; exact hl.1.symm) hown (mm_h hts mm_w384) (mm_h hts mm_w385) (mm_h hts mm_w346) (mm_h hts mm_w386) (by rw [hRf]; exact Nat.le_of_ble_eq_true rfl) (by rw [hRl]; exact Nat.le_of_ble_eq_true rfl) (by rw [hRc]; exact Nat.le_of_ble_eq_true rfl) (by rw [hRs]; exact Nat.le_of_ble_eq_true rfl) dX0_copyRow_8 ?_
  refine lv_topi (fun v1 ev1 => ?_)
  obtain rfl : v1 = 9 := ev1.trans (by decide)
  refine va_copyi hx hb (by rw [hml]; exact hl.1.symm) hown (mm_h hts mm_w387) (mm_h hts mm_w388) (mm_h hts mm_w389) (mm_h hts mm_w390) hK.1 hP hD hS 1 0 1 1 rfl rfl rfl rfl rfl (by decide) (by decide) (by decide) (by decide) (by decide) (fun _ _ => rfl) (by rw [hRf]; exact Nat.le_of_ble_eq_true rfl) (by rw [hRl]; exact Nat.le_of_ble_eq_true rfl) dX0_copyRow_11 ?_
  clear hP hD hS
  clear H locs
  obtain ⟨g2, eg2⟩ : ∃ z : Nat → Int32, z = va_cpy f_1 f_0 (0 : Int32).toNatClampNeg (0 : Int32).toNatClampNeg (9 : Int32).toNatClampNeg := ⟨_, rfl⟩
  rw [← eg2]
  intro H locs (hP : va_P G vwCl [(a_1, .inl (cy 1, 9, .inl g2)), (a_0, .inl (cy 1, 9, .inl f_1))] H) (hD : va_D A [(a_1, .inl (cy 1, 9, .inl g2)), (a_0, .inl (cy 1, 9, .inl f_1))]) hS
  have rg2 : mm_ar g2 0 99 := by rw [eg2]; exact mm_ar_cpy (mm_ar_wk h1 (by decide)) (mm_ar_wk h0 (by decide)) _ _ _
  have hq := mm_recont hP hD 0 rfl (g := f_1) (by rw [eg2]; exact mm_cpyF (by decide))
  replace hP := hq.1
  replace hD := hq.2
  clear hq
  replace hP : va_P G vwCl [(a_1, .inl (cy 1, 9, .inl f_1)), (a_0, .inl (cy 1, 9, .inl f_1))] H := hP
  replace hD : va_D A [(a_1, .inl (cy 1, 9, .inl f_1)), (a_0, .inl (cy 1, 9, .inl f_1))] := hD
  subst hAe
  rw [hQ]
  exact W.vret hx hb hr (fun t ht hW => ⟨⟨(), rfl, trivial, by rw [ht]; exact hP, hK.warm hW, hD⟩, hS.F ht⟩) hS.2.2 dX0_copyRow_14

set_option maxHeartbeats 4000000 in
set_option maxRecDepth 100000 in
theorem K526_X0_copyRow (l : Launch) (G : va_G) (cy : Nat → ClassId) (sz : Nat) (a_0 : Nat) (a_1 : Nat) (f_0 : Nat → Int32) (f_1 : Nat → Int32) (h0 : mm_ar f_0 0 7) (h1 : mm_ar f_1 0 7)  : mm_CV l yX0_copyRow (mm_ws yX0_copyRow cX0_copyRow 2 (none)) ({ frames := 1, cells := 0, slots := 0, locals := 64 } : Room) G cy sz [(a_1, .inl (cy 1, 3, .inl f_0)), (a_0, .inl (cy 1, 3, .inl f_1))] [.ref a_0, .ref a_1] (fun u : Unit => [(a_1, .inl (cy 1, 3, .inl f_1)), (a_0, .inl (cy 1, 3, .inl f_1))]) (fun u : Unit => True) 0 0 := by
  refine mm_begin (lv := [(0, .ref a_0), (1, .ref a_1)]) (by decide) (Nat.le_of_ble_eq_true rfl) rfl ?_
  intro p e s m below meth c A ls R args Q H locs hRe hQ hAe hx hb hr hlocks hml hown hnm hts hsz hA hS hP hK hD hZ hl
  have hRf : R.frames = 1 := by rw [hRe]
  have hRl : R.locals = 64 := by rw [hRe]
  have hRc : R.cells = 0 := by rw [hRe]
  have hRs : R.slots = 0 := by rw [hRe]
  refine lv_aload_n hx hb dX0_copyRow_0 rfl (lv_at hl 0 rfl) ?_
  refine lv_iconst (v := 0) hx hb dX0_copyRow_1 (by decide) ?_
  refine lv_aload_n hx hb dX0_copyRow_2 rfl (lv_at hl 1 rfl) ?_
  refine lv_iconst (v := 0) hx hb dX0_copyRow_3 (by decide) ?_
  refine lv_aload_n hx hb dX0_copyRow_4 rfl (lv_at hl 0 rfl) ?_
  refine va_alen (v := 3) hx hb hK.1 hP 1 1 rfl rfl rfl dX0_copyRow_5 ?_
  refine lv_aload_n hx hb dX0_copyRow_6 rfl (lv_at hl 1 rfl) ?_
  refine va_alen (v := 3) hx hb hK.1 hP 0 1 rfl rfl rfl dX0_copyRow_7 ?_
  refine va_mmin hx hb (by rw [hml]; exact hl.1.symm) hown (mm_h hts mm_w384) (mm_h hts mm_w385) (mm_h hts mm_w346) (mm_h hts mm_w386) (by rw [hRf]; exact Nat.le_of_ble_eq_true rfl) (by rw [hRl]; exact Nat.le_of_ble_eq_true rfl) (by rw [hRc]; exact Nat.le_of_ble_eq_true rfl) (by rw [hRs]; exact Nat.le_of_ble_eq_true rfl) dX0_copyRow_8 ?_
  refine lv_topi (fun v1 ev1 => ?_)
  obtain rfl : v1 = 3 := ev1.trans (by decide)
  refine va_copyi hx hb (by rw [hml]; exact hl.1.symm) hown (mm_h hts mm_w387) (mm_h hts mm_w388) (mm_h hts mm_w389) (mm_h hts mm_w390) hK.1 hP hD hS 1 0 1 1 rfl rfl rfl rfl rfl (by decide) (by decide) (by decide) (by decide) (by decide) (fun _ _ => rfl) (by rw [hRf]; exact Nat.le_of_ble_eq_true rfl) (by rw [hRl]; exact Nat.le_of_ble_eq_true rfl) dX0_copyRow_11 ?_
  clear hP hD hS
  clear H locs
  obtain ⟨g2, eg2⟩ : ∃ z : Nat → Int32, z = va_cpy f_1 f_0 (0 : Int32).toNatClampNeg (0 : Int32).toNatClampNeg (3 : Int32).toNatClampNeg := ⟨_, rfl⟩
  rw [← eg2]
  intro H locs (hP : va_P G vwCl [(a_1, .inl (cy 1, 3, .inl g2)), (a_0, .inl (cy 1, 3, .inl f_1))] H) (hD : va_D A [(a_1, .inl (cy 1, 3, .inl g2)), (a_0, .inl (cy 1, 3, .inl f_1))]) hS
  have rg2 : mm_ar g2 0 7 := by rw [eg2]; exact mm_ar_cpy (mm_ar_wk h1 (by decide)) (mm_ar_wk h0 (by decide)) _ _ _
  have hq := mm_recont hP hD 0 rfl (g := f_1) (by rw [eg2]; exact mm_cpyF (by decide))
  replace hP := hq.1
  replace hD := hq.2
  clear hq
  replace hP : va_P G vwCl [(a_1, .inl (cy 1, 3, .inl f_1)), (a_0, .inl (cy 1, 3, .inl f_1))] H := hP
  replace hD : va_D A [(a_1, .inl (cy 1, 3, .inl f_1)), (a_0, .inl (cy 1, 3, .inl f_1))] := hD
  subst hAe
  rw [hQ]
  exact W.vret hx hb hr (fun t ht hW => ⟨⟨(), rfl, trivial, by rw [ht]; exact hP, hK.warm hW, hD⟩, hS.F ht⟩) hS.2.2 dX0_copyRow_14

set_option maxHeartbeats 4000000 in
set_option maxRecDepth 100000 in
theorem K527_X0_copyRow (l : Launch) (G : va_G) (cy : Nat → ClassId) (sz : Nat) (a_0 : Nat) (a_1 : Nat) (f_0 : Nat → Int32) (f_1 : Nat → Int32) (h0 : mm_ar f_0 0 9) (h1 : mm_ar f_1 0 9)  : mm_CV l yX0_copyRow (mm_ws yX0_copyRow cX0_copyRow 2 (none)) ({ frames := 1, cells := 0, slots := 0, locals := 64 } : Room) G cy sz [(a_1, .inl (cy 1, 210, .inl f_0)), (a_0, .inl (cy 1, 210, .inl f_1))] [.ref a_0, .ref a_1] (fun u : Unit => [(a_1, .inl (cy 1, 210, .inl f_1)), (a_0, .inl (cy 1, 210, .inl f_1))]) (fun u : Unit => True) 0 0 := by
  refine mm_begin (lv := [(0, .ref a_0), (1, .ref a_1)]) (by decide) (Nat.le_of_ble_eq_true rfl) rfl ?_
  intro p e s m below meth c A ls R args Q H locs hRe hQ hAe hx hb hr hlocks hml hown hnm hts hsz hA hS hP hK hD hZ hl
  have hRf : R.frames = 1 := by rw [hRe]
  have hRl : R.locals = 64 := by rw [hRe]
  have hRc : R.cells = 0 := by rw [hRe]
  have hRs : R.slots = 0 := by rw [hRe]
  refine lv_aload_n hx hb dX0_copyRow_0 rfl (lv_at hl 0 rfl) ?_
  refine lv_iconst (v := 0) hx hb dX0_copyRow_1 (by decide) ?_
  refine lv_aload_n hx hb dX0_copyRow_2 rfl (lv_at hl 1 rfl) ?_
  refine lv_iconst (v := 0) hx hb dX0_copyRow_3 (by decide) ?_
  refine lv_aload_n hx hb dX0_copyRow_4 rfl (lv_at hl 0 rfl) ?_
  refine va_alen (v := 210) hx hb hK.1 hP 1 1 rfl rfl rfl dX0_copyRow_5 ?_
  refine lv_aload_n hx hb dX0_copyRow_6 rfl (lv_at hl 1 rfl) ?_
  refine va_alen (v := 210) hx hb hK.1 hP 0 1 rfl rfl rfl dX0_copyRow_7 ?_
  refine va_mmin hx hb (by rw [hml]; exact hl.1.symm) hown (mm_h hts mm_w384) (mm_h hts mm_w385) (mm_h hts mm_w346) (mm_h hts mm_w386) (by rw [hRf]; exact Nat.le_of_ble_eq_true rfl) (by rw [hRl]; exact Nat.le_of_ble_eq_true rfl) (by rw [hRc]; exact Nat.le_of_ble_eq_true rfl) (by rw [hRs]; exact Nat.le_of_ble_eq_true rfl) dX0_copyRow_8 ?_
  refine lv_topi (fun v1 ev1 => ?_)
  obtain rfl : v1 = 210 := ev1.trans (by decide)
  refine va_copyi hx hb (by rw [hml]; exact hl.1.symm) hown (mm_h hts mm_w387) (mm_h hts mm_w388) (mm_h hts mm_w389) (mm_h hts mm_w390) hK.1 hP hD hS 1 0 1 1 rfl rfl rfl rfl rfl (by decide) (by decide) (by decide) (by decide) (by decide) (fun _ _ => rfl) (by rw [hRf]; exact Nat.le_of_ble_eq_true rfl) (by rw [hRl]; exact Nat.le_of_ble_eq_true rfl) dX0_copyRow_11 ?_
  clear hP hD hS
  clear H locs
  obtain ⟨g2, eg2⟩ : ∃ z : Nat → Int32, z = va_cpy f_1 f_0 (0 : Int32).toNatClampNeg (0 : Int32).toNatClampNeg (210 : Int32).toNatClampNeg := ⟨_, rfl⟩
  rw [← eg2]
  intro H locs (hP : va_P G vwCl [(a_1, .inl (cy 1, 210, .inl g2)), (a_0, .inl (cy 1, 210, .inl f_1))] H) (hD : va_D A [(a_1, .inl (cy 1, 210, .inl g2)), (a_0, .inl (cy 1, 210, .inl f_1))]) hS
  have rg2 : mm_ar g2 0 9 := by rw [eg2]; exact mm_ar_cpy (mm_ar_wk h1 (by decide)) (mm_ar_wk h0 (by decide)) _ _ _
  have hq := mm_recont hP hD 0 rfl (g := f_1) (by rw [eg2]; exact mm_cpyF (by decide))
  replace hP := hq.1
  replace hD := hq.2
  clear hq
  replace hP : va_P G vwCl [(a_1, .inl (cy 1, 210, .inl f_1)), (a_0, .inl (cy 1, 210, .inl f_1))] H := hP
  replace hD : va_D A [(a_1, .inl (cy 1, 210, .inl f_1)), (a_0, .inl (cy 1, 210, .inl f_1))] := hD
  subst hAe
  rw [hQ]
  exact W.vret hx hb hr (fun t ht hW => ⟨⟨(), rfl, trivial, by rw [ht]; exact hP, hK.warm hW, hD⟩, hS.F ht⟩) hS.2.2 dX0_copyRow_14

set_option maxHeartbeats 4000000 in
set_option maxRecDepth 100000 in
theorem K528_X0_copyRow (l : Launch) (G : va_G) (cy : Nat → ClassId) (sz : Nat) (a_0 : Nat) (a_1 : Nat) (f_0 : Nat → Int32) (f_1 : Nat → Int32) (h0 : mm_ar f_0 0 8) (h1 : mm_ar f_1 0 8)  : mm_CV l yX0_copyRow (mm_ws yX0_copyRow cX0_copyRow 2 (none)) ({ frames := 1, cells := 0, slots := 0, locals := 64 } : Room) G cy sz [(a_1, .inl (cy 1, 6, .inl f_0)), (a_0, .inl (cy 1, 6, .inl f_1))] [.ref a_0, .ref a_1] (fun u : Unit => [(a_1, .inl (cy 1, 6, .inl f_1)), (a_0, .inl (cy 1, 6, .inl f_1))]) (fun u : Unit => True) 0 0 := by
  refine mm_begin (lv := [(0, .ref a_0), (1, .ref a_1)]) (by decide) (Nat.le_of_ble_eq_true rfl) rfl ?_
  intro p e s m below meth c A ls R args Q H locs hRe hQ hAe hx hb hr hlocks hml hown hnm hts hsz hA hS hP hK hD hZ hl
  have hRf : R.frames = 1 := by rw [hRe]
  have hRl : R.locals = 64 := by rw [hRe]
  have hRc : R.cells = 0 := by rw [hRe]
  have hRs : R.slots = 0 := by rw [hRe]
  refine lv_aload_n hx hb dX0_copyRow_0 rfl (lv_at hl 0 rfl) ?_
  refine lv_iconst (v := 0) hx hb dX0_copyRow_1 (by decide) ?_
  refine lv_aload_n hx hb dX0_copyRow_2 rfl (lv_at hl 1 rfl) ?_
  refine lv_iconst (v := 0) hx hb dX0_copyRow_3 (by decide) ?_
  refine lv_aload_n hx hb dX0_copyRow_4 rfl (lv_at hl 0 rfl) ?_
  refine va_alen (v := 6) hx hb hK.1 hP 1 1 rfl rfl rfl dX0_copyRow_5 ?_
  refine lv_aload_n hx hb dX0_copyRow_6 rfl (lv_at hl 1 rfl) ?_
  refine va_alen (v := 6) hx hb hK.1 hP 0 1 rfl rfl rfl dX0_copyRow_7 ?_
  refine va_mmin hx hb (by rw [hml]; exact hl.1.symm) hown (mm_h hts mm_w384) (mm_h hts mm_w385) (mm_h hts mm_w346) (mm_h hts mm_w386) (by rw [hRf]; exact Nat.le_of_ble_eq_true rfl) (by rw [hRl]; exact Nat.le_of_ble_eq_true rfl) (by rw [hRc]; exact Nat.le_of_ble_eq_true rfl) (by rw [hRs]; exact Nat.le_of_ble_eq_true rfl) dX0_copyRow_8 ?_
  refine lv_topi (fun v1 ev1 => ?_)
  obtain rfl : v1 = 6 := ev1.trans (by decide)
  refine va_copyi hx hb (by rw [hml]; exact hl.1.symm) hown (mm_h hts mm_w387) (mm_h hts mm_w388) (mm_h hts mm_w389) (mm_h hts mm_w390) hK.1 hP hD hS 1 0 1 1 rfl rfl rfl rfl rfl (by decide) (by decide) (by decide) (by decide) (by decide) (fun _ _ => rfl) (by rw [hRf]; exact Nat.le_of_ble_eq_true rfl) (by rw [hRl]; exact Nat.le_of_ble_eq_true rfl) dX0_copyRow_11 ?_
  clear hP hD hS
  clear H locs
  obtain ⟨g2, eg2⟩ : ∃ z : Nat → Int32, z = va_cpy f_1 f_0 (0 : Int32).toNatClampNeg (0 : Int32).toNatClampNeg (6 : Int32).toNatClampNeg := ⟨_, rfl⟩
  rw [← eg2]
  intro H locs (hP : va_P G vwCl [(a_1, .inl (cy 1, 6, .inl g2)), (a_0, .inl (cy 1, 6, .inl f_1))] H) (hD : va_D A [(a_1, .inl (cy 1, 6, .inl g2)), (a_0, .inl (cy 1, 6, .inl f_1))]) hS
  have rg2 : mm_ar g2 0 8 := by rw [eg2]; exact mm_ar_cpy (mm_ar_wk h1 (by decide)) (mm_ar_wk h0 (by decide)) _ _ _
  have hq := mm_recont hP hD 0 rfl (g := f_1) (by rw [eg2]; exact mm_cpyF (by decide))
  replace hP := hq.1
  replace hD := hq.2
  clear hq
  replace hP : va_P G vwCl [(a_1, .inl (cy 1, 6, .inl f_1)), (a_0, .inl (cy 1, 6, .inl f_1))] H := hP
  replace hD : va_D A [(a_1, .inl (cy 1, 6, .inl f_1)), (a_0, .inl (cy 1, 6, .inl f_1))] := hD
  subst hAe
  rw [hQ]
  exact W.vret hx hb hr (fun t ht hW => ⟨⟨(), rfl, trivial, by rw [ht]; exact hP, hK.warm hW, hD⟩, hS.F ht⟩) hS.2.2 dX0_copyRow_14

set_option maxHeartbeats 4000000 in
set_option maxRecDepth 100000 in
theorem K529_X0_copyRow (l : Launch) (G : va_G) (cy : Nat → ClassId) (sz : Nat) (a_0 : Nat) (a_1 : Nat) (f_0 : Nat → Int32) (f_1 : Nat → Int32) (h0 : mm_ar f_0 0 9) (h1 : mm_ar f_1 0 9)  : mm_CV l yX0_copyRow (mm_ws yX0_copyRow cX0_copyRow 2 (none)) ({ frames := 1, cells := 0, slots := 0, locals := 64 } : Room) G cy sz [(a_1, .inl (cy 1, 48, .inl f_0)), (a_0, .inl (cy 1, 48, .inl f_1))] [.ref a_0, .ref a_1] (fun u : Unit => [(a_1, .inl (cy 1, 48, .inl f_1)), (a_0, .inl (cy 1, 48, .inl f_1))]) (fun u : Unit => True) 0 0 := by
  refine mm_begin (lv := [(0, .ref a_0), (1, .ref a_1)]) (by decide) (Nat.le_of_ble_eq_true rfl) rfl ?_
  intro p e s m below meth c A ls R args Q H locs hRe hQ hAe hx hb hr hlocks hml hown hnm hts hsz hA hS hP hK hD hZ hl
  have hRf : R.frames = 1 := by rw [hRe]
  have hRl : R.locals = 64 := by rw [hRe]
  have hRc : R.cells = 0 := by rw [hRe]
  have hRs : R.slots = 0 := by rw [hRe]
  refine lv_aload_n hx hb dX0_copyRow_0 rfl (lv_at hl 0 rfl) ?_
  refine lv_iconst (v := 0) hx hb dX0_copyRow_1 (by decide) ?_
  refine lv_aload_n hx hb dX0_copyRow_2 rfl (lv_at hl 1 rfl) ?_
  refine lv_iconst (v := 0) hx hb dX0_copyRow_3 (by decide) ?_
  refine lv_aload_n hx hb dX0_copyRow_4 rfl (lv_at hl 0 rfl) ?_
  refine va_alen (v := 48) hx hb hK.1 hP 1 1 rfl rfl rfl dX0_copyRow_5 ?_
  refine lv_aload_n hx hb dX0_copyRow_6 rfl (lv_at hl 1 rfl) ?_
  refine va_alen (v := 48) hx hb hK.1 hP 0 1 rfl rfl rfl dX0_copyRow_7 ?_
  refine va_mmin hx hb (by rw [hml]; exact hl.1.symm) hown (mm_h hts mm_w384) (mm_h hts mm_w385) (mm_h hts mm_w346) (mm_h hts mm_w386) (by rw [hRf]; exact Nat.le_of_ble_eq_true rfl) (by rw [hRl]; exact Nat.le_of_ble_eq_true rfl) (by rw [hRc]; exact Nat.le_of_ble_eq_true rfl) (by rw [hRs]; exact Nat.le_of_ble_eq_true rfl) dX0_copyRow_8 ?_
  refine lv_topi (fun v1 ev1 => ?_)
  obtain rfl : v1 = 48 := ev1.trans (by decide)
  refine va_copyi hx hb (by rw [hml]; exact hl.1.symm) hown (mm_h hts mm_w387) (mm_h hts mm_w388) (mm_h hts mm_w389) (mm_h hts mm_w390) hK.1 hP hD hS 1 0 1 1 rfl rfl rfl rfl rfl (by decide) (by decide) (by decide) (by decide) (by decide) (fun _ _ => rfl) (by rw [hRf]; exact Nat.le_of_ble_eq_true rfl) (by rw [hRl]; exact Nat.le_of_ble_eq_true rfl) dX0_copyRow_11 ?_
  clear hP hD hS
  clear H locs
  obtain ⟨g2, eg2⟩ : ∃ z : Nat → Int32, z = va_cpy f_1 f_0 (0 : Int32).toNatClampNeg (0 : Int32).toNatClampNeg (48 : Int32).toNatClampNeg := ⟨_, rfl⟩
  rw [← eg2]
  intro H locs (hP : va_P G vwCl [(a_1, .inl (cy 1, 48, .inl g2)), (a_0, .inl (cy 1, 48, .inl f_1))] H) (hD : va_D A [(a_1, .inl (cy 1, 48, .inl g2)), (a_0, .inl (cy 1, 48, .inl f_1))]) hS
  have rg2 : mm_ar g2 0 9 := by rw [eg2]; exact mm_ar_cpy (mm_ar_wk h1 (by decide)) (mm_ar_wk h0 (by decide)) _ _ _
  have hq := mm_recont hP hD 0 rfl (g := f_1) (by rw [eg2]; exact mm_cpyF (by decide))
  replace hP := hq.1
  replace hD := hq.2
  clear hq
  replace hP : va_P G vwCl [(a_1, .inl (cy 1, 48, .inl f_1)), (a_0, .inl (cy 1, 48, .inl f_1))] H := hP
  replace hD : va_D A [(a_1, .inl (cy 1, 48, .inl f_1)), (a_0, .inl (cy 1, 48, .inl f_1))] := hD
  subst hAe
  rw [hQ]
  exact W.vret hx hb hr (fun t ht hW => ⟨⟨(), rfl, trivial, by rw [ht]; exact hP, hK.warm hW, hD⟩, hS.F ht⟩) hS.2.2 dX0_copyRow_14

set_option maxHeartbeats 4000000 in
set_option maxRecDepth 100000 in
theorem K530_X0_copyRow (l : Launch) (G : va_G) (cy : Nat → ClassId) (sz : Nat) (a_0 : Nat) (a_1 : Nat) (f_0 : Nat → Int32) (f_1 : Nat → Int32) (h0 : mm_ar f_0 0 9) (h1 : mm_ar f_1 0 9)  : mm_CV l yX0_copyRow (mm_ws yX0_copyRow cX0_copyRow 2 (none)) ({ frames := 1, cells := 0, slots := 0, locals := 64 } : Room) G cy sz [(a_1, .inl (cy 1, 30, .inl f_0)), (a_0, .inl (cy 1, 30, .inl f_1))] [.ref a_0, .ref a_1] (fun u : Unit => [(a_1, .inl (cy 1, 30, .inl f_1)), (a_0, .inl (cy 1, 30, .inl f_1))]) (fun u : Unit => True) 0 0 := by
  refine mm_begin (lv := [(0, .ref a_0), (1, .ref a_1)]) (by decide) (Nat.le_of_ble_eq_true rfl) rfl ?_
  intro p e s m below meth c A ls R args Q H locs hRe hQ hAe hx hb hr hlocks hml hown hnm hts hsz hA hS hP hK hD hZ hl
  have hRf : R.frames = 1 := by rw [hRe]
  have hRl : R.locals = 64 := by rw [hRe]
  have hRc : R.cells = 0 := by rw [hRe]
  have hRs : R.slots = 0 := by rw [hRe]
  refine lv_aload_n hx hb dX0_copyRow_0 rfl (lv_at hl 0 rfl) ?_
  refine lv_iconst (v := 0) hx hb dX0_copyRow_1 (by decide) ?_
  refine lv_aload_n hx hb dX0_copyRow_2 rfl (lv_at hl 1 rfl) ?_
  refine lv_iconst (v := 0) hx hb dX0_copyRow_3 (by decide) ?_
  refine lv_aload_n hx hb dX0_copyRow_4 rfl (lv_at hl 0 rfl) ?_
  refine va_alen (v := 30) hx hb hK.1 hP 1 1 rfl rfl rfl dX0_copyRow_5 ?_
  refine lv_aload_n hx hb dX0_copyRow_6 rfl (lv_at hl 1 rfl) ?_
  refine va_alen (v := 30) hx hb hK.1 hP 0 1 rfl rfl rfl dX0_copyRow_7 ?_
  refine va_mmin hx hb (by rw [hml]; exact hl.1.symm) hown (mm_h hts mm_w384) (mm_h hts mm_w385) (mm_h hts mm_w346) (mm_h hts mm_w386) (by rw [hRf]; exact Nat.le_of_ble_eq_true rfl) (by rw [hRl]; exact Nat.le_of_ble_eq_true rfl) (by rw [hRc]; exact Nat.le_of_ble_eq_true rfl) (by rw [hRs]; exact Nat.le_of_ble_eq_true rfl) dX0_copyRow_8 ?_
  refine lv_topi (fun v1 ev1 => ?_)
  obtain rfl : v1 = 30 := ev1.trans (by decide)
  refine va_copyi hx hb (by rw [hml]; exact hl.1.symm) hown (mm_h hts mm_w387) (mm_h hts mm_w388) (mm_h hts mm_w389) (mm_h hts mm_w390) hK.1 hP hD hS 1 0 1 1 rfl rfl rfl rfl rfl (by decide) (by decide) (by decide) (by decide) (by decide) (fun _ _ => rfl) (by rw [hRf]; exact Nat.le_of_ble_eq_true rfl) (by rw [hRl]; exact Nat.le_of_ble_eq_true rfl) dX0_copyRow_11 ?_
  clear hP hD hS
  clear H locs
  obtain ⟨g2, eg2⟩ : ∃ z : Nat → Int32, z = va_cpy f_1 f_0 (0 : Int32).toNatClampNeg (0 : Int32).toNatClampNeg (30 : Int32).toNatClampNeg := ⟨_, rfl⟩
  rw [← eg2]
  intro H locs (hP : va_P G vwCl [(a_1, .inl (cy 1, 30, .inl g2)), (a_0, .inl (cy 1, 30, .inl f_1))] H) (hD : va_D A [(a_1, .inl (cy 1, 30, .inl g2)), (a_0, .inl (cy 1, 30, .inl f_1))]) hS
  have rg2 : mm_ar g2 0 9 := by rw [eg2]; exact mm_ar_cpy (mm_ar_wk h1 (by decide)) (mm_ar_wk h0 (by decide)) _ _ _
  have hq := mm_recont hP hD 0 rfl (g := f_1) (by rw [eg2]; exact mm_cpyF (by decide))
  replace hP := hq.1
  replace hD := hq.2
  clear hq
  replace hP : va_P G vwCl [(a_1, .inl (cy 1, 30, .inl f_1)), (a_0, .inl (cy 1, 30, .inl f_1))] H := hP
  replace hD : va_D A [(a_1, .inl (cy 1, 30, .inl f_1)), (a_0, .inl (cy 1, 30, .inl f_1))] := hD
  subst hAe
  rw [hQ]
  exact W.vret hx hb hr (fun t ht hW => ⟨⟨(), rfl, trivial, by rw [ht]; exact hP, hK.warm hW, hD⟩, hS.F ht⟩) hS.2.2 dX0_copyRow_14

set_option maxHeartbeats 4000000 in
set_option maxRecDepth 100000 in
theorem K531_X0_copyRow (l : Launch) (G : va_G) (cy : Nat → ClassId) (sz : Nat) (a_0 : Nat) (a_1 : Nat) (f_0 : Nat → Int32) (f_1 : Nat → Int32) (h0 : mm_ar f_0 (-1) 2) (h1 : mm_ar f_1 (-1) 2)  : mm_CV l yX0_copyRow (mm_ws yX0_copyRow cX0_copyRow 2 (none)) ({ frames := 1, cells := 0, slots := 0, locals := 64 } : Room) G cy sz [(a_1, .inl (cy 1, 30, .inl f_0)), (a_0, .inl (cy 1, 30, .inl f_1))] [.ref a_0, .ref a_1] (fun u : Unit => [(a_1, .inl (cy 1, 30, .inl f_1)), (a_0, .inl (cy 1, 30, .inl f_1))]) (fun u : Unit => True) 0 0 := by
  refine mm_begin (lv := [(0, .ref a_0), (1, .ref a_1)]) (by decide) (Nat.le_of_ble_eq_true rfl) rfl ?_
  intro p e s m below meth c A ls R args Q H locs hRe hQ hAe hx hb hr hlocks hml hown hnm hts hsz hA hS hP hK hD hZ hl
  have hRf : R.frames = 1 := by rw [hRe]
  have hRl : R.locals = 64 := by rw [hRe]
  have hRc : R.cells = 0 := by rw [hRe]
  have hRs : R.slots = 0 := by rw [hRe]
  refine lv_aload_n hx hb dX0_copyRow_0 rfl (lv_at hl 0 rfl) ?_
  refine lv_iconst (v := 0) hx hb dX0_copyRow_1 (by decide) ?_
  refine lv_aload_n hx hb dX0_copyRow_2 rfl (lv_at hl 1 rfl) ?_
  refine lv_iconst (v := 0) hx hb dX0_copyRow_3 (by decide) ?_
  refine lv_aload_n hx hb dX0_copyRow_4 rfl (lv_at hl 0 rfl) ?_
  refine va_alen (v := 30) hx hb hK.1 hP 1 1 rfl rfl rfl dX0_copyRow_5 ?_
  refine lv_aload_n hx hb dX0_copyRow_6 rfl (lv_at hl 1 rfl) ?_
  refine va_alen (v := 30) hx hb hK.1 hP 0 1 rfl rfl rfl dX0_copyRow_7 ?_
  refine va_mmin hx hb (by rw [hml]; exact hl.1.symm) hown (mm_h hts mm_w384) (mm_h hts mm_w385) (mm_h hts mm_w346) (mm_h hts mm_w386) (by rw [hRf]; exact Nat.le_of_ble_eq_true rfl) (by rw [hRl]; exact Nat.le_of_ble_eq_true rfl) (by rw [hRc]; exact Nat.le_of_ble_eq_true rfl) (by rw [hRs]; exact Nat.le_of_ble_eq_true rfl) dX0_copyRow_8 ?_
  refine lv_topi (fun v1 ev1 => ?_)
  obtain rfl : v1 = 30 := ev1.trans (by decide)
  refine va_copyi hx hb (by rw [hml]; exact hl.1.symm) hown (mm_h hts mm_w387) (mm_h hts mm_w388) (mm_h hts mm_w389) (mm_h hts mm_w390) hK.1 hP hD hS 1 0 1 1 rfl rfl rfl rfl rfl (by decide) (by decide) (by decide) (by decide) (by decide) (fun _ _ => rfl) (by rw [hRf]; exact Nat.le_of_ble_eq_true rfl) (by rw [hRl]; exact Nat.le_of_ble_eq_true rfl) dX0_copyRow_11 ?_
  clear hP hD hS
  clear H locs
  obtain ⟨g2, eg2⟩ : ∃ z : Nat → Int32, z = va_cpy f_1 f_0 (0 : Int32).toNatClampNeg (0 : Int32).toNatClampNeg (30 : Int32).toNatClampNeg := ⟨_, rfl⟩
  rw [← eg2]
  intro H locs (hP : va_P G vwCl [(a_1, .inl (cy 1, 30, .inl g2)), (a_0, .inl (cy 1, 30, .inl f_1))] H) (hD : va_D A [(a_1, .inl (cy 1, 30, .inl g2)), (a_0, .inl (cy 1, 30, .inl f_1))]) hS
  have rg2 : mm_ar g2 (-1) 2 := by rw [eg2]; exact mm_ar_cpy (mm_ar_wk h1 (by decide)) (mm_ar_wk h0 (by decide)) _ _ _
  have hq := mm_recont hP hD 0 rfl (g := f_1) (by rw [eg2]; exact mm_cpyF (by decide))
  replace hP := hq.1
  replace hD := hq.2
  clear hq
  replace hP : va_P G vwCl [(a_1, .inl (cy 1, 30, .inl f_1)), (a_0, .inl (cy 1, 30, .inl f_1))] H := hP
  replace hD : va_D A [(a_1, .inl (cy 1, 30, .inl f_1)), (a_0, .inl (cy 1, 30, .inl f_1))] := hD
  subst hAe
  rw [hQ]
  exact W.vret hx hb hr (fun t ht hW => ⟨⟨(), rfl, trivial, by rw [ht]; exact hP, hK.warm hW, hD⟩, hS.F ht⟩) hS.2.2 dX0_copyRow_14

set_option maxHeartbeats 4000000 in
set_option maxRecDepth 100000 in
theorem K532_X0_copyRow (l : Launch) (G : va_G) (cy : Nat → ClassId) (sz : Nat) (a_0 : Nat) (a_1 : Nat) (f_0 : Nat → Int32) (f_1 : Nat → Int32) (h0 : mm_ar f_0 0 99) (h1 : mm_ar f_1 0 99)  : mm_CV l yX0_copyRow (mm_ws yX0_copyRow cX0_copyRow 2 (none)) ({ frames := 1, cells := 0, slots := 0, locals := 64 } : Room) G cy sz [(a_1, .inl (cy 1, 30, .inl f_0)), (a_0, .inl (cy 1, 30, .inl f_1))] [.ref a_0, .ref a_1] (fun u : Unit => [(a_1, .inl (cy 1, 30, .inl f_1)), (a_0, .inl (cy 1, 30, .inl f_1))]) (fun u : Unit => True) 0 0 := by
  refine mm_begin (lv := [(0, .ref a_0), (1, .ref a_1)]) (by decide) (Nat.le_of_ble_eq_true rfl) rfl ?_
  intro p e s m below meth c A ls R args Q H locs hRe hQ hAe hx hb hr hlocks hml hown hnm hts hsz hA hS hP hK hD hZ hl
  have hRf : R.frames = 1 := by rw [hRe]
  have hRl : R.locals = 64 := by rw [hRe]
  have hRc : R.cells = 0 := by rw [hRe]
  have hRs : R.slots = 0 := by rw [hRe]
  refine lv_aload_n hx hb dX0_copyRow_0 rfl (lv_at hl 0 rfl) ?_
  refine lv_iconst (v := 0) hx hb dX0_copyRow_1 (by decide) ?_
  refine lv_aload_n hx hb dX0_copyRow_2 rfl (lv_at hl 1 rfl) ?_
  refine lv_iconst (v := 0) hx hb dX0_copyRow_3 (by decide) ?_
  refine lv_aload_n hx hb dX0_copyRow_4 rfl (lv_at hl 0 rfl) ?_
  refine va_alen (v := 30) hx hb hK.1 hP 1 1 rfl rfl rfl dX0_copyRow_5 ?_
  refine lv_aload_n hx hb dX0_copyRow_6 rfl (lv_at hl 1 rfl) ?_
  refine va_alen (v := 30) hx hb hK.1 hP 0 1 rfl rfl rfl dX0_copyRow_7 ?_
  refine va_mmin hx hb (by rw [hml]; exact hl.1.symm) hown (mm_h hts mm_w384) (mm_h hts mm_w385) (mm_h hts mm_w346) (mm_h hts mm_w386) (by rw [hRf]; exact Nat.le_of_ble_eq_true rfl) (by rw [hRl]; exact Nat.le_of_ble_eq_true rfl) (by rw [hRc]; exact Nat.le_of_ble_eq_true rfl) (by rw [hRs]; exact Nat.le_of_ble_eq_true rfl) dX0_copyRow_8 ?_
  refine lv_topi (fun v1 ev1 => ?_)
  obtain rfl : v1 = 30 := ev1.trans (by decide)
  refine va_copyi hx hb (by rw [hml]; exact hl.1.symm) hown (mm_h hts mm_w387) (mm_h hts mm_w388) (mm_h hts mm_w389) (mm_h hts mm_w390) hK.1 hP hD hS 1 0 1 1 rfl rfl rfl rfl rfl (by decide) (by decide) (by decide) (by decide) (by decide) (fun _ _ => rfl) (by rw [hRf]; exact Nat.le_of_ble_eq_true rfl) (by rw [hRl]; exact Nat.le_of_ble_eq_true rfl) dX0_copyRow_11 ?_
  clear hP hD hS
  clear H locs
  obtain ⟨g2, eg2⟩ : ∃ z : Nat → Int32, z = va_cpy f_1 f_0 (0 : Int32).toNatClampNeg (0 : Int32).toNatClampNeg (30 : Int32).toNatClampNeg := ⟨_, rfl⟩
  rw [← eg2]
  intro H locs (hP : va_P G vwCl [(a_1, .inl (cy 1, 30, .inl g2)), (a_0, .inl (cy 1, 30, .inl f_1))] H) (hD : va_D A [(a_1, .inl (cy 1, 30, .inl g2)), (a_0, .inl (cy 1, 30, .inl f_1))]) hS
  have rg2 : mm_ar g2 0 99 := by rw [eg2]; exact mm_ar_cpy (mm_ar_wk h1 (by decide)) (mm_ar_wk h0 (by decide)) _ _ _
  have hq := mm_recont hP hD 0 rfl (g := f_1) (by rw [eg2]; exact mm_cpyF (by decide))
  replace hP := hq.1
  replace hD := hq.2
  clear hq
  replace hP : va_P G vwCl [(a_1, .inl (cy 1, 30, .inl f_1)), (a_0, .inl (cy 1, 30, .inl f_1))] H := hP
  replace hD : va_D A [(a_1, .inl (cy 1, 30, .inl f_1)), (a_0, .inl (cy 1, 30, .inl f_1))] := hD
  subst hAe
  rw [hQ]
  exact W.vret hx hb hr (fun t ht hW => ⟨⟨(), rfl, trivial, by rw [ht]; exact hP, hK.warm hW, hD⟩, hS.F ht⟩) hS.2.2 dX0_copyRow_14

set_option maxHeartbeats 4000000 in
set_option maxRecDepth 100000 in
theorem K533_X0_copyFrom (l : Launch) (G : va_G) (cy : Nat → ClassId) (sz : Nat) (a_0 : Nat) (a_1 : Nat) (i_0 : Int32) (i_1 : Int32) (i_2 : Int32) (i_3 : Int32) (i_4 : Int32) (i_5 : Int32) (i_6 : Int32) (i_7 : Int32) (a_2 : Nat) (a_3 : Nat) (a_4 : Nat) (a_5 : Nat) (a_6 : Nat) (a_7 : Nat) (a_8 : Nat) (a_9 : Nat) (a_10 : Nat) (a_11 : Nat) (f_0 : Nat → Int32) (f_1 : Nat → Int32) (f_2 : Nat → Int32) (f_3 : Nat → Int32) (f_4 : Nat → Int32) (f_5 : Nat → Int32) (f_6 : Nat → Int32) (f_7 : Nat → Int32) (f_8 : Nat → Int32) (f_9 : Nat → Int32) (i_8 : Int32) (i_9 : Int32) (i_10 : Int32) (i_11 : Int32) (i_12 : Int32) (i_13 : Int32) (i_14 : Int32) (i_15 : Int32) (a_12 : Nat) (a_13 : Nat) (a_14 : Nat) (a_15 : Nat) (a_16 : Nat) (a_17 : Nat) (a_18 : Nat) (a_19 : Nat) (a_20 : Nat) (a_21 : Nat) (f_10 : Nat → Int32) (f_11 : Nat → Int32) (f_12 : Nat → Int32) (f_13 : Nat → Int32) (f_14 : Nat → Int32) (f_15 : Nat → Int32) (f_16 : Nat → Int32) (f_17 : Nat → Int32) (f_18 : Nat → Int32) (f_19 : Nat → Int32) (h0 : mm_rg i_1 0 10) (h1 : mm_rg i_2 0 99) (h2 : mm_rg i_3 0 99) (h3 : mm_rg i_4 0 9) (h4 : mm_rg i_5 0 3) (h5 : mm_rg i_6 0 6) (h6 : mm_rg i_7 0 30) (h7 : mm_ar f_0 (-1) 4) (h8 : mm_ar f_1 0 99) (h9 : mm_ar f_2 0 7) (h10 : mm_ar f_3 0 9) (h11 : mm_ar f_4 0 8) (h12 : mm_ar f_5 0 9) (h13 : mm_ar f_6 0 9) (h14 : mm_ar f_7 (-1) 2) (h15 : mm_ar f_8 0 99) (h16 : mm_ar f_9 0 9) (h17 : mm_rg i_9 0 10) (h18 : mm_rg i_10 0 99) (h19 : mm_rg i_11 0 99) (h20 : mm_rg i_12 0 9) (h21 : mm_rg i_13 0 3) (h22 : mm_rg i_14 0 6) (h23 : mm_rg i_15 0 30) (h24 : mm_ar f_10 (-1) 4) (h25 : mm_ar f_11 0 99) (h26 : mm_ar f_12 0 7) (h27 : mm_ar f_13 0 9) (h28 : mm_ar f_14 0 8) (h29 : mm_ar f_15 0 9) (h30 : mm_ar f_16 0 9) (h31 : mm_ar f_17 (-1) 2) (h32 : mm_ar f_18 0 99) (h33 : mm_ar f_19 0 9) (h34 : mm_act f_7 f_8) (h35 : mm_act f_17 f_18)  : mm_CV l yX0_copyFrom (mm_ws yX0_copyFrom cX0_copyFrom 2 (none)) ({ frames := 2, cells := 0, slots := 0, locals := 85 } : Room) G cy sz [(a_0, .inr (0, [.int i_0, .int i_1, .int i_2, .int i_3, .int i_4, .int i_5, .int i_6, .int i_7, .ref a_2, .ref a_3, .ref a_4, .ref a_5, .ref a_6, .ref a_7, .ref a_8, .ref a_9, .ref a_10, .ref a_11])), (a_2, .inl (cy 1, 9, .inl f_0)), (a_3, .inl (cy 1, 9, .inl f_1)), (a_4, .inl (cy 1, 3, .inl f_2)), (a_5, .inl (cy 1, 210, .inl f_3)), (a_6, .inl (cy 1, 6, .inl f_4)), (a_7, .inl (cy 1, 48, .inl f_5)), (a_8, .inl (cy 1, 30, .inl f_6)), (a_9, .inl (cy 1, 30, .inl f_7)), (a_10, .inl (cy 1, 30, .inl f_8)), (a_11, .inl (cy 1, 30, .inl f_9)), (a_1, .inr (0, [.int i_8, .int i_9, .int i_10, .int i_11, .int i_12, .int i_13, .int i_14, .int i_15, .ref a_12, .ref a_13, .ref a_14, .ref a_15, .ref a_16, .ref a_17, .ref a_18, .ref a_19, .ref a_20, .ref a_21])), (a_12, .inl (cy 1, 9, .inl f_10)), (a_13, .inl (cy 1, 9, .inl f_11)), (a_14, .inl (cy 1, 3, .inl f_12)), (a_15, .inl (cy 1, 210, .inl f_13)), (a_16, .inl (cy 1, 6, .inl f_14)), (a_17, .inl (cy 1, 48, .inl f_15)), (a_18, .inl (cy 1, 30, .inl f_16)), (a_19, .inl (cy 1, 30, .inl f_17)), (a_20, .inl (cy 1, 30, .inl f_18)), (a_21, .inl (cy 1, 30, .inl f_19))] [.ref a_0, .ref a_1] (fun u : Unit => [(a_0, .inr (0, [.int i_8, .int i_9, .int i_10, .int i_11, .int i_12, .int i_13, .int i_14, .int i_15, .ref a_2, .ref a_3, .ref a_4, .ref a_5, .ref a_6, .ref a_7, .ref a_8, .ref a_9, .ref a_10, .ref a_11])), (a_2, .inl (cy 1, 9, .inl f_10)), (a_3, .inl (cy 1, 9, .inl f_11)), (a_4, .inl (cy 1, 3, .inl f_12)), (a_5, .inl (cy 1, 210, .inl f_13)), (a_6, .inl (cy 1, 6, .inl f_14)), (a_7, .inl (cy 1, 48, .inl f_15)), (a_8, .inl (cy 1, 30, .inl f_16)), (a_9, .inl (cy 1, 30, .inl f_17)), (a_10, .inl (cy 1, 30, .inl f_18)), (a_11, .inl (cy 1, 30, .inl f_19)), (a_1, .inr (0, [.int i_8, .int i_9, .int i_10, .int i_11, .int i_12, .int i_13, .int i_14, .int i_15, .ref a_12, .ref a_13, .ref a_14, .ref a_15, .ref a_16, .ref a_17, .ref a_18, .ref a_19, .ref a_20, .ref a_21])), (a_12, .inl (cy 1, 9, .inl f_10)), (a_13, .inl (cy 1, 9, .inl f_11)), (a_14, .inl (cy 1, 3, .inl f_12)), (a_15, .inl (cy 1, 210, .inl f_13)), (a_16, .inl (cy 1, 6, .inl f_14)), (a_17, .inl (cy 1, 48, .inl f_15)), (a_18, .inl (cy 1, 30, .inl f_16)), (a_19, .inl (cy 1, 30, .inl f_17)), (a_20, .inl (cy 1, 30, .inl f_18)), (a_21, .inl (cy 1, 30, .inl f_19))]) (fun u : Unit => True) 0 0 := by
  refine mm_begin (lv := [(0, .ref a_0), (1, .ref a_1)]) (by decide) (Nat.le_of_ble_eq_true rfl) rfl ?_
  intro p e s m below meth c A ls R args Q H locs hRe hQ hAe hx hb hr hlocks hml hown hnm hts hsz hA hS hP hK hD hZ hl
  have hRf : R.frames = 2 := by rw [hRe]
  have hRl : R.locals = 85 := by rw [hRe]
  have hRc : R.cells = 0 := by rw [hRe]
  have hRs : R.slots = 0 := by rw [hRe]
  refine lv_aload_n hx hb dX0_copyFrom_0 rfl (lv_at hl 0 rfl) ?_
  refine lv_aload_n hx hb dX0_copyFrom_1 rfl (lv_at hl 1 rfl) ?_
  refine va_get (D := G) (ci := 0) (v := .int i_8) (C := RX0) (T := TX0) (N := 18) hx hb hts (mm_i inlX0) hown hK.1 hP 11 rfl rfl 0 (by decide) (mm_h hts mm_w215) (fun _ h9 => h9) rfl dX0_copyFrom_2 ?_
  refine va_put (D := G) (ci := 0) (v := .int i_8) (ty := tyX0 0) (C := RX0) (T := TX0) (N := 18) hx hb hts (mm_i inlX0) tyX0 tyX0_ok nmX0 hown hK.1 hP hD hS 0 rfl rfl 0 (by decide) (mm_h hts mm_w215) (fun _ h9 => h9) rfl (tyX0_ok 0 (by decide)) rfl rfl (Nat.le_of_ble_eq_true rfl) dX0_copyFrom_5 ?_
  clear hP hD hS
  clear H locs
  intro H locs (hP : va_P G vwCl [(a_0, .inr (0, [.int i_8, .int i_1, .int i_2, .int i_3, .int i_4, .int i_5, .int i_6, .int i_7, .ref a_2, .ref a_3, .ref a_4, .ref a_5, .ref a_6, .ref a_7, .ref a_8, .ref a_9, .ref a_10, .ref a_11])), (a_2, .inl (cy 1, 9, .inl f_0)), (a_3, .inl (cy 1, 9, .inl f_1)), (a_4, .inl (cy 1, 3, .inl f_2)), (a_5, .inl (cy 1, 210, .inl f_3)), (a_6, .inl (cy 1, 6, .inl f_4)), (a_7, .inl (cy 1, 48, .inl f_5)), (a_8, .inl (cy 1, 30, .inl f_6)), (a_9, .inl (cy 1, 30, .inl f_7)), (a_10, .inl (cy 1, 30, .inl f_8)), (a_11, .inl (cy 1, 30, .inl f_9)), (a_1, .inr (0, [.int i_8, .int i_9, .int i_10, .int i_11, .int i_12, .int i_13, .int i_14, .int i_15, .ref a_12, .ref a_13, .ref a_14, .ref a_15, .ref a_16, .ref a_17, .ref a_18, .ref a_19, .ref a_20, .ref a_21])), (a_12, .inl (cy 1, 9, .inl f_10)), (a_13, .inl (cy 1, 9, .inl f_11)), (a_14, .inl (cy 1, 3, .inl f_12)), (a_15, .inl (cy 1, 210, .inl f_13)), (a_16, .inl (cy 1, 6, .inl f_14)), (a_17, .inl (cy 1, 48, .inl f_15)), (a_18, .inl (cy 1, 30, .inl f_16)), (a_19, .inl (cy 1, 30, .inl f_17)), (a_20, .inl (cy 1, 30, .inl f_18)), (a_21, .inl (cy 1, 30, .inl f_19))] H) (hD : va_D A [(a_0, .inr (0, [.int i_8, .int i_1, .int i_2, .int i_3, .int i_4, .int i_5, .int i_6, .int i_7, .ref a_2, .ref a_3, .ref a_4, .ref a_5, .ref a_6, .ref a_7, .ref a_8, .ref a_9, .ref a_10, .ref a_11])), (a_2, .inl (cy 1, 9, .inl f_0)), (a_3, .inl (cy 1, 9, .inl f_1)), (a_4, .inl (cy 1, 3, .inl f_2)), (a_5, .inl (cy 1, 210, .inl f_3)), (a_6, .inl (cy 1, 6, .inl f_4)), (a_7, .inl (cy 1, 48, .inl f_5)), (a_8, .inl (cy 1, 30, .inl f_6)), (a_9, .inl (cy 1, 30, .inl f_7)), (a_10, .inl (cy 1, 30, .inl f_8)), (a_11, .inl (cy 1, 30, .inl f_9)), (a_1, .inr (0, [.int i_8, .int i_9, .int i_10, .int i_11, .int i_12, .int i_13, .int i_14, .int i_15, .ref a_12, .ref a_13, .ref a_14, .ref a_15, .ref a_16, .ref a_17, .ref a_18, .ref a_19, .ref a_20, .ref a_21])), (a_12, .inl (cy 1, 9, .inl f_10)), (a_13, .inl (cy 1, 9, .inl f_11)), (a_14, .inl (cy 1, 3, .inl f_12)), (a_15, .inl (cy 1, 210, .inl f_13)), (a_16, .inl (cy 1, 6, .inl f_14)), (a_17, .inl (cy 1, 48, .inl f_15)), (a_18, .inl (cy 1, 30, .inl f_16)), (a_19, .inl (cy 1, 30, .inl f_17)), (a_20, .inl (cy 1, 30, .inl f_18)), (a_21, .inl (cy 1, 30, .inl f_19))]) hS
  refine lv_aload_n hx hb dX0_copyFrom_8 rfl (lv_at hl 0 rfl) ?_
  refine lv_aload_n hx hb dX0_copyFrom_9 rfl (lv_at hl 1 rfl) ?_
  refine va_get (D := G) (ci := 0) (v := .int i_9) (C := RX0) (T := TX0) (N := 18) hx hb hts (mm_i inlX0) hown hK.1 hP 11 rfl rfl 1 (by decide) (mm_h hts mm_w216) (fun _ h9 => h9) rfl dX0_copyFrom_10 ?_
  refine va_put (D := G) (ci := 0) (v := .int i_9) (ty := tyX0 1) (C := RX0) (T := TX0) (N := 18) hx hb hts (mm_i inlX0) tyX0 tyX0_ok nmX0 hown hK.1 hP hD hS 0 rfl rfl 1 (by decide) (mm_h hts mm_w216) (fun _ h9 => h9) rfl (tyX0_ok 1 (by decide)) rfl rfl (Nat.le_of_ble_eq_true rfl) dX0_copyFrom_13 ?_
  clear hP hD hS
  clear H locs
  intro H locs (hP : va_P G vwCl [(a_0, .inr (0, [.int i_8, .int i_9, .int i_2, .int i_3, .int i_4, .int i_5, .int i_6, .int i_7, .ref a_2, .ref a_3, .ref a_4, .ref a_5, .ref a_6, .ref a_7, .ref a_8, .ref a_9, .ref a_10, .ref a_11])), (a_2, .inl (cy 1, 9, .inl f_0)), (a_3, .inl (cy 1, 9, .inl f_1)), (a_4, .inl (cy 1, 3, .inl f_2)), (a_5, .inl (cy 1, 210, .inl f_3)), (a_6, .inl (cy 1, 6, .inl f_4)), (a_7, .inl (cy 1, 48, .inl f_5)), (a_8, .inl (cy 1, 30, .inl f_6)), (a_9, .inl (cy 1, 30, .inl f_7)), (a_10, .inl (cy 1, 30, .inl f_8)), (a_11, .inl (cy 1, 30, .inl f_9)), (a_1, .inr (0, [.int i_8, .int i_9, .int i_10, .int i_11, .int i_12, .int i_13, .int i_14, .int i_15, .ref a_12, .ref a_13, .ref a_14, .ref a_15, .ref a_16, .ref a_17, .ref a_18, .ref a_19, .ref a_20, .ref a_21])), (a_12, .inl (cy 1, 9, .inl f_10)), (a_13, .inl (cy 1, 9, .inl f_11)), (a_14, .inl (cy 1, 3, .inl f_12)), (a_15, .inl (cy 1, 210, .inl f_13)), (a_16, .inl (cy 1, 6, .inl f_14)), (a_17, .inl (cy 1, 48, .inl f_15)), (a_18, .inl (cy 1, 30, .inl f_16)), (a_19, .inl (cy 1, 30, .inl f_17)), (a_20, .inl (cy 1, 30, .inl f_18)), (a_21, .inl (cy 1, 30, .inl f_19))] H) (hD : va_D A [(a_0, .inr (0, [.int i_8, .int i_9, .int i_2, .int i_3, .int i_4, .int i_5, .int i_6, .int i_7, .ref a_2, .ref a_3, .ref a_4, .ref a_5, .ref a_6, .ref a_7, .ref a_8, .ref a_9, .ref a_10, .ref a_11])), (a_2, .inl (cy 1, 9, .inl f_0)), (a_3, .inl (cy 1, 9, .inl f_1)), (a_4, .inl (cy 1, 3, .inl f_2)), (a_5, .inl (cy 1, 210, .inl f_3)), (a_6, .inl (cy 1, 6, .inl f_4)), (a_7, .inl (cy 1, 48, .inl f_5)), (a_8, .inl (cy 1, 30, .inl f_6)), (a_9, .inl (cy 1, 30, .inl f_7)), (a_10, .inl (cy 1, 30, .inl f_8)), (a_11, .inl (cy 1, 30, .inl f_9)), (a_1, .inr (0, [.int i_8, .int i_9, .int i_10, .int i_11, .int i_12, .int i_13, .int i_14, .int i_15, .ref a_12, .ref a_13, .ref a_14, .ref a_15, .ref a_16, .ref a_17, .ref a_18, .ref a_19, .ref a_20, .ref a_21])), (a_12, .inl (cy 1, 9, .inl f_10)), (a_13, .inl (cy 1, 9, .inl f_11)), (a_14, .inl (cy 1, 3, .inl f_12)), (a_15, .inl (cy 1, 210, .inl f_13)), (a_16, .inl (cy 1, 6, .inl f_14)), (a_17, .inl (cy 1, 48, .inl f_15)), (a_18, .inl (cy 1, 30, .inl f_16)), (a_19, .inl (cy 1, 30, .inl f_17)), (a_20, .inl (cy 1, 30, .inl f_18)), (a_21, .inl (cy 1, 30, .inl f_19))]) hS
  refine lv_aload_n hx hb dX0_copyFrom_16 rfl (lv_at hl 0 rfl) ?_
  refine lv_aload_n hx hb dX0_copyFrom_17 rfl (lv_at hl 1 rfl) ?_
  refine va_get (D := G) (ci := 0) (v := .int i_10) (C := RX0) (T := TX0) (N := 18) hx hb hts (mm_i inlX0) hown hK.1 hP 11 rfl rfl 2 (by decide) (mm_h hts mm_w217) (fun _ h9 => h9) rfl dX0_copyFrom_18 ?_
  refine va_put (D := G) (ci := 0) (v := .int i_10) (ty := tyX0 2) (C := RX0) (T := TX0) (N := 18) hx hb hts (mm_i inlX0) tyX0 tyX0_ok nmX0 hown hK.1 hP hD hS 0 rfl rfl 2 (by decide) (mm_h hts mm_w217) (fun _ h9 => h9) rfl (tyX0_ok 2 (by decide)) rfl rfl (Nat.le_of_ble_eq_true rfl) dX0_copyFrom_21 ?_
  clear hP hD hS
  clear H locs
  intro H locs (hP : va_P G vwCl [(a_0, .inr (0, [.int i_8, .int i_9, .int i_10, .int i_3, .int i_4, .int i_5, .int i_6, .int i_7, .ref a_2, .ref a_3, .ref a_4, .ref a_5, .ref a_6, .ref a_7, .ref a_8, .ref a_9, .ref a_10, .ref a_11])), (a_2, .inl (cy 1, 9, .inl f_0)), (a_3, .inl (cy 1, 9, .inl f_1)), (a_4, .inl (cy 1, 3, .inl f_2)), (a_5, .inl (cy 1, 210, .inl f_3)), (a_6, .inl (cy 1, 6, .inl f_4)), (a_7, .inl (cy 1, 48, .inl f_5)), (a_8, .inl (cy 1, 30, .inl f_6)), (a_9, .inl (cy 1, 30, .inl f_7)), (a_10, .inl (cy 1, 30, .inl f_8)), (a_11, .inl (cy 1, 30, .inl f_9)), (a_1, .inr (0, [.int i_8, .int i_9, .int i_10, .int i_11, .int i_12, .int i_13, .int i_14, .int i_15, .ref a_12, .ref a_13, .ref a_14, .ref a_15, .ref a_16, .ref a_17, .ref a_18, .ref a_19, .ref a_20, .ref a_21])), (a_12, .inl (cy 1, 9, .inl f_10)), (a_13, .inl (cy 1, 9, .inl f_11)), (a_14, .inl (cy 1, 3, .inl f_12)), (a_15, .inl (cy 1, 210, .inl f_13)), (a_16, .inl (cy 1, 6, .inl f_14)), (a_17, .inl (cy 1, 48, .inl f_15)), (a_18, .inl (cy 1, 30, .inl f_16)), (a_19, .inl (cy 1, 30, .inl f_17)), (a_20, .inl (cy 1, 30, .inl f_18)), (a_21, .inl (cy 1, 30, .inl f_19))] H) (hD : va_D A [(a_0, .inr (0, [.int i_8, .int i_9, .int i_10, .int i_3, .int i_4, .int i_5, .int i_6, .int i_7, .ref a_2, .ref a_3, .ref a_4, .ref a_5, .ref a_6, .ref a_7, .ref a_8, .ref a_9, .ref a_10, .ref a_11])), (a_2, .inl (cy 1, 9, .inl f_0)), (a_3, .inl (cy 1, 9, .inl f_1)), (a_4, .inl (cy 1, 3, .inl f_2)), (a_5, .inl (cy 1, 210, .inl f_3)), (a_6, .inl (cy 1, 6, .inl f_4)), (a_7, .inl (cy 1, 48, .inl f_5)), (a_8, .inl (cy 1, 30, .inl f_6)), (a_9, .inl (cy 1, 30, .inl f_7)), (a_10, .inl (cy 1, 30, .inl f_8)), (a_11, .inl (cy 1, 30, .inl f_9)), (a_1, .inr (0, [.int i_8, .int i_9, .int i_10, .int i_11, .int i_12, .int i_13, .int i_14, .int i_15, .ref a_12, .ref a_13, .ref a_14, .ref a_15, .ref a_16, .ref a_17, .ref a_18, .ref a_19, .ref a_20, .ref a_21])), (a_12, .inl (cy 1, 9, .inl f_10)), (a_13, .inl (cy 1, 9, .inl f_11)), (a_14, .inl (cy 1, 3, .inl f_12)), (a_15, .inl (cy 1, 210, .inl f_13)), (a_16, .inl (cy 1, 6, .inl f_14)), (a_17, .inl (cy 1, 48, .inl f_15)), (a_18, .inl (cy 1, 30, .inl f_16)), (a_19, .inl (cy 1, 30, .inl f_17)), (a_20, .inl (cy 1, 30, .inl f_18)), (a_21, .inl (cy 1, 30, .inl f_19))]) hS
  refine lv_aload_n hx hb dX0_copyFrom_24 rfl (lv_at hl 0 rfl) ?_
  refine lv_aload_n hx hb dX0_copyFrom_25 rfl (lv_at hl 1 rfl) ?_
  refine va_get (D := G) (ci := 0) (v := .int i_11) (C := RX0) (T := TX0) (N := 18) hx hb hts (mm_i inlX0) hown hK.1 hP 11 rfl rfl 3 (by decide) (mm_h hts mm_w218) (fun _ h9 => h9) rfl dX0_copyFrom_26 ?_
  refine va_put (D := G) (ci := 0) (v := .int i_11) (ty := tyX0 3) (C := RX0) (T := TX0) (N := 18) hx hb hts (mm_i inlX0) tyX0 tyX0_ok nmX0 hown hK.1 hP hD hS 0 rfl rfl 3 (by decide) (mm_h hts mm_w218) (fun _ h9 => h9) rfl (tyX0_ok 3 (by decide)) rfl rfl (Nat.le_of_ble_eq_true rfl) dX0_copyFrom_29 ?_
  clear hP hD hS
  clear H locs
  intro H locs (hP : va_P G vwCl [(a_0, .inr (0, [.int i_8, .int i_9, .int i_10, .int i_11, .int i_4, .int i_5, .int i_6, .int i_7, .ref a_2, .ref a_3, .ref a_4, .ref a_5, .ref a_6, .ref a_7, .ref a_8, .ref a_9, .ref a_10, .ref a_11])), (a_2, .inl (cy 1, 9, .inl f_0)), (a_3, .inl (cy 1, 9, .inl f_1)), (a_4, .inl (cy 1, 3, .inl f_2)), (a_5, .inl (cy 1, 210, .inl f_3)), (a_6, .inl (cy 1, 6, .inl f_4)), (a_7, .inl (cy 1, 48, .inl f_5)), (a_8, .inl (cy 1, 30, .inl f_6)), (a_9, .inl (cy 1, 30, .inl f_7)), (a_10, .inl (cy 1, 30, .inl f_8)), (a_11, .inl (cy 1, 30, .inl f_9)), (a_1, .inr (0, [.int i_8, .int i_9, .int i_10, .int i_11, .int i_12, .int i_13, .int i_14, .int i_15, .ref a_12, .ref a_13, .ref a_14, .ref a_15, .ref a_16, .ref a_17, .ref a_18, .ref a_19, .ref a_20, .ref a_21])), (a_12, .inl (cy 1, 9, .inl f_10)), (a_13, .inl (cy 1, 9, .inl f_11)), (a_14, .inl (cy 1, 3, .inl f_12)), (a_15, .inl (cy 1, 210, .inl f_13)), (a_16, .inl (cy 1, 6, .inl f_14)), (a_17, .inl (cy 1, 48, .inl f_15)), (a_18, .inl (cy 1, 30, .inl f_16)), (a_19, .inl (cy 1, 30, .inl f_17)), (a_20, .inl (cy 1, 30, .inl f_18)), (a_21, .inl (cy 1, 30, .inl f_19))] H) (hD : va_D A [(a_0, .inr (0, [.int i_8, .int i_9, .int i_10, .int i_11, .int i_4, .int i_5, .int i_6, .int i_7, .ref a_2, .ref a_3, .ref a_4, .ref a_5, .ref a_6, .ref a_7, .ref a_8, .ref a_9, .ref a_10, .ref a_11])), (a_2, .inl (cy 1, 9, .inl f_0)), (a_3, .inl (cy 1, 9, .inl f_1)), (a_4, .inl (cy 1, 3, .inl f_2)), (a_5, .inl (cy 1, 210, .inl f_3)), (a_6, .inl (cy 1, 6, .inl f_4)), (a_7, .inl (cy 1, 48, .inl f_5)), (a_8, .inl (cy 1, 30, .inl f_6)), (a_9, .inl (cy 1, 30, .inl f_7)), (a_10, .inl (cy 1, 30, .inl f_8)), (a_11, .inl (cy 1, 30, .inl f_9)), (a_1, .inr (0, [.int i_8, .int i_9, .int i_10, .int i_11, .int i_12, .int i_13, .int i_14, .int i_15, .ref a_12, .ref a_13, .ref a_14, .ref a_15, .ref a_16, .ref a_17, .ref a_18, .ref a_19, .ref a_20, .ref a_21])), (a_12, .inl (cy 1, 9, .inl f_10)), (a_13, .inl (cy 1, 9, .inl f_11)), (a_14, .inl (cy 1, 3, .inl f_12)), (a_15, .inl (cy 1, 210, .inl f_13)), (a_16, .inl (cy 1, 6, .inl f_14)), (a_17, .inl (cy 1, 48, .inl f_15)), (a_18, .inl (cy 1, 30, .inl f_16)), (a_19, .inl (cy 1, 30, .inl f_17)), (a_20, .inl (cy 1, 30, .inl f_18)), (a_21, .inl (cy 1, 30, .inl f_19))]) hS
  refine lv_aload_n hx hb dX0_copyFrom_32 rfl (lv_at hl 0 rfl) ?_
  refine lv_aload_n hx hb dX0_copyFrom_33 rfl (lv_at hl 1 rfl) ?_
  refine va_get (D := G) (ci := 0) (v := .int i_12) (C := RX0) (T := TX0) (N := 18) hx hb hts (mm_i inlX0) hown hK.1 hP 11 rfl rfl 4 (by decide) (mm_h hts mm_w219) (fun _ h9 => h9) rfl dX0_copyFrom_34 ?_
  refine va_put (D := G) (ci := 0) (v := .int i_12) (ty := tyX0 4) (C := RX0) (T := TX0) (N := 18) hx hb hts (mm_i inlX0) tyX0 tyX0_ok nmX0 hown hK.1 hP hD hS 0 rfl rfl 4 (by decide) (mm_h hts mm_w219) (fun _ h9 => h9) rfl (tyX0_ok 4 (by decide)) rfl rfl (Nat.le_of_ble_eq_true rfl) dX0_copyFrom_37 ?_
  clear hP hD hS
  clear H locs
  intro H locs (hP : va_P G vwCl [(a_0, .inr (0, [.int i_8, .int i_9, .int i_10, .int i_11, .int i_12, .int i_5, .int i_6, .int i_7, .ref a_2, .ref a_3, .ref a_4, .ref a_5, .ref a_6, .ref a_7, .ref a_8, .ref a_9, .ref a_10, .ref a_11])), (a_2, .inl (cy 1, 9, .inl f_0)), (a_3, .inl (cy 1, 9, .inl f_1)), (a_4, .inl (cy 1, 3, .inl f_2)), (a_5, .inl (cy 1, 210, .inl f_3)), (a_6, .inl (cy 1, 6, .inl f_4)), (a_7, .inl (cy 1, 48, .inl f_5)), (a_8, .inl (cy 1, 30, .inl f_6)), (a_9, .inl (cy 1, 30, .inl f_7)), (a_10, .inl (cy 1, 30, .inl f_8)), (a_11, .inl (cy 1, 30, .inl f_9)), (a_1, .inr (0, [.int i_8, .int i_9, .int i_10, .int i_11, .int i_12, .int i_13, .int i_14, .int i_15, .ref a_12, .ref a_13, .ref a_14, .ref a_15, .ref a_16, .ref a_17, .ref a_18, .ref a_19, .ref a_20, .ref a_21])), (a_12, .inl (cy 1, 9, .inl f_10)), (a_13, .inl (cy 1, 9, .inl f_11)), (a_14, .inl (cy 1, 3, .inl f_12)), (a_15, .inl (cy 1, 210, .inl f_13)), (a_16, .inl (cy 1, 6, .inl f_14)), (a_17, .inl (cy 1, 48, .inl f_15)), (a_18, .inl (cy 1, 30, .inl f_16)), (a_19, .inl (cy 1, 30, .inl f_17)), (a_20, .inl (cy 1, 30, .inl f_18)), (a_21, .inl (cy 1, 30, .inl f_19))] H) (hD : va_D A [(a_0, .inr (0, [.int i_8, .int i_9, .int i_10, .int i_11, .int i_12, .int i_5, .int i_6, .int i_7, .ref a_2, .ref a_3, .ref a_4, .ref a_5, .ref a_6, .ref a_7, .ref a_8, .ref a_9, .ref a_10, .ref a_11])), (a_2, .inl (cy 1, 9, .inl f_0)), (a_3, .inl (cy 1, 9, .inl f_1)), (a_4, .inl (cy 1, 3, .inl f_2)), (a_5, .inl (cy 1, 210, .inl f_3)), (a_6, .inl (cy 1, 6, .inl f_4)), (a_7, .inl (cy 1, 48, .inl f_5)), (a_8, .inl (cy 1, 30, .inl f_6)), (a_9, .inl (cy 1, 30, .inl f_7)), (a_10, .inl (cy 1, 30, .inl f_8)), (a_11, .inl (cy 1, 30, .inl f_9)), (a_1, .inr (0, [.int i_8, .int i_9, .int i_10, .int i_11, .int i_12, .int i_13, .int i_14, .int i_15, .ref a_12, .ref a_13, .ref a_14, .ref a_15, .ref a_16, .ref a_17, .ref a_18, .ref a_19, .ref a_20, .ref a_21])), (a_12, .inl (cy 1, 9, .inl f_10)), (a_13, .inl (cy 1, 9, .inl f_11)), (a_14, .inl (cy 1, 3, .inl f_12)), (a_15, .inl (cy 1, 210, .inl f_13)), (a_16, .inl (cy 1, 6, .inl f_14)), (a_17, .inl (cy 1, 48, .inl f_15)), (a_18, .inl (cy 1, 30, .inl f_16)), (a_19, .inl (cy 1, 30, .inl f_17)), (a_20, .inl (cy 1, 30, .inl f_18)), (a_21, .inl (cy 1, 30, .inl f_19))]) hS
  refine lv_aload_n hx hb dX0_copyFrom_40 rfl (lv_at hl 0 rfl) ?_
  refine lv_aload_n hx hb dX0_copyFrom_41 rfl (lv_at hl 1 rfl) ?_
  refine va_get (D := G) (ci := 0) (v := .int i_13) (C := RX0) (T := TX0) (N := 18) hx hb hts (mm_i inlX0) hown hK.1 hP 11 rfl rfl 5 (by decide) (mm_h hts mm_w220) (fun _ h9 => h9) rfl dX0_copyFrom_42 ?_
  refine va_put (D := G) (ci := 0) (v := .int i_13) (ty := tyX0 5) (C := RX0) (T := TX0) (N := 18) hx hb hts (mm_i inlX0) tyX0 tyX0_ok nmX0 hown hK.1 hP hD hS 0 rfl rfl 5 (by decide) (mm_h hts mm_w220) (fun _ h9 => h9) rfl (tyX0_ok 5 (by decide)) rfl rfl (Nat.le_of_ble_eq_true rfl) dX0_copyFrom_45 ?_
  clear hP hD hS
  clear H locs
  intro H locs (hP : va_P G vwCl [(a_0, .inr (0, [.int i_8, .int i_9, .int i_10, .int i_11, .int i_12, .int i_13, .int i_6, .int i_7, .ref a_2, .ref a_3, .ref a_4, .ref a_5, .ref a_6, .ref a_7, .ref a_8, .ref a_9, .ref a_10, .ref a_11])), (a_2, .inl (cy 1, 9, .inl f_0)), (a_3, .inl (cy 1, 9, .inl f_1)), (a_4, .inl (cy 1, 3, .inl f_2)), (a_5, .inl (cy 1, 210, .inl f_3)), (a_6, .inl (cy 1, 6, .inl f_4)), (a_7, .inl (cy 1, 48, .inl f_5)), (a_8, .inl (cy 1, 30, .inl f_6)), (a_9, .inl (cy 1, 30, .inl f_7)), (a_10, .inl (cy 1, 30, .inl f_8)), (a_11, .inl (cy 1, 30, .inl f_9)), (a_1, .inr (0, [.int i_8, .int i_9, .int i_10, .int i_11, .int i_12, .int i_13, .int i_14, .int i_15, .ref a_12, .ref a_13, .ref a_14, .ref a_15, .ref a_16, .ref a_17, .ref a_18, .ref a_19, .ref a_20, .ref a_21])), (a_12, .inl (cy 1, 9, .inl f_10)), (a_13, .inl (cy 1, 9, .inl f_11)), (a_14, .inl (cy 1, 3, .inl f_12)), (a_15, .inl (cy 1, 210, .inl f_13)), (a_16, .inl (cy 1, 6, .inl f_14)), (a_17, .inl (cy 1, 48, .inl f_15)), (a_18, .inl (cy 1, 30, .inl f_16)), (a_19, .inl (cy 1, 30, .inl f_17)), (a_20, .inl (cy 1, 30, .inl f_18)), (a_21, .inl (cy 1, 30, .inl f_19))] H) (hD : va_D A [(a_0, .inr (0, [.int i_8, .int i_9, .int i_10, .int i_11, .int i_12, .int i_13, .int i_6, .int i_7, .ref a_2, .ref a_3, .ref a_4, .ref a_5, .ref a_6, .ref a_7, .ref a_8, .ref a_9, .ref a_10, .ref a_11])), (a_2, .inl (cy 1, 9, .inl f_0)), (a_3, .inl (cy 1, 9, .inl f_1)), (a_4, .inl (cy 1, 3, .inl f_2)), (a_5, .inl (cy 1, 210, .inl f_3)), (a_6, .inl (cy 1, 6, .inl f_4)), (a_7, .inl (cy 1, 48, .inl f_5)), (a_8, .inl (cy 1, 30, .inl f_6)), (a_9, .inl (cy 1, 30, .inl f_7)), (a_10, .inl (cy 1, 30, .inl f_8)), (a_11, .inl (cy 1, 30, .inl f_9)), (a_1, .inr (0, [.int i_8, .int i_9, .int i_10, .int i_11, .int i_12, .int i_13, .int i_14, .int i_15, .ref a_12, .ref a_13, .ref a_14, .ref a_15, .ref a_16, .ref a_17, .ref a_18, .ref a_19, .ref a_20, .ref a_21])), (a_12, .inl (cy 1, 9, .inl f_10)), (a_13, .inl (cy 1, 9, .inl f_11)), (a_14, .inl (cy 1, 3, .inl f_12)), (a_15, .inl (cy 1, 210, .inl f_13)), (a_16, .inl (cy 1, 6, .inl f_14)), (a_17, .inl (cy 1, 48, .inl f_15)), (a_18, .inl (cy 1, 30, .inl f_16)), (a_19, .inl (cy 1, 30, .inl f_17)), (a_20, .inl (cy 1, 30, .inl f_18)), (a_21, .inl (cy 1, 30, .inl f_19))]) hS
  refine lv_aload_n hx hb dX0_copyFrom_48 rfl (lv_at hl 0 rfl) ?_
  refine lv_aload_n hx hb dX0_copyFrom_49 rfl (lv_at hl 1 rfl) ?_
  refine va_get (D := G) (ci := 0) (v := .int i_14) (C := RX0) (T := TX0) (N := 18) hx hb hts (mm_i inlX0) hown hK.1 hP 11 rfl rfl 6 (by decide) (mm_h hts mm_w221) (fun _ h9 => h9) rfl dX0_copyFrom_50 ?_
  refine va_put (D := G) (ci := 0) (v := .int i_14) (ty := tyX0 6) (C := RX0) (T := TX0) (N := 18) hx hb hts (mm_i inlX0) tyX0 tyX0_ok nmX0 hown hK.1 hP hD hS 0 rfl rfl 6 (by decide) (mm_h hts mm_w221) (fun _ h9 => h9) rfl (tyX0_ok 6 (by decide)) rfl rfl (Nat.le_of_ble_eq_true rfl) dX0_copyFrom_53 ?_
  clear hP hD hS
  clear H locs
  intro H locs (hP : va_P G vwCl [(a_0, .inr (0, [.int i_8, .int i_9, .int i_10, .int i_11, .int i_12, .int i_13, .int i_14, .int i_7, .ref a_2, .ref a_3, .ref a_4, .ref a_5, .ref a_6, .ref a_7, .ref a_8, .ref a_9, .ref a_10, .ref a_11])), (a_2, .inl (cy 1, 9, .inl f_0)), (a_3, .inl (cy 1, 9, .inl f_1)), (a_4, .inl (cy 1, 3, .inl f_2)), (a_5, .inl (cy 1, 210, .inl f_3)), (a_6, .inl (cy 1, 6, .inl f_4)), (a_7, .inl (cy 1, 48, .inl f_5)), (a_8, .inl (cy 1, 30, .inl f_6)), (a_9, .inl (cy 1, 30, .inl f_7)), (a_10, .inl (cy 1, 30, .inl f_8)), (a_11, .inl (cy 1, 30, .inl f_9)), (a_1, .inr (0, [.int i_8, .int i_9, .int i_10, .int i_11, .int i_12, .int i_13, .int i_14, .int i_15, .ref a_12, .ref a_13, .ref a_14, .ref a_15, .ref a_16, .ref a_17, .ref a_18, .ref a_19, .ref a_20, .ref a_21])), (a_12, .inl (cy 1, 9, .inl f_10)), (a_13, .inl (cy 1, 9, .inl f_11)), (a_14, .inl (cy 1, 3, .inl f_12)), (a_15, .inl (cy 1, 210, .inl f_13)), (a_16, .inl (cy 1, 6, .inl f_14)), (a_17, .inl (cy 1, 48, .inl f_15)), (a_18, .inl (cy 1, 30, .inl f_16)), (a_19, .inl (cy 1, 30, .inl f_17)), (a_20, .inl (cy 1, 30, .inl f_18)), (a_21, .inl (cy 1, 30, .inl f_19))] H) (hD : va_D A [(a_0, .inr (0, [.int i_8, .int i_9, .int i_10, .int i_11, .int i_12, .int i_13, .int i_14, .int i_7, .ref a_2, .ref a_3, .ref a_4, .ref a_5, .ref a_6, .ref a_7, .ref a_8, .ref a_9, .ref a_10, .ref a_11])), (a_2, .inl (cy 1, 9, .inl f_0)), (a_3, .inl (cy 1, 9, .inl f_1)), (a_4, .inl (cy 1, 3, .inl f_2)), (a_5, .inl (cy 1, 210, .inl f_3)), (a_6, .inl (cy 1, 6, .inl f_4)), (a_7, .inl (cy 1, 48, .inl f_5)), (a_8, .inl (cy 1, 30, .inl f_6)), (a_9, .inl (cy 1, 30, .inl f_7)), (a_10, .inl (cy 1, 30, .inl f_8)), (a_11, .inl (cy 1, 30, .inl f_9)), (a_1, .inr (0, [.int i_8, .int i_9, .int i_10, .int i_11, .int i_12, .int i_13, .int i_14, .int i_15, .ref a_12, .ref a_13, .ref a_14, .ref a_15, .ref a_16, .ref a_17, .ref a_18, .ref a_19, .ref a_20, .ref a_21])), (a_12, .inl (cy 1, 9, .inl f_10)), (a_13, .inl (cy 1, 9, .inl f_11)), (a_14, .inl (cy 1, 3, .inl f_12)), (a_15, .inl (cy 1, 210, .inl f_13)), (a_16, .inl (cy 1, 6, .inl f_14)), (a_17, .inl (cy 1, 48, .inl f_15)), (a_18, .inl (cy 1, 30, .inl f_16)), (a_19, .inl (cy 1, 30, .inl f_17)), (a_20, .inl (cy 1, 30, .inl f_18)), (a_21, .inl (cy 1, 30, .inl f_19))]) hS
  refine lv_aload_n hx hb dX0_copyFrom_56 rfl (lv_at hl 0 rfl) ?_
  refine lv_aload_n hx hb dX0_copyFrom_57 rfl (lv_at hl 1 rfl) ?_
  refine va_get (D := G) (ci := 0) (v := .int i_15) (C := RX0) (T := TX0) (N := 18) hx hb hts (mm_i inlX0) hown hK.1 hP 11 rfl rfl 7 (by decide) (mm_h hts mm_w222) (fun _ h9 => h9) rfl dX0_copyFrom_58 ?_
  refine va_put (D := G) (ci := 0) (v := .int i_15) (ty := tyX0 7) (C := RX0) (T := TX0) (N := 18) hx hb hts (mm_i inlX0) tyX0 tyX0_ok nmX0 hown hK.1 hP hD hS 0 rfl rfl 7 (by decide) (mm_h hts mm_w222) (fun _ h9 => h9) rfl (tyX0_ok 7 (by decide)) rfl rfl (Nat.le_of_ble_eq_true rfl) dX0_copyFrom_61 ?_
  clear hP hD hS
  clear H locs
  intro H locs (hP : va_P G vwCl [(a_0, .inr (0, [.int i_8, .int i_9, .int i_10, .int i_11, .int i_12, .int i_13, .int i_14, .int i_15, .ref a_2, .ref a_3, .ref a_4, .ref a_5, .ref a_6, .ref a_7, .ref a_8, .ref a_9, .ref a_10, .ref a_11])), (a_2, .inl (cy 1, 9, .inl f_0)), (a_3, .inl (cy 1, 9, .inl f_1)), (a_4, .inl (cy 1, 3, .inl f_2)), (a_5, .inl (cy 1, 210, .inl f_3)), (a_6, .inl (cy 1, 6, .inl f_4)), (a_7, .inl (cy 1, 48, .inl f_5)), (a_8, .inl (cy 1, 30, .inl f_6)), (a_9, .inl (cy 1, 30, .inl f_7)), (a_10, .inl (cy 1, 30, .inl f_8)), (a_11, .inl (cy 1, 30, .inl f_9)), (a_1, .inr (0, [.int i_8, .int i_9, .int i_10, .int i_11, .int i_12, .int i_13, .int i_14, .int i_15, .ref a_12, .ref a_13, .ref a_14, .ref a_15, .ref a_16, .ref a_17, .ref a_18, .ref a_19, .ref a_20, .ref a_21])), (a_12, .inl (cy 1, 9, .inl f_10)), (a_13, .inl (cy 1, 9, .inl f_11)), (a_14, .inl (cy 1, 3, .inl f_12)), (a_15, .inl (cy 1, 210, .inl f_13)), (a_16, .inl (cy 1, 6, .inl f_14)), (a_17, .inl (cy 1, 48, .inl f_15)), (a_18, .inl (cy 1, 30, .inl f_16)), (a_19, .inl (cy 1, 30, .inl f_17)), (a_20, .inl (cy 1, 30, .inl f_18)), (a_21, .inl (cy 1, 30, .inl f_19))] H) (hD : va_D A [(a_0, .inr (0, [.int i_8, .int i_9, .int i_10, .int i_11, .int i_12, .int i_13, .int i_14, .int i_15, .ref a_2, .ref a_3, .ref a_4, .ref a_5, .ref a_6, .ref a_7, .ref a_8, .ref a_9, .ref a_10, .ref a_11])), (a_2, .inl (cy 1, 9, .inl f_0)), (a_3, .inl (cy 1, 9, .inl f_1)), (a_4, .inl (cy 1, 3, .inl f_2)), (a_5, .inl (cy 1, 210, .inl f_3)), (a_6, .inl (cy 1, 6, .inl f_4)), (a_7, .inl (cy 1, 48, .inl f_5)), (a_8, .inl (cy 1, 30, .inl f_6)), (a_9, .inl (cy 1, 30, .inl f_7)), (a_10, .inl (cy 1, 30, .inl f_8)), (a_11, .inl (cy 1, 30, .inl f_9)), (a_1, .inr (0, [.int i_8, .int i_9, .int i_10, .int i_11, .int i_12, .int i_13, .int i_14, .int i_15, .ref a_12, .ref a_13, .ref a_14, .ref a_15, .ref a_16, .ref a_17, .ref a_18, .ref a_19, .ref a_20, .ref a_21])), (a_12, .inl (cy 1, 9, .inl f_10)), (a_13, .inl (cy 1, 9, .inl f_11)), (a_14, .inl (cy 1, 3, .inl f_12)), (a_15, .inl (cy 1, 210, .inl f_13)), (a_16, .inl (cy 1, 6, .inl f_14)), (a_17, .inl (cy 1, 48, .inl f_15)), (a_18, .inl (cy 1, 30, .inl f_16)), (a_19, .inl (cy 1, 30, .inl f_17)), (a_20, .inl (cy 1, 30, .inl f_18)), (a_21, .inl (cy 1, 30, .inl f_19))]) hS
  refine lv_aload_n hx hb dX0_copyFrom_64 rfl (lv_at hl 1 rfl) ?_
  refine va_get (D := G) (ci := 0) (v := .ref a_12) (C := RX0) (T := TX0) (N := 18) hx hb hts (mm_i inlX0) hown hK.1 hP 11 rfl rfl 8 (by decide) (mm_h hts mm_w72) (fun _ h9 => h9) rfl dX0_copyFrom_65 ?_
  refine lv_aload_n hx hb dX0_copyFrom_68 rfl (lv_at hl 0 rfl) ?_
  refine va_get (D := G) (ci := 0) (v := .ref a_2) (C := RX0) (T := TX0) (N := 18) hx hb hts (mm_i inlX0) hown hK.1 hP 0 rfl rfl 8 (by decide) (mm_h hts mm_w72) (fun _ h9 => h9) rfl dX0_copyFrom_69 ?_
  refine mm_finv (va_runS (As := [.ref a_12, .ref a_2]) (rest := []) ⟨hx, hb, hml, hown, hts⟩ (K524_X0_copyRow l G cy H.size a_12 a_2 f_0 f_10 h7 h24) (va_cwS 2 hts (mm_gS mm_w381 mm_w382 mm_w28 mm_w383) rfl rfl rfl hs_X0_copyRow ⟨by rw [hRf]; exact Nat.le_of_ble_eq_true rfl, by rw [hRl]; exact Nat.le_of_ble_eq_true rfl⟩) (mm_preS hK hZ hS hA hP hD [1, 12] rfl rfl) rfl rfl hl.1 rfl (lv_room (Nat.le_of_ble_eq_true rfl)) dX0_copyFrom_72 ⟨by rw [hRc]; exact Nat.le_of_ble_eq_true rfl, by rw [hRs]; exact Nat.le_of_ble_eq_true rfl⟩) hP hD hS hA (fun u : Unit => [(a_0, .inr (0, [.int i_8, .int i_9, .int i_10, .int i_11, .int i_12, .int i_13, .int i_14, .int i_15, .ref a_2, .ref a_3, .ref a_4, .ref a_5, .ref a_6, .ref a_7, .ref a_8, .ref a_9, .ref a_10, .ref a_11])), (a_2, .inl (cy 1, 9, .inl f_10)), (a_3, .inl (cy 1, 9, .inl f_1)), (a_4, .inl (cy 1, 3, .inl f_2)), (a_5, .inl (cy 1, 210, .inl f_3)), (a_6, .inl (cy 1, 6, .inl f_4)), (a_7, .inl (cy 1, 48, .inl f_5)), (a_8, .inl (cy 1, 30, .inl f_6)), (a_9, .inl (cy 1, 30, .inl f_7)), (a_10, .inl (cy 1, 30, .inl f_8)), (a_11, .inl (cy 1, 30, .inl f_9)), (a_1, .inr (0, [.int i_8, .int i_9, .int i_10, .int i_11, .int i_12, .int i_13, .int i_14, .int i_15, .ref a_12, .ref a_13, .ref a_14, .ref a_15, .ref a_16, .ref a_17, .ref a_18, .ref a_19, .ref a_20, .ref a_21])), (a_12, .inl (cy 1, 9, .inl f_10)), (a_13, .inl (cy 1, 9, .inl f_11)), (a_14, .inl (cy 1, 3, .inl f_12)), (a_15, .inl (cy 1, 210, .inl f_13)), (a_16, .inl (cy 1, 6, .inl f_14)), (a_17, .inl (cy 1, 48, .inl f_15)), (a_18, .inl (cy 1, 30, .inl f_16)), (a_19, .inl (cy 1, 30, .inl f_17)), (a_20, .inl (cy 1, 30, .inl f_18)), (a_21, .inl (cy 1, 30, .inl f_19))]) [1, 12] [0, 2, 3, 4, 5, 6, 7, 8, 9, 10, 11, 13, 14, 15, 16, 17, 18, 19, 20, 21] (n := 22) (fun _ => rfl) (by decide +kernel) (by decide +kernel) rfl (fun _ => rfl) (wr := [(a_0, .inr (0, [.int i_8, .int i_9, .int i_10, .int i_11, .int i_12, .int i_13, .int i_14, .int i_15, .ref a_2, .ref a_3, .ref a_4, .ref a_5, .ref a_6, .ref a_7, .ref a_8, .ref a_9, .ref a_10, .ref a_11])), (a_3, .inl (cy 1, 9, .inl f_1)), (a_4, .inl (cy 1, 3, .inl f_2)), (a_5, .inl (cy 1, 210, .inl f_3)), (a_6, .inl (cy 1, 6, .inl f_4)), (a_7, .inl (cy 1, 48, .inl f_5)), (a_8, .inl (cy 1, 30, .inl f_6)), (a_9, .inl (cy 1, 30, .inl f_7)), (a_10, .inl (cy 1, 30, .inl f_8)), (a_11, .inl (cy 1, 30, .inl f_9)), (a_1, .inr (0, [.int i_8, .int i_9, .int i_10, .int i_11, .int i_12, .int i_13, .int i_14, .int i_15, .ref a_12, .ref a_13, .ref a_14, .ref a_15, .ref a_16, .ref a_17, .ref a_18, .ref a_19, .ref a_20, .ref a_21])), (a_13, .inl (cy 1, 9, .inl f_11)), (a_14, .inl (cy 1, 3, .inl f_12)), (a_15, .inl (cy 1, 210, .inl f_13)), (a_16, .inl (cy 1, 6, .inl f_14)), (a_17, .inl (cy 1, 48, .inl f_15)), (a_18, .inl (cy 1, 30, .inl f_16)), (a_19, .inl (cy 1, 30, .inl f_17)), (a_20, .inl (cy 1, 30, .inl f_18)), (a_21, .inl (cy 1, 30, .inl f_19))]) rfl (fun _ => rfl) (fun _ => rfl) ?_
  clear hP hD hS
  clear H locs
  intro _u H locs hw (hP : va_P G vwCl [(a_0, .inr (0, [.int i_8, .int i_9, .int i_10, .int i_11, .int i_12, .int i_13, .int i_14, .int i_15, .ref a_2, .ref a_3, .ref a_4, .ref a_5, .ref a_6, .ref a_7, .ref a_8, .ref a_9, .ref a_10, .ref a_11])), (a_2, .inl (cy 1, 9, .inl f_10)), (a_3, .inl (cy 1, 9, .inl f_1)), (a_4, .inl (cy 1, 3, .inl f_2)), (a_5, .inl (cy 1, 210, .inl f_3)), (a_6, .inl (cy 1, 6, .inl f_4)), (a_7, .inl (cy 1, 48, .inl f_5)), (a_8, .inl (cy 1, 30, .inl f_6)), (a_9, .inl (cy 1, 30, .inl f_7)), (a_10, .inl (cy 1, 30, .inl f_8)), (a_11, .inl (cy 1, 30, .inl f_9)), (a_1, .inr (0, [.int i_8, .int i_9, .int i_10, .int i_11, .int i_12, .int i_13, .int i_14, .int i_15, .ref a_12, .ref a_13, .ref a_14, .ref a_15, .ref a_16, .ref a_17, .ref a_18, .ref a_19, .ref a_20, .ref a_21])), (a_12, .inl (cy 1, 9, .inl f_10)), (a_13, .inl (cy 1, 9, .inl f_11)), (a_14, .inl (cy 1, 3, .inl f_12)), (a_15, .inl (cy 1, 210, .inl f_13)), (a_16, .inl (cy 1, 6, .inl f_14)), (a_17, .inl (cy 1, 48, .inl f_15)), (a_18, .inl (cy 1, 30, .inl f_16)), (a_19, .inl (cy 1, 30, .inl f_17)), (a_20, .inl (cy 1, 30, .inl f_18)), (a_21, .inl (cy 1, 30, .inl f_19))] H) (hD : va_D A [(a_0, .inr (0, [.int i_8, .int i_9, .int i_10, .int i_11, .int i_12, .int i_13, .int i_14, .int i_15, .ref a_2, .ref a_3, .ref a_4, .ref a_5, .ref a_6, .ref a_7, .ref a_8, .ref a_9, .ref a_10, .ref a_11])), (a_2, .inl (cy 1, 9, .inl f_10)), (a_3, .inl (cy 1, 9, .inl f_1)), (a_4, .inl (cy 1, 3, .inl f_2)), (a_5, .inl (cy 1, 210, .inl f_3)), (a_6, .inl (cy 1, 6, .inl f_4)), (a_7, .inl (cy 1, 48, .inl f_5)), (a_8, .inl (cy 1, 30, .inl f_6)), (a_9, .inl (cy 1, 30, .inl f_7)), (a_10, .inl (cy 1, 30, .inl f_8)), (a_11, .inl (cy 1, 30, .inl f_9)), (a_1, .inr (0, [.int i_8, .int i_9, .int i_10, .int i_11, .int i_12, .int i_13, .int i_14, .int i_15, .ref a_12, .ref a_13, .ref a_14, .ref a_15, .ref a_16, .ref a_17, .ref a_18, .ref a_19, .ref a_20, .ref a_21])), (a_12, .inl (cy 1, 9, .inl f_10)), (a_13, .inl (cy 1, 9, .inl f_11)), (a_14, .inl (cy 1, 3, .inl f_12)), (a_15, .inl (cy 1, 210, .inl f_13)), (a_16, .inl (cy 1, 6, .inl f_14)), (a_17, .inl (cy 1, 48, .inl f_15)), (a_18, .inl (cy 1, 30, .inl f_16)), (a_19, .inl (cy 1, 30, .inl f_17)), (a_20, .inl (cy 1, 30, .inl f_18)), (a_21, .inl (cy 1, 30, .inl f_19))]) hS
  refine lv_aload_n hx hb dX0_copyFrom_75 rfl (lv_at hl 1 rfl) ?_
  refine va_get (D := G) (ci := 0) (v := .ref a_13) (C := RX0) (T := TX0) (N := 18) hx hb hts (mm_i inlX0) hown hK.1 hP 11 rfl rfl 9 (by decide) (mm_h hts mm_w73) (fun _ h9 => h9) rfl dX0_copyFrom_76 ?_
  refine lv_aload_n hx hb dX0_copyFrom_79 rfl (lv_at hl 0 rfl) ?_
  refine va_get (D := G) (ci := 0) (v := .ref a_3) (C := RX0) (T := TX0) (N := 18) hx hb hts (mm_i inlX0) hown hK.1 hP 0 rfl rfl 9 (by decide) (mm_h hts mm_w73) (fun _ h9 => h9) rfl dX0_copyFrom_80 ?_
  refine mm_finv (va_runS (As := [.ref a_13, .ref a_3]) (rest := []) ⟨hx, hb, hml, hown, hts⟩ (K525_X0_copyRow l G cy H.size a_13 a_3 f_1 f_11 h8 h25) (va_cwS 2 hts (mm_gS mm_w381 mm_w382 mm_w28 mm_w383) rfl rfl rfl hs_X0_copyRow ⟨by rw [hRf]; exact Nat.le_of_ble_eq_true rfl, by rw [hRl]; exact Nat.le_of_ble_eq_true rfl⟩) (mm_preS hK hZ hS hA hP hD [2, 13] rfl rfl) rfl rfl hl.1 rfl (lv_room (Nat.le_of_ble_eq_true rfl)) dX0_copyFrom_83 ⟨by rw [hRc]; exact Nat.le_of_ble_eq_true rfl, by rw [hRs]; exact Nat.le_of_ble_eq_true rfl⟩) hP hD hS hA (fun u : Unit => [(a_0, .inr (0, [.int i_8, .int i_9, .int i_10, .int i_11, .int i_12, .int i_13, .int i_14, .int i_15, .ref a_2, .ref a_3, .ref a_4, .ref a_5, .ref a_6, .ref a_7, .ref a_8, .ref a_9, .ref a_10, .ref a_11])), (a_2, .inl (cy 1, 9, .inl f_10)), (a_3, .inl (cy 1, 9, .inl f_11)), (a_4, .inl (cy 1, 3, .inl f_2)), (a_5, .inl (cy 1, 210, .inl f_3)), (a_6, .inl (cy 1, 6, .inl f_4)), (a_7, .inl (cy 1, 48, .inl f_5)), (a_8, .inl (cy 1, 30, .inl f_6)), (a_9, .inl (cy 1, 30, .inl f_7)), (a_10, .inl (cy 1, 30, .inl f_8)), (a_11, .inl (cy 1, 30, .inl f_9)), (a_1, .inr (0, [.int i_8, .int i_9, .int i_10, .int i_11, .int i_12, .int i_13, .int i_14, .int i_15, .ref a_12, .ref a_13, .ref a_14, .ref a_15, .ref a_16, .ref a_17, .ref a_18, .ref a_19, .ref a_20, .ref a_21])), (a_12, .inl (cy 1, 9, .inl f_10)), (a_13, .inl (cy 1, 9, .inl f_11)), (a_14, .inl (cy 1, 3, .inl f_12)), (a_15, .inl (cy 1, 210, .inl f_13)), (a_16, .inl (cy 1, 6, .inl f_14)), (a_17, .inl (cy 1, 48, .inl f_15)), (a_18, .inl (cy 1, 30, .inl f_16)), (a_19, .inl (cy 1, 30, .inl f_17)), (a_20, .inl (cy 1, 30, .inl f_18)), (a_21, .inl (cy 1, 30, .inl f_19))]) [2, 13] [0, 1, 3, 4, 5, 6, 7, 8, 9, 10, 11, 12, 14, 15, 16, 17, 18, 19, 20, 21] (n := 22) (fun _ => rfl) (by decide +kernel) (by decide +kernel) rfl (fun _ => rfl) (wr := [(a_0, .inr (0, [.int i_8, .int i_9, .int i_10, .int i_11, .int i_12, .int i_13, .int i_14, .int i_15, .ref a_2, .ref a_3, .ref a_4, .ref a_5, .ref a_6, .ref a_7, .ref a_8, .ref a_9, .ref a_10, .ref a_11])), (a_2, .inl (cy 1, 9, .inl f_10)), (a_4, .inl (cy 1, 3, .inl f_2)), (a_5, .inl (cy 1, 210, .inl f_3)), (a_6, .inl (cy 1, 6, .inl f_4)), (a_7, .inl (cy 1, 48, .inl f_5)), (a_8, .inl (cy 1, 30, .inl f_6)), (a_9, .inl (cy 1, 30, .inl f_7)), (a_10, .inl (cy 1, 30, .inl f_8)), (a_11, .inl (cy 1, 30, .inl f_9)), (a_1, .inr (0, [.int i_8, .int i_9, .int i_10, .int i_11, .int i_12, .int i_13, .int i_14, .int i_15, .ref a_12, .ref a_13, .ref a_14, .ref a_15, .ref a_16, .ref a_17, .ref a_18, .ref a_19, .ref a_20, .ref a_21])), (a_12, .inl (cy 1, 9, .inl f_10)), (a_14, .inl (cy 1, 3, .inl f_12)), (a_15, .inl (cy 1, 210, .inl f_13)), (a_16, .inl (cy 1, 6, .inl f_14)), (a_17, .inl (cy 1, 48, .inl f_15)), (a_18, .inl (cy 1, 30, .inl f_16)), (a_19, .inl (cy 1, 30, .inl f_17)), (a_20, .inl (cy 1, 30, .inl f_18)), (a_21, .inl (cy 1, 30, .inl f_19))]) rfl (fun _ => rfl) (fun _ => rfl) ?_
  clear hP hD hS
  clear H locs
  intro _u H locs hw (hP : va_P G vwCl [(a_0, .inr (0, [.int i_8, .int i_9, .int i_10, .int i_11, .int i_12, .int i_13, .int i_14, .int i_15, .ref a_2, .ref a_3, .ref a_4, .ref a_5, .ref a_6, .ref a_7, .ref a_8, .ref a_9, .ref a_10, .ref a_11])), (a_2, .inl (cy 1, 9, .inl f_10)), (a_3, .inl (cy 1, 9, .inl f_11)), (a_4, .inl (cy 1, 3, .inl f_2)), (a_5, .inl (cy 1, 210, .inl f_3)), (a_6, .inl (cy 1, 6, .inl f_4)), (a_7, .inl (cy 1, 48, .inl f_5)), (a_8, .inl (cy 1, 30, .inl f_6)), (a_9, .inl (cy 1, 30, .inl f_7)), (a_10, .inl (cy 1, 30, .inl f_8)), (a_11, .inl (cy 1, 30, .inl f_9)), (a_1, .inr (0, [.int i_8, .int i_9, .int i_10, .int i_11, .int i_12, .int i_13, .int i_14, .int i_15, .ref a_12, .ref a_13, .ref a_14, .ref a_15, .ref a_16, .ref a_17, .ref a_18, .ref a_19, .ref a_20, .ref a_21])), (a_12, .inl (cy 1, 9, .inl f_10)), (a_13, .inl (cy 1, 9, .inl f_11)), (a_14, .inl (cy 1, 3, .inl f_12)), (a_15, .inl (cy 1, 210, .inl f_13)), (a_16, .inl (cy 1, 6, .inl f_14)), (a_17, .inl (cy 1, 48, .inl f_15)), (a_18, .inl (cy 1, 30, .inl f_16)), (a_19, .inl (cy 1, 30, .inl f_17)), (a_20, .inl (cy 1, 30, .inl f_18)), (a_21, .inl (cy 1, 30, .inl f_19))] H) (hD : va_D A [(a_0, .inr (0, [.int i_8, .int i_9, .int i_10, .int i_11, .int i_12, .int i_13, .int i_14, .int i_15, .ref a_2, .ref a_3, .ref a_4, .ref a_5, .ref a_6, .ref a_7, .ref a_8, .ref a_9, .ref a_10, .ref a_11])), (a_2, .inl (cy 1, 9, .inl f_10)), (a_3, .inl (cy 1, 9, .inl f_11)), (a_4, .inl (cy 1, 3, .inl f_2)), (a_5, .inl (cy 1, 210, .inl f_3)), (a_6, .inl (cy 1, 6, .inl f_4)), (a_7, .inl (cy 1, 48, .inl f_5)), (a_8, .inl (cy 1, 30, .inl f_6)), (a_9, .inl (cy 1, 30, .inl f_7)), (a_10, .inl (cy 1, 30, .inl f_8)), (a_11, .inl (cy 1, 30, .inl f_9)), (a_1, .inr (0, [.int i_8, .int i_9, .int i_10, .int i_11, .int i_12, .int i_13, .int i_14, .int i_15, .ref a_12, .ref a_13, .ref a_14, .ref a_15, .ref a_16, .ref a_17, .ref a_18, .ref a_19, .ref a_20, .ref a_21])), (a_12, .inl (cy 1, 9, .inl f_10)), (a_13, .inl (cy 1, 9, .inl f_11)), (a_14, .inl (cy 1, 3, .inl f_12)), (a_15, .inl (cy 1, 210, .inl f_13)), (a_16, .inl (cy 1, 6, .inl f_14)), (a_17, .inl (cy 1, 48, .inl f_15)), (a_18, .inl (cy 1, 30, .inl f_16)), (a_19, .inl (cy 1, 30, .inl f_17)), (a_20, .inl (cy 1, 30, .inl f_18)), (a_21, .inl (cy 1, 30, .inl f_19))]) hS
  refine lv_aload_n hx hb dX0_copyFrom_86 rfl (lv_at hl 1 rfl) ?_
  refine va_get (D := G) (ci := 0) (v := .ref a_14) (C := RX0) (T := TX0) (N := 18) hx hb hts (mm_i inlX0) hown hK.1 hP 11 rfl rfl 10 (by decide) (mm_h hts mm_w74) (fun _ h9 => h9) rfl dX0_copyFrom_87 ?_
  refine lv_aload_n hx hb dX0_copyFrom_90 rfl (lv_at hl 0 rfl) ?_
  refine va_get (D := G) (ci := 0) (v := .ref a_4) (C := RX0) (T := TX0) (N := 18) hx hb hts (mm_i inlX0) hown hK.1 hP 0 rfl rfl 10 (by decide) (mm_h hts mm_w74) (fun _ h9 => h9) rfl dX0_copyFrom_91 ?_
  refine mm_finv (va_runS (As := [.ref a_14, .ref a_4]) (rest := []) ⟨hx, hb, hml, hown, hts⟩ (K526_X0_copyRow l G cy H.size a_14 a_4 f_2 f_12 h9 h26) (va_cwS 2 hts (mm_gS mm_w381 mm_w382 mm_w28 mm_w383) rfl rfl rfl hs_X0_copyRow ⟨by rw [hRf]; exact Nat.le_of_ble_eq_true rfl, by rw [hRl]; exact Nat.le_of_ble_eq_true rfl⟩) (mm_preS hK hZ hS hA hP hD [3, 14] rfl rfl) rfl rfl hl.1 rfl (lv_room (Nat.le_of_ble_eq_true rfl)) dX0_copyFrom_94 ⟨by rw [hRc]; exact Nat.le_of_ble_eq_true rfl, by rw [hRs]; exact Nat.le_of_ble_eq_true rfl⟩) hP hD hS hA (fun u : Unit => [(a_0, .inr (0, [.int i_8, .int i_9, .int i_10, .int i_11, .int i_12, .int i_13, .int i_14, .int i_15, .ref a_2, .ref a_3, .ref a_4, .ref a_5, .ref a_6, .ref a_7, .ref a_8, .ref a_9, .ref a_10, .ref a_11])), (a_2, .inl (cy 1, 9, .inl f_10)), (a_3, .inl (cy 1, 9, .inl f_11)), (a_4, .inl (cy 1, 3, .inl f_12)), (a_5, .inl (cy 1, 210, .inl f_3)), (a_6, .inl (cy 1, 6, .inl f_4)), (a_7, .inl (cy 1, 48, .inl f_5)), (a_8, .inl (cy 1, 30, .inl f_6)), (a_9, .inl (cy 1, 30, .inl f_7)), (a_10, .inl (cy 1, 30, .inl f_8)), (a_11, .inl (cy 1, 30, .inl f_9)), (a_1, .inr (0, [.int i_8, .int i_9, .int i_10, .int i_11, .int i_12, .int i_13, .int i_14, .int i_15, .ref a_12, .ref a_13, .ref a_14, .ref a_15, .ref a_16, .ref a_17, .ref a_18, .ref a_19, .ref a_20, .ref a_21])), (a_12, .inl (cy 1, 9, .inl f_10)), (a_13, .inl (cy 1, 9, .inl f_11)), (a_14, .inl (cy 1, 3, .inl f_12)), (a_15, .inl (cy 1, 210, .inl f_13)), (a_16, .inl (cy 1, 6, .inl f_14)), (a_17, .inl (cy 1, 48, .inl f_15)), (a_18, .inl (cy 1, 30, .inl f_16)), (a_19, .inl (cy 1, 30, .inl f_17)), (a_20, .inl (cy 1, 30, .inl f_18)), (a_21, .inl (cy 1, 30, .inl f_19))]) [3, 14] [0, 1, 2, 4, 5, 6, 7, 8, 9, 10, 11, 12, 13, 15, 16, 17, 18, 19, 20, 21] (n := 22) (fun _ => rfl) (by decide +kernel) (by decide +kernel) rfl (fun _ => rfl) (wr := [(a_0, .inr (0, [.int i_8, .int i_9, .int i_10, .int i_11, .int i_12, .int i_13, .int i_14, .int i_15, .ref a_2, .ref a_3, .ref a_4, .ref a_5, .ref a_6, .ref a_7, .ref a_8, .ref a_9, .ref a_10, .ref a_11])), (a_2, .inl (cy 1, 9, .inl f_10)), (a_3, .inl (cy 1, 9, .inl f_11)), (a_5, .inl (cy 1, 210, .inl f_3)), (a_6, .inl (cy 1, 6, .inl f_4)), (a_7, .inl (cy 1, 48, .inl f_5)), (a_8, .inl (cy 1, 30, .inl f_6)), (a_9, .inl (cy 1, 30, .inl f_7)), (a_10, .inl (cy 1, 30, .inl f_8)), (a_11, .inl (cy 1, 30, .inl f_9)), (a_1, .inr (0, [.int i_8, .int i_9, .int i_10, .int i_11, .int i_12, .int i_13, .int i_14, .int i_15, .ref a_12, .ref a_13, .ref a_14, .ref a_15, .ref a_16, .ref a_17, .ref a_18, .ref a_19, .ref a_20, .ref a_21])), (a_12, .inl (cy 1, 9, .inl f_10)), (a_13, .inl (cy 1, 9, .inl f_11)), (a_15, .inl (cy 1, 210, .inl f_13)), (a_16, .inl (cy 1, 6, .inl f_14)), (a_17, .inl (cy 1, 48, .inl f_15)), (a_18, .inl (cy 1, 30, .inl f_16)), (a_19, .inl (cy 1, 30, .inl f_17)), (a_20, .inl (cy 1, 30, .inl f_18)), (a_21, .inl (cy 1, 30, .inl f_19))]) rfl (fun _ => rfl) (fun _ => rfl) ?_
  clear hP hD hS
  clear H locs
  intro _u H locs hw (hP : va_P G vwCl [(a_0, .inr (0, [.int i_8, .int i_9, .int i_10, .int i_11, .int i_12, .int i_13, .int i_14, .int i_15, .ref a_2, .ref a_3, .ref a_4, .ref a_5, .ref a_6, .ref a_7, .ref a_8, .ref a_9, .ref a_10, .ref a_11])), (a_2, .inl (cy 1, 9, .inl f_10)), (a_3, .inl (cy 1, 9, .inl f_11)), (a_4, .inl (cy 1, 3, .inl f_12)), (a_5, .inl (cy 1, 210, .inl f_3)), (a_6, .inl (cy 1, 6, .inl f_4)), (a_7, .inl (cy 1, 48, .inl f_5)), (a_8, .inl (cy 1, 30, .inl f_6)), (a_9, .inl (cy 1, 30, .inl f_7)), (a_10, .inl (cy 1, 30, .inl f_8)), (a_11, .inl (cy 1, 30, .inl f_9)), (a_1, .inr (0, [.int i_8, .int i_9, .int i_10, .int i_11, .int i_12, .int i_13, .int i_14, .int i_15, .ref a_12, .ref a_13, .ref a_14, .ref a_15, .ref a_16, .ref a_17, .ref a_18, .ref a_19, .ref a_20, .ref a_21])), (a_12, .inl (cy 1, 9, .inl f_10)), (a_13, .inl (cy 1, 9, .inl f_11)), (a_14, .inl (cy 1, 3, .inl f_12)), (a_15, .inl (cy 1, 210, .inl f_13)), (a_16, .inl (cy 1, 6, .inl f_14)), (a_17, .inl (cy 1, 48, .inl f_15)), (a_18, .inl (cy 1, 30, .inl f_16)), (a_19, .inl (cy 1, 30, .inl f_17)), (a_20, .inl (cy 1, 30, .inl f_18)), (a_21, .inl (cy 1, 30, .inl f_19))] H) (hD : va_D A [(a_0, .inr (0, [.int i_8, .int i_9, .int i_10, .int i_11, .int i_12, .int i_13, .int i_14, .int i_15, .ref a_2, .ref a_3, .ref a_4, .ref a_5, .ref a_6, .ref a_7, .ref a_8, .ref a_9, .ref a_10, .ref a_11])), (a_2, .inl (cy 1, 9, .inl f_10)), (a_3, .inl (cy 1, 9, .inl f_11)), (a_4, .inl (cy 1, 3, .inl f_12)), (a_5, .inl (cy 1, 210, .inl f_3)), (a_6, .inl (cy 1, 6, .inl f_4)), (a_7, .inl (cy 1, 48, .inl f_5)), (a_8, .inl (cy 1, 30, .inl f_6)), (a_9, .inl (cy 1, 30, .inl f_7)), (a_10, .inl (cy 1, 30, .inl f_8)), (a_11, .inl (cy 1, 30, .inl f_9)), (a_1, .inr (0, [.int i_8, .int i_9, .int i_10, .int i_11, .int i_12, .int i_13, .int i_14, .int i_15, .ref a_12, .ref a_13, .ref a_14, .ref a_15, .ref a_16, .ref a_17, .ref a_18, .ref a_19, .ref a_20, .ref a_21])), (a_12, .inl (cy 1, 9, .inl f_10)), (a_13, .inl (cy 1, 9, .inl f_11)), (a_14, .inl (cy 1, 3, .inl f_12)), (a_15, .inl (cy 1, 210, .inl f_13)), (a_16, .inl (cy 1, 6, .inl f_14)), (a_17, .inl (cy 1, 48, .inl f_15)), (a_18, .inl (cy 1, 30, .inl f_16)), (a_19, .inl (cy 1, 30, .inl f_17)), (a_20, .inl (cy 1, 30, .inl f_18)), (a_21, .inl (cy 1, 30, .inl f_19))]) hS
  refine lv_aload_n hx hb dX0_copyFrom_97 rfl (lv_at hl 1 rfl) ?_
  refine va_get (D := G) (ci := 0) (v := .ref a_15) (C := RX0) (T := TX0) (N := 18) hx hb hts (mm_i inlX0) hown hK.1 hP 11 rfl rfl 11 (by decide) (mm_h hts mm_w75) (fun _ h9 => h9) rfl dX0_copyFrom_98 ?_
  refine lv_aload_n hx hb dX0_copyFrom_101 rfl (lv_at hl 0 rfl) ?_
  refine va_get (D := G) (ci := 0) (v := .ref a_5) (C := RX0) (T := TX0) (N := 18) hx hb hts (mm_i inlX0) hown hK.1 hP 0 rfl rfl 11 (by decide) (mm_h hts mm_w75) (fun _ h9 => h9) rfl dX0_copyFrom_102 ?_
  refine mm_finv (va_runS (As := [.ref a_15, .ref a_5]) (rest := []) ⟨hx, hb, hml, hown, hts⟩ (K527_X0_copyRow l G cy H.size a_15 a_5 f_3 f_13 h10 h27) (va_cwS 2 hts (mm_gS mm_w381 mm_w382 mm_w28 mm_w383) rfl rfl rfl hs_X0_copyRow ⟨by rw [hRf]; exact Nat.le_of_ble_eq_true rfl, by rw [hRl]; exact Nat.le_of_ble_eq_true rfl⟩) (mm_preS hK hZ hS hA hP hD [4, 15] rfl rfl) rfl rfl hl.1 rfl (lv_room (Nat.le_of_ble_eq_true rfl)) dX0_copyFrom_105 ⟨by rw [hRc]; exact Nat.le_of_ble_eq_true rfl, by rw [hRs]; exact Nat.le_of_ble_eq_true rfl⟩) hP hD hS hA (fun u : Unit => [(a_0, .inr (0, [.int i_8, .int i_9, .int i_10, .int i_11, .int i_12, .int i_13, .int i_14, .int i_15, .ref a_2, .ref a_3, .ref a_4, .ref a_5, .ref a_6, .ref a_7, .ref a_8, .ref a_9, .ref a_10, .ref a_11])), (a_2, .inl (cy 1, 9, .inl f_10)), (a_3, .inl (cy 1, 9, .inl f_11)), (a_4, .inl (cy 1, 3, .inl f_12)), (a_5, .inl (cy 1, 210, .inl f_13)), (a_6, .inl (cy 1, 6, .inl f_4)), (a_7, .inl (cy 1, 48, .inl f_5)), (a_8, .inl (cy 1, 30, .inl f_6)), (a_9, .inl (cy 1, 30, .inl f_7)), (a_10, .inl (cy 1, 30, .inl f_8)), (a_11, .inl (cy 1, 30, .inl f_9)), (a_1, .inr (0, [.int i_8, .int i_9, .int i_10, .int i_11, .int i_12, .int i_13, .int i_14, .int i_15, .ref a_12, .ref a_13, .ref a_14, .ref a_15, .ref a_16, .ref a_17, .ref a_18, .ref a_19, .ref a_20, .ref a_21])), (a_12, .inl (cy 1, 9, .inl f_10)), (a_13, .inl (cy 1, 9, .inl f_11)), (a_14, .inl (cy 1, 3, .inl f_12)), (a_15, .inl (cy 1, 210, .inl f_13)), (a_16, .inl (cy 1, 6, .inl f_14)), (a_17, .inl (cy 1, 48, .inl f_15)), (a_18, .inl (cy 1, 30, .inl f_16)), (a_19, .inl (cy 1, 30, .inl f_17)), (a_20, .inl (cy 1, 30, .inl f_18)), (a_21, .inl (cy 1, 30, .inl f_19))]) [4, 15] [0, 1, 2, 3, 5, 6, 7, 8, 9, 10, 11, 12, 13, 14, 16, 17, 18, 19, 20, 21] (n := 22) (fun _ => rfl) (by decide +kernel) (by decide +kernel) rfl (fun _ => rfl) (wr := [(a_0, .inr (0, [.int i_8, .int i_9, .int i_10, .int i_11, .int i_12, .int i_13, .int i_14, .int i_15, .ref a_2, .ref a_3, .ref a_4, .ref a_5, .ref a_6, .ref a_7, .ref a_8, .ref a_9, .ref a_10, .ref a_11])), (a_2, .inl (cy 1, 9, .inl f_10)), (a_3, .inl (cy 1, 9, .inl f_11)), (a_4, .inl (cy 1, 3, .inl f_12)), (a_6, .inl (cy 1, 6, .inl f_4)), (a_7, .inl (cy 1, 48, .inl f_5)), (a_8, .inl (cy 1, 30, .inl f_6)), (a_9, .inl (cy 1, 30, .inl f_7)), (a_10, .inl (cy 1, 30, .inl f_8)), (a_11, .inl (cy 1, 30, .inl f_9)), (a_1, .inr (0, [.int i_8, .int i_9, .int i_10, .int i_11, .int i_12, .int i_13, .int i_14, .int i_15, .ref a_12, .ref a_13, .ref a_14, .ref a_15, .ref a_16, .ref a_17, .ref a_18, .ref a_19, .ref a_20, .ref a_21])), (a_12, .inl (cy 1, 9, .inl f_10)), (a_13, .inl (cy 1, 9, .inl f_11)), (a_14, .inl (cy 1, 3, .inl f_12)), (a_16, .inl (cy 1, 6, .inl f_14)), (a_17, .inl (cy 1, 48, .inl f_15)), (a_18, .inl (cy 1, 30, .inl f_16)), (a_19, .inl (cy 1, 30, .inl f_17)), (a_20, .inl (cy 1, 30, .inl f_18)), (a_21, .inl (cy 1, 30, .inl f_19))]) rfl (fun _ => rfl) (fun _ => rfl) ?_
  clear hP hD hS
  clear H locs
  intro _u H locs hw (hP : va_P G vwCl [(a_0, .inr (0, [.int i_8, .int i_9, .int i_10, .int i_11, .int i_12, .int i_13, .int i_14, .int i_15, .ref a_2, .ref a_3, .ref a_4, .ref a_5, .ref a_6, .ref a_7, .ref a_8, .ref a_9, .ref a_10, .ref a_11])), (a_2, .inl (cy 1, 9, .inl f_10)), (a_3, .inl (cy 1, 9, .inl f_11)), (a_4, .inl (cy 1, 3, .inl f_12)), (a_5, .inl (cy 1, 210, .inl f_13)), (a_6, .inl (cy 1, 6, .inl f_4)), (a_7, .inl (cy 1, 48, .inl f_5)), (a_8, .inl (cy 1, 30, .inl f_6)), (a_9, .inl (cy 1, 30, .inl f_7)), (a_10, .inl (cy 1, 30, .inl f_8)), (a_11, .inl (cy 1, 30, .inl f_9)), (a_1, .inr (0, [.int i_8, .int i_9, .int i_10, .int i_11, .int i_12, .int i_13, .int i_14, .int i_15, .ref a_12, .ref a_13, .ref a_14, .ref a_15, .ref a_16, .ref a_17, .ref a_18, .ref a_19, .ref a_20, .ref a_21])), (a_12, .inl (cy 1, 9, .inl f_10)), (a_13, .inl (cy 1, 9, .inl f_11)), (a_14, .inl (cy 1, 3, .inl f_12)), (a_15, .inl (cy 1, 210, .inl f_13)), (a_16, .inl (cy 1, 6, .inl f_14)), (a_17, .inl (cy 1, 48, .inl f_15)), (a_18, .inl (cy 1, 30, .inl f_16)), (a_19, .inl (cy 1, 30, .inl f_17)), (a_20, .inl (cy 1, 30, .inl f_18)), (a_21, .inl (cy 1, 30, .inl f_19))] H) (hD : va_D A [(a_0, .inr (0, [.int i_8, .int i_9, .int i_10, .int i_11, .int i_12, .int i_13, .int i_14, .int i_15, .ref a_2, .ref a_3, .ref a_4, .ref a_5, .ref a_6, .ref a_7, .ref a_8, .ref a_9, .ref a_10, .ref a_11])), (a_2, .inl (cy 1, 9, .inl f_10)), (a_3, .inl (cy 1, 9, .inl f_11)), (a_4, .inl (cy 1, 3, .inl f_12)), (a_5, .inl (cy 1, 210, .inl f_13)), (a_6, .inl (cy 1, 6, .inl f_4)), (a_7, .inl (cy 1, 48, .inl f_5)), (a_8, .inl (cy 1, 30, .inl f_6)), (a_9, .inl (cy 1, 30, .inl f_7)), (a_10, .inl (cy 1, 30, .inl f_8)), (a_11, .inl (cy 1, 30, .inl f_9)), (a_1, .inr (0, [.int i_8, .int i_9, .int i_10, .int i_11, .int i_12, .int i_13, .int i_14, .int i_15, .ref a_12, .ref a_13, .ref a_14, .ref a_15, .ref a_16, .ref a_17, .ref a_18, .ref a_19, .ref a_20, .ref a_21])), (a_12, .inl (cy 1, 9, .inl f_10)), (a_13, .inl (cy 1, 9, .inl f_11)), (a_14, .inl (cy 1, 3, .inl f_12)), (a_15, .inl (cy 1, 210, .inl f_13)), (a_16, .inl (cy 1, 6, .inl f_14)), (a_17, .inl (cy 1, 48, .inl f_15)), (a_18, .inl (cy 1, 30, .inl f_16)), (a_19, .inl (cy 1, 30, .inl f_17)), (a_20, .inl (cy 1, 30, .inl f_18)), (a_21, .inl (cy 1, 30, .inl f_19))]) hS
  refine lv_aload_n hx hb dX0_copyFrom_108 rfl (lv_at hl 1 rfl) ?_
  refine va_get (D := G) (ci := 0) (v := .ref a_16) (C := RX0) (T := TX0) (N := 18) hx hb hts (mm_i inlX0) hown hK.1 hP 11 rfl rfl 12 (by decide) (mm_h hts mm_w76) (fun _ h9 => h9) rfl dX0_copyFrom_109 ?_
  refine lv_aload_n hx hb dX0_copyFrom_112 rfl (lv_at hl 0 rfl) ?_
  refine va_get (D := G) (ci := 0) (v := .ref a_6) (C := RX0) (T := TX0) (N := 18) hx hb hts (mm_i inlX0) hown hK.1 hP 0 rfl rfl 12 (by decide) (mm_h hts mm_w76) (fun _ h9 => h9) rfl dX0_copyFrom_113 ?_
  refine mm_finv (va_runS (As := [.ref a_16, .ref a_6]) (rest := []) ⟨hx, hb, hml, hown, hts⟩ (K528_X0_copyRow l G cy H.size a_16 a_6 f_4 f_14 h11 h28) (va_cwS 2 hts (mm_gS mm_w381 mm_w382 mm_w28 mm_w383) rfl rfl rfl hs_X0_copyRow ⟨by rw [hRf]; exact Nat.le_of_ble_eq_true rfl, by rw [hRl]; exact Nat.le_of_ble_eq_true rfl⟩) (mm_preS hK hZ hS hA hP hD [5, 16] rfl rfl) rfl rfl hl.1 rfl (lv_room (Nat.le_of_ble_eq_true rfl)) dX0_copyFrom_116 ⟨by rw [hRc]; exact Nat.le_of_ble_eq_true rfl, by rw [hRs]; exact Nat.le_of_ble_eq_true rfl⟩) hP hD hS hA (fun u : Unit => [(a_0, .inr (0, [.int i_8, .int i_9, .int i_10, .int i_11, .int i_12, .int i_13, .int i_14, .int i_15, .ref a_2, .ref a_3, .ref a_4, .ref a_5, .ref a_6, .ref a_7, .ref a_8, .ref a_9, .ref a_10, .ref a_11])), (a_2, .inl (cy 1, 9, .inl f_10)), (a_3, .inl (cy 1, 9, .inl f_11)), (a_4, .inl (cy 1, 3, .inl f_12)), (a_5, .inl (cy 1, 210, .inl f_13)), (a_6, .inl (cy 1, 6, .inl f_14)), (a_7, .inl (cy 1, 48, .inl f_5)), (a_8, .inl (cy 1, 30, .inl f_6)), (a_9, .inl (cy 1, 30, .inl f_7)), (a_10, .inl (cy 1, 30, .inl f_8)), (a_11, .inl (cy 1, 30, .inl f_9)), (a_1, .inr (0, [.int i_8, .int i_9, .int i_10, .int i_11, .int i_12, .int i_13, .int i_14, .int i_15, .ref a_12, .ref a_13, .ref a_14, .ref a_15, .ref a_16, .ref a_17, .ref a_18, .ref a_19, .ref a_20, .ref a_21])), (a_12, .inl (cy 1, 9, .inl f_10)), (a_13, .inl (cy 1, 9, .inl f_11)), (a_14, .inl (cy 1, 3, .inl f_12)), (a_15, .inl (cy 1, 210, .inl f_13)), (a_16, .inl (cy 1, 6, .inl f_14)), (a_17, .inl (cy 1, 48, .inl f_15)), (a_18, .inl (cy 1, 30, .inl f_16)), (a_19, .inl (cy 1, 30, .inl f_17)), (a_20, .inl (cy 1, 30, .inl f_18)), (a_21, .inl (cy 1, 30, .inl f_19))]) [5, 16] [0, 1, 2, 3, 4, 6, 7, 8, 9, 10, 11, 12, 13, 14, 15, 17, 18, 19, 20, 21] (n := 22) (fun _ => rfl) (by decide +kernel) (by decide +kernel) rfl (fun _ => rfl) (wr := [(a_0, .inr (0, [.int i_8, .int i_9, .int i_10, .int i_11, .int i_12, .int i_13, .int i_14, .int i_15, .ref a_2, .ref a_3, .ref a_4, .ref a_5, .ref a_6, .ref a_7, .ref a_8, .ref a_9, .ref a_10, .ref a_11])), (a_2, .inl (cy 1, 9, .inl f_10)), (a_3, .inl (cy 1, 9, .inl f_11)), (a_4, .inl (cy 1, 3, .inl f_12)), (a_5, .inl (cy 1, 210, .inl f_13)), (a_7, .inl (cy 1, 48, .inl f_5)), (a_8, .inl (cy 1, 30, .inl f_6)), (a_9, .inl (cy 1, 30, .inl f_7)), (a_10, .inl (cy 1, 30, .inl f_8)), (a_11, .inl (cy 1, 30, .inl f_9)), (a_1, .inr (0, [.int i_8, .int i_9, .int i_10, .int i_11, .int i_12, .int i_13, .int i_14, .int i_15, .ref a_12, .ref a_13, .ref a_14, .ref a_15, .ref a_16, .ref a_17, .ref a_18, .ref a_19, .ref a_20, .ref a_21])), (a_12, .inl (cy 1, 9, .inl f_10)), (a_13, .inl (cy 1, 9, .inl f_11)), (a_14, .inl (cy 1, 3, .inl f_12)), (a_15, .inl (cy 1, 210, .inl f_13)), (a_17, .inl (cy 1, 48, .inl f_15)), (a_18, .inl (cy 1, 30, .inl f_16)), (a_19, .inl (cy 1, 30, .inl f_17)), (a_20, .inl (cy 1, 30, .inl f_18)), (a_21, .inl (cy 1, 30, .inl f_19))]) rfl (fun _ => rfl) (fun _ => rfl) ?_
  clear hP hD hS
  clear H locs
  intro _u H locs hw (hP : va_P G vwCl [(a_0, .inr (0, [.int i_8, .int i_9, .int i_10, .int i_11, .int i_12, .int i_13, .int i_14, .int i_15, .ref a_2, .ref a_3, .ref a_4, .ref a_5, .ref a_6, .ref a_7, .ref a_8, .ref a_9, .ref a_10, .ref a_11])), (a_2, .inl (cy 1, 9, .inl f_10)), (a_3, .inl (cy 1, 9, .inl f_11)), (a_4, .inl (cy 1, 3, .inl f_12)), (a_5, .inl (cy 1, 210, .inl f_13)), (a_6, .inl (cy 1, 6, .inl f_14)), (a_7, .inl (cy 1, 48, .inl f_5)), (a_8, .inl (cy 1, 30, .inl f_6)), (a_9, .inl (cy 1, 30, .inl f_7)), (a_10, .inl (cy 1, 30, .inl f_8)), (a_11, .inl (cy 1, 30, .inl f_9)), (a_1, .inr (0, [.int i_8, .int i_9, .int i_10, .int i_11, .int i_12, .int i_13, .int i_14, .int i_15, .ref a_12, .ref a_13, .ref a_14, .ref a_15, .ref a_16, .ref a_17, .ref a_18, .ref a_19, .ref a_20, .ref a_21])), (a_12, .inl (cy 1, 9, .inl f_10)), (a_13, .inl (cy 1, 9, .inl f_11)), (a_14, .inl (cy 1, 3, .inl f_12)), (a_15, .inl (cy 1, 210, .inl f_13)), (a_16, .inl (cy 1, 6, .inl f_14)), (a_17, .inl (cy 1, 48, .inl f_15)), (a_18, .inl (cy 1, 30, .inl f_16)), (a_19, .inl (cy 1, 30, .inl f_17)), (a_20, .inl (cy 1, 30, .inl f_18)), (a_21, .inl (cy 1, 30, .inl f_19))] H) (hD : va_D A [(a_0, .inr (0, [.int i_8, .int i_9, .int i_10, .int i_11, .int i_12, .int i_13, .int i_14, .int i_15, .ref a_2, .ref a_3, .ref a_4, .ref a_5, .ref a_6, .ref a_7, .ref a_8, .ref a_9, .ref a_10, .ref a_11])), (a_2, .inl (cy 1, 9, .inl f_10)), (a_3, .inl (cy 1, 9, .inl f_11)), (a_4, .inl (cy 1, 3, .inl f_12)), (a_5, .inl (cy 1, 210, .inl f_13)), (a_6, .inl (cy 1, 6, .inl f_14)), (a_7, .inl (cy 1, 48, .inl f_5)), (a_8, .inl (cy 1, 30, .inl f_6)), (a_9, .inl (cy 1, 30, .inl f_7)), (a_10, .inl (cy 1, 30, .inl f_8)), (a_11, .inl (cy 1, 30, .inl f_9)), (a_1, .inr (0, [.int i_8, .int i_9, .int i_10, .int i_11, .int i_12, .int i_13, .int i_14, .int i_15, .ref a_12, .ref a_13, .ref a_14, .ref a_15, .ref a_16, .ref a_17, .ref a_18, .ref a_19, .ref a_20, .ref a_21])), (a_12, .inl (cy 1, 9, .inl f_10)), (a_13, .inl (cy 1, 9, .inl f_11)), (a_14, .inl (cy 1, 3, .inl f_12)), (a_15, .inl (cy 1, 210, .inl f_13)), (a_16, .inl (cy 1, 6, .inl f_14)), (a_17, .inl (cy 1, 48, .inl f_15)), (a_18, .inl (cy 1, 30, .inl f_16)), (a_19, .inl (cy 1, 30, .inl f_17)), (a_20, .inl (cy 1, 30, .inl f_18)), (a_21, .inl (cy 1, 30, .inl f_19))]) hS
  refine lv_aload_n hx hb dX0_copyFrom_119 rfl (lv_at hl 1 rfl) ?_
  refine va_get (D := G) (ci := 0) (v := .ref a_17) (C := RX0) (T := TX0) (N := 18) hx hb hts (mm_i inlX0) hown hK.1 hP 11 rfl rfl 13 (by decide) (mm_h hts mm_w77) (fun _ h9 => h9) rfl dX0_copyFrom_120 ?_
  refine lv_aload_n hx hb dX0_copyFrom_123 rfl (lv_at hl 0 rfl) ?_
  refine va_get (D := G) (ci := 0) (v := .ref a_7) (C := RX0) (T := TX0) (N := 18) hx hb hts (mm_i inlX0) hown hK.1 hP 0 rfl rfl 13 (by decide) (mm_h hts mm_w77) (fun _ h9 => h9) rfl dX0_copyFrom_124 ?_
  refine mm_finv (va_runS (As := [.ref a_17, .ref a_7]) (rest := []) ⟨hx, hb, hml, hown, hts⟩ (K529_X0_copyRow l G cy H.size a_17 a_7 f_5 f_15 h12 h29) (va_cwS 2 hts (mm_gS mm_w381 mm_w382 mm_w28 mm_w383) rfl rfl rfl hs_X0_copyRow ⟨by rw [hRf]; exact Nat.le_of_ble_eq_true rfl, by rw [hRl]; exact Nat.le_of_ble_eq_true rfl⟩) (mm_preS hK hZ hS hA hP hD [6, 17] rfl rfl) rfl rfl hl.1 rfl (lv_room (Nat.le_of_ble_eq_true rfl)) dX0_copyFrom_127 ⟨by rw [hRc]; exact Nat.le_of_ble_eq_true rfl, by rw [hRs]; exact Nat.le_of_ble_eq_true rfl⟩) hP hD hS hA (fun u : Unit => [(a_0, .inr (0, [.int i_8, .int i_9, .int i_10, .int i_11, .int i_12, .int i_13, .int i_14, .int i_15, .ref a_2, .ref a_3, .ref a_4, .ref a_5, .ref a_6, .ref a_7, .ref a_8, .ref a_9, .ref a_10, .ref a_11])), (a_2, .inl (cy 1, 9, .inl f_10)), (a_3, .inl (cy 1, 9, .inl f_11)), (a_4, .inl (cy 1, 3, .inl f_12)), (a_5, .inl (cy 1, 210, .inl f_13)), (a_6, .inl (cy 1, 6, .inl f_14)), (a_7, .inl (cy 1, 48, .inl f_15)), (a_8, .inl (cy 1, 30, .inl f_6)), (a_9, .inl (cy 1, 30, .inl f_7)), (a_10, .inl (cy 1, 30, .inl f_8)), (a_11, .inl (cy 1, 30, .inl f_9)), (a_1, .inr (0, [.int i_8, .int i_9, .int i_10, .int i_11, .int i_12, .int i_13, .int i_14, .int i_15, .ref a_12, .ref a_13, .ref a_14, .ref a_15, .ref a_16, .ref a_17, .ref a_18, .ref a_19, .ref a_20, .ref a_21])), (a_12, .inl (cy 1, 9, .inl f_10)), (a_13, .inl (cy 1, 9, .inl f_11)), (a_14, .inl (cy 1, 3, .inl f_12)), (a_15, .inl (cy 1, 210, .inl f_13)), (a_16, .inl (cy 1, 6, .inl f_14)), (a_17, .inl (cy 1, 48, .inl f_15)), (a_18, .inl (cy 1, 30, .inl f_16)), (a_19, .inl (cy 1, 30, .inl f_17)), (a_20, .inl (cy 1, 30, .inl f_18)), (a_21, .inl (cy 1, 30, .inl f_19))]) [6, 17] [0, 1, 2, 3, 4, 5, 7, 8, 9, 10, 11, 12, 13, 14, 15, 16, 18, 19, 20, 21] (n := 22) (fun _ => rfl) (by decide +kernel) (by decide +kernel) rfl (fun _ => rfl) (wr := [(a_0, .inr (0, [.int i_8, .int i_9, .int i_10, .int i_11, .int i_12, .int i_13, .int i_14, .int i_15, .ref a_2, .ref a_3, .ref a_4, .ref a_5, .ref a_6, .ref a_7, .ref a_8, .ref a_9, .ref a_10, .ref a_11])), (a_2, .inl (cy 1, 9, .inl f_10)), (a_3, .inl (cy 1, 9, .inl f_11)), (a_4, .inl (cy 1, 3, .inl f_12)), (a_5, .inl (cy 1, 210, .inl f_13)), (a_6, .inl (cy 1, 6, .inl f_14)), (a_8, .inl (cy 1, 30, .inl f_6)), (a_9, .inl (cy 1, 30, .inl f_7)), (a_10, .inl (cy 1, 30, .inl f_8)), (a_11, .inl (cy 1, 30, .inl f_9)), (a_1, .inr (0, [.int i_8, .int i_9, .int i_10, .int i_11, .int i_12, .int i_13, .int i_14, .int i_15, .ref a_12, .ref a_13, .ref a_14, .ref a_15, .ref a_16, .ref a_17, .ref a_18, .ref a_19, .ref a_20, .ref a_21])), (a_12, .inl (cy 1, 9, .inl f_10)), (a_13, .inl (cy 1, 9, .inl f_11)), (a_14, .inl (cy 1, 3, .inl f_12)), (a_15, .inl (cy 1, 210, .inl f_13)), (a_16, .inl (cy 1, 6, .inl f_14)), (a_18, .inl (cy 1, 30, .inl f_16)), (a_19, .inl (cy 1, 30, .inl f_17)), (a_20, .inl (cy 1, 30, .inl f_18)), (a_21, .inl (cy 1, 30, .inl f_19))]) rfl (fun _ => rfl) (fun _ => rfl) ?_
  clear hP hD hS
  clear H locs
  intro _u H locs hw (hP : va_P G vwCl [(a_0, .inr (0, [.int i_8, .int i_9, .int i_10, .int i_11, .int i_12, .int i_13, .int i_14, .int i_15, .ref a_2, .ref a_3, .ref a_4, .ref a_5, .ref a_6, .ref a_7, .ref a_8, .ref a_9, .ref a_10, .ref a_11])), (a_2, .inl (cy 1, 9, .inl f_10)), (a_3, .inl (cy 1, 9, .inl f_11)), (a_4, .inl (cy 1, 3, .inl f_12)), (a_5, .inl (cy 1, 210, .inl f_13)), (a_6, .inl (cy 1, 6, .inl f_14)), (a_7, .inl (cy 1, 48, .inl f_15)), (a_8, .inl (cy 1, 30, .inl f_6)), (a_9, .inl (cy 1, 30, .inl f_7)), (a_10, .inl (cy 1, 30, .inl f_8)), (a_11, .inl (cy 1, 30, .inl f_9)), (a_1, .inr (0, [.int i_8, .int i_9, .int i_10, .int i_11, .int i_12, .int i_13, .int i_14, .int i_15, .ref a_12, .ref a_13, .ref a_14, .ref a_15, .ref a_16, .ref a_17, .ref a_18, .ref a_19, .ref a_20, .ref a_21])), (a_12, .inl (cy 1, 9, .inl f_10)), (a_13, .inl (cy 1, 9, .inl f_11)), (a_14, .inl (cy 1, 3, .inl f_12)), (a_15, .inl (cy 1, 210, .inl f_13)), (a_16, .inl (cy 1, 6, .inl f_14)), (a_17, .inl (cy 1, 48, .inl f_15)), (a_18, .inl (cy 1, 30, .inl f_16)), (a_19, .inl (cy 1, 30, .inl f_17)), (a_20, .inl (cy 1, 30, .inl f_18)), (a_21, .inl (cy 1, 30, .inl f_19))] H) (hD : va_D A [(a_0, .inr (0, [.int i_8, .int i_9, .int i_10, .int i_11, .int i_12, .int i_13, .int i_14, .int i_15, .ref a_2, .ref a_3, .ref a_4, .ref a_5, .ref a_6, .ref a_7, .ref a_8, .ref a_9, .ref a_10, .ref a_11])), (a_2, .inl (cy 1, 9, .inl f_10)), (a_3, .inl (cy 1, 9, .inl f_11)), (a_4, .inl (cy 1, 3, .inl f_12)), (a_5, .inl (cy 1, 210, .inl f_13)), (a_6, .inl (cy 1, 6, .inl f_14)), (a_7, .inl (cy 1, 48, .inl f_15)), (a_8, .inl (cy 1, 30, .inl f_6)), (a_9, .inl (cy 1, 30, .inl f_7)), (a_10, .inl (cy 1, 30, .inl f_8)), (a_11, .inl (cy 1, 30, .inl f_9)), (a_1, .inr (0, [.int i_8, .int i_9, .int i_10, .int i_11, .int i_12, .int i_13, .int i_14, .int i_15, .ref a_12, .ref a_13, .ref a_14, .ref a_15, .ref a_16, .ref a_17, .ref a_18, .ref a_19, .ref a_20, .ref a_21])), (a_12, .inl (cy 1, 9, .inl f_10)), (a_13, .inl (cy 1, 9, .inl f_11)), (a_14, .inl (cy 1, 3, .inl f_12)), (a_15, .inl (cy 1, 210, .inl f_13)), (a_16, .inl (cy 1, 6, .inl f_14)), (a_17, .inl (cy 1, 48, .inl f_15)), (a_18, .inl (cy 1, 30, .inl f_16)), (a_19, .inl (cy 1, 30, .inl f_17)), (a_20, .inl (cy 1, 30, .inl f_18)), (a_21, .inl (cy 1, 30, .inl f_19))]) hS
  refine lv_aload_n hx hb dX0_copyFrom_130 rfl (lv_at hl 1 rfl) ?_
  refine va_get (D := G) (ci := 0) (v := .ref a_18) (C := RX0) (T := TX0) (N := 18) hx hb hts (mm_i inlX0) hown hK.1 hP 11 rfl rfl 14 (by decide) (mm_h hts mm_w78) (fun _ h9 => h9) rfl dX0_copyFrom_131 ?_
  refine lv_aload_n hx hb dX0_copyFrom_134 rfl (lv_at hl 0 rfl) ?_
  refine va_get (D := G) (ci := 0) (v := .ref a_8) (C := RX0) (T := TX0) (N := 18) hx hb hts (mm_i inlX0) hown hK.1 hP 0 rfl rfl 14 (by decide) (mm_h hts mm_w78) (fun _ h9 => h9) rfl dX0_copyFrom_135 ?_
  refine mm_finv (va_runS (As := [.ref a_18, .ref a_8]) (rest := []) ⟨hx, hb, hml, hown, hts⟩ (K530_X0_copyRow l G cy H.size a_18 a_8 f_6 f_16 h13 h30) (va_cwS 2 hts (mm_gS mm_w381 mm_w382 mm_w28 mm_w383) rfl rfl rfl hs_X0_copyRow ⟨by rw [hRf]; exact Nat.le_of_ble_eq_true rfl, by rw [hRl]; exact Nat.le_of_ble_eq_true rfl⟩) (mm_preS hK hZ hS hA hP hD [7, 18] rfl rfl) rfl rfl hl.1 rfl (lv_room (Nat.le_of_ble_eq_true rfl)) dX0_copyFrom_138 ⟨by rw [hRc]; exact Nat.le_of_ble_eq_true rfl, by rw [hRs]; exact Nat.le_of_ble_eq_true rfl⟩) hP hD hS hA (fun u : Unit => [(a_0, .inr (0, [.int i_8, .int i_9, .int i_10, .int i_11, .int i_12, .int i_13, .int i_14, .int i_15, .ref a_2, .ref a_3, .ref a_4, .ref a_5, .ref a_6, .ref a_7, .ref a_8, .ref a_9, .ref a_10, .ref a_11])), (a_2, .inl (cy 1, 9, .inl f_10)), (a_3, .inl (cy 1, 9, .inl f_11)), (a_4, .inl (cy 1, 3, .inl f_12)), (a_5, .inl (cy 1, 210, .inl f_13)), (a_6, .inl (cy 1, 6, .inl f_14)), (a_7, .inl (cy 1, 48, .inl f_15)), (a_8, .inl (cy 1, 30, .inl f_16)), (a_9, .inl (cy 1, 30, .inl f_7)), (a_10, .inl (cy 1, 30, .inl f_8)), (a_11, .inl (cy 1, 30, .inl f_9)), (a_1, .inr (0, [.int i_8, .int i_9, .int i_10, .int i_11, .int i_12, .int i_13, .int i_14, .int i_15, .ref a_12, .ref a_13, .ref a_14, .ref a_15, .ref a_16, .ref a_17, .ref a_18, .ref a_19, .ref a_20, .ref a_21])), (a_12, .inl (cy 1, 9, .inl f_10)), (a_13, .inl (cy 1, 9, .inl f_11)), (a_14, .inl (cy 1, 3, .inl f_12)), (a_15, .inl (cy 1, 210, .inl f_13)), (a_16, .inl (cy 1, 6, .inl f_14)), (a_17, .inl (cy 1, 48, .inl f_15)), (a_18, .inl (cy 1, 30, .inl f_16)), (a_19, .inl (cy 1, 30, .inl f_17)), (a_20, .inl (cy 1, 30, .inl f_18)), (a_21, .inl (cy 1, 30, .inl f_19))]) [7, 18] [0, 1, 2, 3, 4, 5, 6, 8, 9, 10, 11, 12, 13, 14, 15, 16, 17, 19, 20, 21] (n := 22) (fun _ => rfl) (by decide +kernel) (by decide +kernel) rfl (fun _ => rfl) (wr := [(a_0, .inr (0, [.int i_8, .int i_9, .int i_10, .int i_11, .int i_12, .int i_13, .int i_14, .int i_15, .ref a_2, .ref a_3, .ref a_4, .ref a_5, .ref a_6, .ref a_7, .ref a_8, .ref a_9, .ref a_10, .ref a_11])), (a_2, .inl (cy 1, 9, .inl f_10)), (a_3, .inl (cy 1, 9, .inl f_11)), (a_4, .inl (cy 1, 3, .inl f_12)), (a_5, .inl (cy 1, 210, .inl f_13)), (a_6, .inl (cy 1, 6, .inl f_14)), (a_7, .inl (cy 1, 48, .inl f_15)), (a_9, .inl (cy 1, 30, .inl f_7)), (a_10, .inl (cy 1, 30, .inl f_8)), (a_11, .inl (cy 1, 30, .inl f_9)), (a_1, .inr (0, [.int i_8, .int i_9, .int i_10, .int i_11, .int i_12, .int i_13, .int i_14, .int i_15, .ref a_12, .ref a_13, .ref a_14, .ref a_15, .ref a_16, .ref a_17, .ref a_18, .ref a_19, .ref a_20, .ref a_21])), (a_12, .inl (cy 1, 9, .inl f_10)), (a_13, .inl (cy 1, 9, .inl f_11)), (a_14, .inl (cy 1, 3, .inl f_12)), (a_15, .inl (cy 1, 210, .inl f_13)), (a_16, .inl (cy 1, 6, .inl f_14)), (a_17, .inl (cy 1, 48, .inl f_15)), (a_19, .inl (cy 1, 30, .inl f_17)), (a_20, .inl (cy 1, 30, .inl f_18)), (a_21, .inl (cy 1, 30, .inl f_19))]) rfl (fun _ => rfl) (fun _ => rfl) ?_
  clear hP hD hS
  clear H locs
  intro _u H locs hw (hP : va_P G vwCl [(a_0, .inr (0, [.int i_8, .int i_9, .int i_10, .int i_11, .int i_12, .int i_13, .int i_14, .int i_15, .ref a_2, .ref a_3, .ref a_4, .ref a_5, .ref a_6, .ref a_7, .ref a_8, .ref a_9, .ref a_10, .ref a_11])), (a_2, .inl (cy 1, 9, .inl f_10)), (a_3, .inl (cy 1, 9, .inl f_11)), (a_4, .inl (cy 1, 3, .inl f_12)), (a_5, .inl (cy 1, 210, .inl f_13)), (a_6, .inl (cy 1, 6, .inl f_14)), (a_7, .inl (cy 1, 48, .inl f_15)), (a_8, .inl (cy 1, 30, .inl f_16)), (a_9, .inl (cy 1, 30, .inl f_7)), (a_10, .inl (cy 1, 30, .inl f_8)), (a_11, .inl (cy 1, 30, .inl f_9)), (a_1, .inr (0, [.int i_8, .int i_9, .int i_10, .int i_11, .int i_12, .int i_13, .int i_14, .int i_15, .ref a_12, .ref a_13, .ref a_14, .ref a_15, .ref a_16, .ref a_17, .ref a_18, .ref a_19, .ref a_20, .ref a_21])), (a_12, .inl (cy 1, 9, .inl f_10)), (a_13, .inl (cy 1, 9, .inl f_11)), (a_14, .inl (cy 1, 3, .inl f_12)), (a_15, .inl (cy 1, 210, .inl f_13)), (a_16, .inl (cy 1, 6, .inl f_14)), (a_17, .inl (cy 1, 48, .inl f_15)), (a_18, .inl (cy 1, 30, .inl f_16)), (a_19, .inl (cy 1, 30, .inl f_17)), (a_20, .inl (cy 1, 30, .inl f_18)), (a_21, .inl (cy 1, 30, .inl f_19))] H) (hD : va_D A [(a_0, .inr (0, [.int i_8, .int i_9, .int i_10, .int i_11, .int i_12, .int i_13, .int i_14, .int i_15, .ref a_2, .ref a_3, .ref a_4, .ref a_5, .ref a_6, .ref a_7, .ref a_8, .ref a_9, .ref a_10, .ref a_11])), (a_2, .inl (cy 1, 9, .inl f_10)), (a_3, .inl (cy 1, 9, .inl f_11)), (a_4, .inl (cy 1, 3, .inl f_12)), (a_5, .inl (cy 1, 210, .inl f_13)), (a_6, .inl (cy 1, 6, .inl f_14)), (a_7, .inl (cy 1, 48, .inl f_15)), (a_8, .inl (cy 1, 30, .inl f_16)), (a_9, .inl (cy 1, 30, .inl f_7)), (a_10, .inl (cy 1, 30, .inl f_8)), (a_11, .inl (cy 1, 30, .inl f_9)), (a_1, .inr (0, [.int i_8, .int i_9, .int i_10, .int i_11, .int i_12, .int i_13, .int i_14, .int i_15, .ref a_12, .ref a_13, .ref a_14, .ref a_15, .ref a_16, .ref a_17, .ref a_18, .ref a_19, .ref a_20, .ref a_21])), (a_12, .inl (cy 1, 9, .inl f_10)), (a_13, .inl (cy 1, 9, .inl f_11)), (a_14, .inl (cy 1, 3, .inl f_12)), (a_15, .inl (cy 1, 210, .inl f_13)), (a_16, .inl (cy 1, 6, .inl f_14)), (a_17, .inl (cy 1, 48, .inl f_15)), (a_18, .inl (cy 1, 30, .inl f_16)), (a_19, .inl (cy 1, 30, .inl f_17)), (a_20, .inl (cy 1, 30, .inl f_18)), (a_21, .inl (cy 1, 30, .inl f_19))]) hS
  refine lv_aload_n hx hb dX0_copyFrom_141 rfl (lv_at hl 1 rfl) ?_
  refine va_get (D := G) (ci := 0) (v := .ref a_19) (C := RX0) (T := TX0) (N := 18) hx hb hts (mm_i inlX0) hown hK.1 hP 11 rfl rfl 15 (by decide) (mm_h hts mm_w79) (fun _ h9 => h9) rfl dX0_copyFrom_142 ?_
  refine lv_aload_n hx hb dX0_copyFrom_145 rfl (lv_at hl 0 rfl) ?_
  refine va_get (D := G) (ci := 0) (v := .ref a_9) (C := RX0) (T := TX0) (N := 18) hx hb hts (mm_i inlX0) hown hK.1 hP 0 rfl rfl 15 (by decide) (mm_h hts mm_w79) (fun _ h9 => h9) rfl dX0_copyFrom_146 ?_
  refine mm_finv (va_runS (As := [.ref a_19, .ref a_9]) (rest := []) ⟨hx, hb, hml, hown, hts⟩ (K531_X0_copyRow l G cy H.size a_19 a_9 f_7 f_17 h14 h31) (va_cwS 2 hts (mm_gS mm_w381 mm_w382 mm_w28 mm_w383) rfl rfl rfl hs_X0_copyRow ⟨by rw [hRf]; exact Nat.le_of_ble_eq_true rfl, by rw [hRl]; exact Nat.le_of_ble_eq_true rfl⟩) (mm_preS hK hZ hS hA hP hD [8, 19] rfl rfl) rfl rfl hl.1 rfl (lv_room (Nat.le_of_ble_eq_true rfl)) dX0_copyFrom_149 ⟨by rw [hRc]; exact Nat.le_of_ble_eq_true rfl, by rw [hRs]; exact Nat.le_of_ble_eq_true rfl⟩) hP hD hS hA (fun u : Unit => [(a_0, .inr (0, [.int i_8, .int i_9, .int i_10, .int i_11, .int i_12, .int i_13, .int i_14, .int i_15, .ref a_2, .ref a_3, .ref a_4, .ref a_5, .ref a_6, .ref a_7, .ref a_8, .ref a_9, .ref a_10, .ref a_11])), (a_2, .inl (cy 1, 9, .inl f_10)), (a_3, .inl (cy 1, 9, .inl f_11)), (a_4, .inl (cy 1, 3, .inl f_12)), (a_5, .inl (cy 1, 210, .inl f_13)), (a_6, .inl (cy 1, 6, .inl f_14)), (a_7, .inl (cy 1, 48, .inl f_15)), (a_8, .inl (cy 1, 30, .inl f_16)), (a_9, .inl (cy 1, 30, .inl f_17)), (a_10, .inl (cy 1, 30, .inl f_8)), (a_11, .inl (cy 1, 30, .inl f_9)), (a_1, .inr (0, [.int i_8, .int i_9, .int i_10, .int i_11, .int i_12, .int i_13, .int i_14, .int i_15, .ref a_12, .ref a_13, .ref a_14, .ref a_15, .ref a_16, .ref a_17, .ref a_18, .ref a_19, .ref a_20, .ref a_21])), (a_12, .inl (cy 1, 9, .inl f_10)), (a_13, .inl (cy 1, 9, .inl f_11)), (a_14, .inl (cy 1, 3, .inl f_12)), (a_15, .inl (cy 1, 210, .inl f_13)), (a_16, .inl (cy 1, 6, .inl f_14)), (a_17, .inl (cy 1, 48, .inl f_15)), (a_18, .inl (cy 1, 30, .inl f_16)), (a_19, .inl (cy 1, 30, .inl f_17)), (a_20, .inl (cy 1, 30, .inl f_18)), (a_21, .inl (cy 1, 30, .inl f_19))]) [8, 19] [0, 1, 2, 3, 4, 5, 6, 7, 9, 10, 11, 12, 13, 14, 15, 16, 17, 18, 20, 21] (n := 22) (fun _ => rfl) (by decide +kernel) (by decide +kernel) rfl (fun _ => rfl) (wr := [(a_0, .inr (0, [.int i_8, .int i_9, .int i_10, .int i_11, .int i_12, .int i_13, .int i_14, .int i_15, .ref a_2, .ref a_3, .ref a_4, .ref a_5, .ref a_6, .ref a_7, .ref a_8, .ref a_9, .ref a_10, .ref a_11])), (a_2, .inl (cy 1, 9, .inl f_10)), (a_3, .inl (cy 1, 9, .inl f_11)), (a_4, .inl (cy 1, 3, .inl f_12)), (a_5, .inl (cy 1, 210, .inl f_13)), (a_6, .inl (cy 1, 6, .inl f_14)), (a_7, .inl (cy 1, 48, .inl f_15)), (a_8, .inl (cy 1, 30, .inl f_16)), (a_10, .inl (cy 1, 30, .inl f_8)), (a_11, .inl (cy 1, 30, .inl f_9)), (a_1, .inr (0, [.int i_8, .int i_9, .int i_10, .int i_11, .int i_12, .int i_13, .int i_14, .int i_15, .ref a_12, .ref a_13, .ref a_14, .ref a_15, .ref a_16, .ref a_17, .ref a_18, .ref a_19, .ref a_20, .ref a_21])), (a_12, .inl (cy 1, 9, .inl f_10)), (a_13, .inl (cy 1, 9, .inl f_11)), (a_14, .inl (cy 1, 3, .inl f_12)), (a_15, .inl (cy 1, 210, .inl f_13)), (a_16, .inl (cy 1, 6, .inl f_14)), (a_17, .inl (cy 1, 48, .inl f_15)), (a_18, .inl (cy 1, 30, .inl f_16)), (a_20, .inl (cy 1, 30, .inl f_18)), (a_21, .inl (cy 1, 30, .inl f_19))]) rfl (fun _ => rfl) (fun _ => rfl) ?_
  clear hP hD hS
  clear H locs
  intro _u H locs hw (hP : va_P G vwCl [(a_0, .inr (0, [.int i_8, .int i_9, .int i_10, .int i_11, .int i_12, .int i_13, .int i_14, .int i_15, .ref a_2, .ref a_3, .ref a_4, .ref a_5, .ref a_6, .ref a_7, .ref a_8, .ref a_9, .ref a_10, .ref a_11])), (a_2, .inl (cy 1, 9, .inl f_10)), (a_3, .inl (cy 1, 9, .inl f_11)), (a_4, .inl (cy 1, 3, .inl f_12)), (a_5, .inl (cy 1, 210, .inl f_13)), (a_6, .inl (cy 1, 6, .inl f_14)), (a_7, .inl (cy 1, 48, .inl f_15)), (a_8, .inl (cy 1, 30, .inl f_16)), (a_9, .inl (cy 1, 30, .inl f_17)), (a_10, .inl (cy 1, 30, .inl f_8)), (a_11, .inl (cy 1, 30, .inl f_9)), (a_1, .inr (0, [.int i_8, .int i_9, .int i_10, .int i_11, .int i_12, .int i_13, .int i_14, .int i_15, .ref a_12, .ref a_13, .ref a_14, .ref a_15, .ref a_16, .ref a_17, .ref a_18, .ref a_19, .ref a_20, .ref a_21])), (a_12, .inl (cy 1, 9, .inl f_10)), (a_13, .inl (cy 1, 9, .inl f_11)), (a_14, .inl (cy 1, 3, .inl f_12)), (a_15, .inl (cy 1, 210, .inl f_13)), (a_16, .inl (cy 1, 6, .inl f_14)), (a_17, .inl (cy 1, 48, .inl f_15)), (a_18, .inl (cy 1, 30, .inl f_16)), (a_19, .inl (cy 1, 30, .inl f_17)), (a_20, .inl (cy 1, 30, .inl f_18)), (a_21, .inl (cy 1, 30, .inl f_19))] H) (hD : va_D A [(a_0, .inr (0, [.int i_8, .int i_9, .int i_10, .int i_11, .int i_12, .int i_13, .int i_14, .int i_15, .ref a_2, .ref a_3, .ref a_4, .ref a_5, .ref a_6, .ref a_7, .ref a_8, .ref a_9, .ref a_10, .ref a_11])), (a_2, .inl (cy 1, 9, .inl f_10)), (a_3, .inl (cy 1, 9, .inl f_11)), (a_4, .inl (cy 1, 3, .inl f_12)), (a_5, .inl (cy 1, 210, .inl f_13)), (a_6, .inl (cy 1, 6, .inl f_14)), (a_7, .inl (cy 1, 48, .inl f_15)), (a_8, .inl (cy 1, 30, .inl f_16)), (a_9, .inl (cy 1, 30, .inl f_17)), (a_10, .inl (cy 1, 30, .inl f_8)), (a_11, .inl (cy 1, 30, .inl f_9)), (a_1, .inr (0, [.int i_8, .int i_9, .int i_10, .int i_11, .int i_12, .int i_13, .int i_14, .int i_15, .ref a_12, .ref a_13, .ref a_14, .ref a_15, .ref a_16, .ref a_17, .ref a_18, .ref a_19, .ref a_20, .ref a_21])), (a_12, .inl (cy 1, 9, .inl f_10)), (a_13, .inl (cy 1, 9, .inl f_11)), (a_14, .inl (cy 1, 3, .inl f_12)), (a_15, .inl (cy 1, 210, .inl f_13)), (a_16, .inl (cy 1, 6, .inl f_14)), (a_17, .inl (cy 1, 48, .inl f_15)), (a_18, .inl (cy 1, 30, .inl f_16)), (a_19, .inl (cy 1, 30, .inl f_17)), (a_20, .inl (cy 1, 30, .inl f_18)), (a_21, .inl (cy 1, 30, .inl f_19))]) hS
  refine lv_aload_n hx hb dX0_copyFrom_152 rfl (lv_at hl 1 rfl) ?_
  refine va_get (D := G) (ci := 0) (v := .ref a_20) (C := RX0) (T := TX0) (N := 18) hx hb hts (mm_i inlX0) hown hK.1 hP 11 rfl rfl 16 (by decide) (mm_h hts mm_w80) (fun _ h9 => h9) rfl dX0_copyFrom_153 ?_
  refine lv_aload_n hx hb dX0_copyFrom_156 rfl (lv_at hl 0 rfl) ?_
  refine va_get (D := G) (ci := 0) (v := .ref a_10) (C := RX0) (T := TX0) (N := 18) hx hb hts (mm_i inlX0) hown hK.1 hP 0 rfl rfl 16 (by decide) (mm_h hts mm_w80) (fun _ h9 => h9) rfl dX0_copyFrom_157 ?_
  refine mm_finv (va_runS (As := [.ref a_20, .ref a_10]) (rest := []) ⟨hx, hb, hml, hown, hts⟩ (K532_X0_copyRow l G cy H.size a_20 a_10 f_8 f_18 h15 h32) (va_cwS 2 hts (mm_gS mm_w381 mm_w382 mm_w28 mm_w383) rfl rfl rfl hs_X0_copyRow ⟨by rw [hRf]; exact Nat.le_of_ble_eq_true rfl, by rw [hRl]; exact Nat.le_of_ble_eq_true rfl⟩) (mm_preS hK hZ hS hA hP hD [9, 20] rfl rfl) rfl rfl hl.1 rfl (lv_room (Nat.le_of_ble_eq_true rfl)) dX0_copyFrom_160 ⟨by rw [hRc]; exact Nat.le_of_ble_eq_true rfl, by rw [hRs]; exact Nat.le_of_ble_eq_true rfl⟩) hP hD hS hA (fun u : Unit => [(a_0, .inr (0, [.int i_8, .int i_9, .int i_10, .int i_11, .int i_12, .int i_13, .int i_14, .int i_15, .ref a_2, .ref a_3, .ref a_4, .ref a_5, .ref a_6, .ref a_7, .ref a_8, .ref a_9, .ref a_10, .ref a_11])), (a_2, .inl (cy 1, 9, .inl f_10)), (a_3, .inl (cy 1, 9, .inl f_11)), (a_4, .inl (cy 1, 3, .inl f_12)), (a_5, .inl (cy 1, 210, .inl f_13)), (a_6, .inl (cy 1, 6, .inl f_14)), (a_7, .inl (cy 1, 48, .inl f_15)), (a_8, .inl (cy 1, 30, .inl f_16)), (a_9, .inl (cy 1, 30, .inl f_17)), (a_10, .inl (cy 1, 30, .inl f_18)), (a_11, .inl (cy 1, 30, .inl f_9)), (a_1, .inr (0, [.int i_8, .int i_9, .int i_10, .int i_11, .int i_12, .int i_13, .int i_14, .int i_15, .ref a_12, .ref a_13, .ref a_14, .ref a_15, .ref a_16, .ref a_17, .ref a_18, .ref a_19, .ref a_20, .ref a_21])), (a_12, .inl (cy 1, 9, .inl f_10)), (a_13, .inl (cy 1, 9, .inl f_11)), (a_14, .inl (cy 1, 3, .inl f_12)), (a_15, .inl (cy 1, 210, .inl f_13)), (a_16, .inl (cy 1, 6, .inl f_14)), (a_17, .inl (cy 1, 48, .inl f_15)), (a_18, .inl (cy 1, 30, .inl f_16)), (a_19, .inl (cy 1, 30, .inl f_17)), (a_20, .inl (cy 1, 30, .inl f_18)), (a_21, .inl (cy 1, 30, .inl f_19))]) [9, 20] [0, 1, 2, 3, 4, 5, 6, 7, 8, 10, 11, 12, 13, 14, 15, 16, 17, 18, 19, 21] (n := 22) (fun _ => rfl) (by decide +kernel) (by decide +kernel) rfl (fun _ => rfl) (wr := [(a_0, .inr (0, [.int i_8, .int i_9, .int i_10, .int i_11, .int i_12, .int i_13, .int i_14, .int i_15, .ref a_2, .ref a_3, .ref a_4, .ref a_5, .ref a_6, .ref a_7, .ref a_8, .ref a_9, .ref a_10, .ref a_11])), (a_2, .inl (cy 1, 9, .inl f_10)), (a_3, .inl (cy 1, 9, .inl f_11)), (a_4, .inl (cy 1, 3, .inl f_12)), (a_5, .inl (cy 1, 210, .inl f_13)), (a_6, .inl (cy 1, 6, .inl f_14)), (a_7, .inl (cy 1, 48, .inl f_15)), (a_8, .inl (cy 1, 30, .inl f_16)), (a_9, .inl (cy 1, 30, .inl f_17)), (a_11, .inl (cy 1, 30, .inl f_9)), (a_1, .inr (0, [.int i_8, .int i_9, .int i_10, .int i_11, .int i_12, .int i_13, .int i_14, .int i_15, .ref a_12, .ref a_13, .ref a_14, .ref a_15, .ref a_16, .ref a_17, .ref a_18, .ref a_19, .ref a_20, .ref a_21])), (a_12, .inl (cy 1, 9, .inl f_10)), (a_13, .inl (cy 1, 9, .inl f_11)), (a_14, .inl (cy 1, 3, .inl f_12)), (a_15, .inl (cy 1, 210, .inl f_13)), (a_16, .inl (cy 1, 6, .inl f_14)), (a_17, .inl (cy 1, 48, .inl f_15)), (a_18, .inl (cy 1, 30, .inl f_16)), (a_19, .inl (cy 1, 30, .inl f_17)), (a_21, .inl (cy 1, 30, .inl f_19))]) rfl (fun _ => rfl) (fun _ => rfl) ?_
  clear hP hD hS
  clear H locs
  intro _u H locs hw (hP : va_P G vwCl [(a_0, .inr (0, [.int i_8, .int i_9, .int i_10, .int i_11, .int i_12, .int i_13, .int i_14, .int i_15, .ref a_2, .ref a_3, .ref a_4, .ref a_5, .ref a_6, .ref a_7, .ref a_8, .ref a_9, .ref a_10, .ref a_11])), (a_2, .inl (cy 1, 9, .inl f_10)), (a_3, .inl (cy 1, 9, .inl f_11)), (a_4, .inl (cy 1, 3, .inl f_12)), (a_5, .inl (cy 1, 210, .inl f_13)), (a_6, .inl (cy 1, 6, .inl f_14)), (a_7, .inl (cy 1, 48, .inl f_15)), (a_8, .inl (cy 1, 30, .inl f_16)), (a_9, .inl (cy 1, 30, .inl f_17)), (a_10, .inl (cy 1, 30, .inl f_18)), (a_11, .inl (cy 1, 30, .inl f_9)), (a_1, .inr (0, [.int i_8, .int i_9, .int i_10, .int i_11, .int i_12, .int i_13, .int i_14, .int i_15, .ref a_12, .ref a_13, .ref a_14, .ref a_15, .ref a_16, .ref a_17, .ref a_18, .ref a_19, .ref a_20, .ref a_21])), (a_12, .inl (cy 1, 9, .inl f_10)), (a_13, .inl (cy 1, 9, .inl f_11)), (a_14, .inl (cy 1, 3, .inl f_12)), (a_15, .inl (cy 1, 210, .inl f_13)), (a_16, .inl (cy 1, 6, .inl f_14)), (a_17, .inl (cy 1, 48, .inl f_15)), (a_18, .inl (cy 1, 30, .inl f_16)), (a_19, .inl (cy 1, 30, .inl f_17)), (a_20, .inl (cy 1, 30, .inl f_18)), (a_21, .inl (cy 1, 30, .inl f_19))] H) (hD : va_D A [(a_0, .inr (0, [.int i_8, .int i_9, .int i_10, .int i_11, .int i_12, .int i_13, .int i_14, .int i_15, .ref a_2, .ref a_3, .ref a_4, .ref a_5, .ref a_6, .ref a_7, .ref a_8, .ref a_9, .ref a_10, .ref a_11])), (a_2, .inl (cy 1, 9, .inl f_10)), (a_3, .inl (cy 1, 9, .inl f_11)), (a_4, .inl (cy 1, 3, .inl f_12)), (a_5, .inl (cy 1, 210, .inl f_13)), (a_6, .inl (cy 1, 6, .inl f_14)), (a_7, .inl (cy 1, 48, .inl f_15)), (a_8, .inl (cy 1, 30, .inl f_16)), (a_9, .inl (cy 1, 30, .inl f_17)), (a_10, .inl (cy 1, 30, .inl f_18)), (a_11, .inl (cy 1, 30, .inl f_9)), (a_1, .inr (0, [.int i_8, .int i_9, .int i_10, .int i_11, .int i_12, .int i_13, .int i_14, .int i_15, .ref a_12, .ref a_13, .ref a_14, .ref a_15, .ref a_16, .ref a_17, .ref a_18, .ref a_19, .ref a_20, .ref a_21])), (a_12, .inl (cy 1, 9, .inl f_10)), (a_13, .inl (cy 1, 9, .inl f_11)), (a_14, .inl (cy 1, 3, .inl f_12)), (a_15, .inl (cy 1, 210, .inl f_13)), (a_16, .inl (cy 1, 6, .inl f_14)), (a_17, .inl (cy 1, 48, .inl f_15)), (a_18, .inl (cy 1, 30, .inl f_16)), (a_19, .inl (cy 1, 30, .inl f_17)), (a_20, .inl (cy 1, 30, .inl f_18)), (a_21, .inl (cy 1, 30, .inl f_19))]) hS
  refine lv_aload_n hx hb dX0_copyFrom_163 rfl (lv_at hl 1 rfl) ?_
  refine va_get (D := G) (ci := 0) (v := .ref a_21) (C := RX0) (T := TX0) (N := 18) hx hb hts (mm_i inlX0) hown hK.1 hP 11 rfl rfl 17 (by decide) (mm_h hts mm_w81) (fun _ h9 => h9) rfl dX0_copyFrom_164 ?_
  refine lv_aload_n hx hb dX0_copyFrom_167 rfl (lv_at hl 0 rfl) ?_
  refine va_get (D := G) (ci := 0) (v := .ref a_11) (C := RX0) (T := TX0) (N := 18) hx hb hts (mm_i inlX0) hown hK.1 hP 0 rfl rfl 17 (by decide) (mm_h hts mm_w81) (fun _ h9 => h9) rfl dX0_copyFrom_168 ?_
  refine mm_finv (va_runS (As := [.ref a_21, .ref a_11]) (rest := []) ⟨hx, hb, hml, hown, hts⟩ (K530_X0_copyRow l G cy H.size a_21 a_11 f_9 f_19 h16 h33) (va_cwS 2 hts (mm_gS mm_w381 mm_w382 mm_w28 mm_w383) rfl rfl rfl hs_X0_copyRow ⟨by rw [hRf]; exact Nat.le_of_ble_eq_true rfl, by rw [hRl]; exact Nat.le_of_ble_eq_true rfl⟩) (mm_preS hK hZ hS hA hP hD [10, 21] rfl rfl) rfl rfl hl.1 rfl (lv_room (Nat.le_of_ble_eq_true rfl)) dX0_copyFrom_171 ⟨by rw [hRc]; exact Nat.le_of_ble_eq_true rfl, by rw [hRs]; exact Nat.le_of_ble_eq_true rfl⟩) hP hD hS hA (fun u : Unit => [(a_0, .inr (0, [.int i_8, .int i_9, .int i_10, .int i_11, .int i_12, .int i_13, .int i_14, .int i_15, .ref a_2, .ref a_3, .ref a_4, .ref a_5, .ref a_6, .ref a_7, .ref a_8, .ref a_9, .ref a_10, .ref a_11])), (a_2, .inl (cy 1, 9, .inl f_10)), (a_3, .inl (cy 1, 9, .inl f_11)), (a_4, .inl (cy 1, 3, .inl f_12)), (a_5, .inl (cy 1, 210, .inl f_13)), (a_6, .inl (cy 1, 6, .inl f_14)), (a_7, .inl (cy 1, 48, .inl f_15)), (a_8, .inl (cy 1, 30, .inl f_16)), (a_9, .inl (cy 1, 30, .inl f_17)), (a_10, .inl (cy 1, 30, .inl f_18)), (a_11, .inl (cy 1, 30, .inl f_19)), (a_1, .inr (0, [.int i_8, .int i_9, .int i_10, .int i_11, .int i_12, .int i_13, .int i_14, .int i_15, .ref a_12, .ref a_13, .ref a_14, .ref a_15, .ref a_16, .ref a_17, .ref a_18, .ref a_19, .ref a_20, .ref a_21])), (a_12, .inl (cy 1, 9, .inl f_10)), (a_13, .inl (cy 1, 9, .inl f_11)), (a_14, .inl (cy 1, 3, .inl f_12)), (a_15, .inl (cy 1, 210, .inl f_13)), (a_16, .inl (cy 1, 6, .inl f_14)), (a_17, .inl (cy 1, 48, .inl f_15)), (a_18, .inl (cy 1, 30, .inl f_16)), (a_19, .inl (cy 1, 30, .inl f_17)), (a_20, .inl (cy 1, 30, .inl f_18)), (a_21, .inl (cy 1, 30, .inl f_19))]) [10, 21] [0, 1, 2, 3, 4, 5, 6, 7, 8, 9, 11, 12, 13, 14, 15, 16, 17, 18, 19, 20] (n := 22) (fun _ => rfl) (by decide +kernel) (by decide +kernel) rfl (fun _ => rfl) (wr := [(a_0, .inr (0, [.int i_8, .int i_9, .int i_10, .int i_11, .int i_12, .int i_13, .int i_14, .int i_15, .ref a_2, .ref a_3, .ref a_4, .ref a_5, .ref a_6, .ref a_7, .ref a_8, .ref a_9, .ref a_10, .ref a_11])), (a_2, .inl (cy 1, 9, .inl f_10)), (a_3, .inl (cy 1, 9, .inl f_11)), (a_4, .inl (cy 1, 3, .inl f_12)), (a_5, .inl (cy 1, 210, .inl f_13)), (a_6, .inl (cy 1, 6, .inl f_14)), (a_7, .inl (cy 1, 48, .inl f_15)), (a_8, .inl (cy 1, 30, .inl f_16)), (a_9, .inl (cy 1, 30, .inl f_17)), (a_10, .inl (cy 1, 30, .inl f_18)), (a_1, .inr (0, [.int i_8, .int i_9, .int i_10, .int i_11, .int i_12, .int i_13, .int i_14, .int i_15, .ref a_12, .ref a_13, .ref a_14, .ref a_15, .ref a_16, .ref a_17, .ref a_18, .ref a_19, .ref a_20, .ref a_21])), (a_12, .inl (cy 1, 9, .inl f_10)), (a_13, .inl (cy 1, 9, .inl f_11)), (a_14, .inl (cy 1, 3, .inl f_12)), (a_15, .inl (cy 1, 210, .inl f_13)), (a_16, .inl (cy 1, 6, .inl f_14)), (a_17, .inl (cy 1, 48, .inl f_15)), (a_18, .inl (cy 1, 30, .inl f_16)), (a_19, .inl (cy 1, 30, .inl f_17)), (a_20, .inl (cy 1, 30, .inl f_18))]) rfl (fun _ => rfl) (fun _ => rfl) ?_
  clear hP hD hS
  clear H locs
  intro _u H locs hw (hP : va_P G vwCl [(a_0, .inr (0, [.int i_8, .int i_9, .int i_10, .int i_11, .int i_12, .int i_13, .int i_14, .int i_15, .ref a_2, .ref a_3, .ref a_4, .ref a_5, .ref a_6, .ref a_7, .ref a_8, .ref a_9, .ref a_10, .ref a_11])), (a_2, .inl (cy 1, 9, .inl f_10)), (a_3, .inl (cy 1, 9, .inl f_11)), (a_4, .inl (cy 1, 3, .inl f_12)), (a_5, .inl (cy 1, 210, .inl f_13)), (a_6, .inl (cy 1, 6, .inl f_14)), (a_7, .inl (cy 1, 48, .inl f_15)), (a_8, .inl (cy 1, 30, .inl f_16)), (a_9, .inl (cy 1, 30, .inl f_17)), (a_10, .inl (cy 1, 30, .inl f_18)), (a_11, .inl (cy 1, 30, .inl f_19)), (a_1, .inr (0, [.int i_8, .int i_9, .int i_10, .int i_11, .int i_12, .int i_13, .int i_14, .int i_15, .ref a_12, .ref a_13, .ref a_14, .ref a_15, .ref a_16, .ref a_17, .ref a_18, .ref a_19, .ref a_20, .ref a_21])), (a_12, .inl (cy 1, 9, .inl f_10)), (a_13, .inl (cy 1, 9, .inl f_11)), (a_14, .inl (cy 1, 3, .inl f_12)), (a_15, .inl (cy 1, 210, .inl f_13)), (a_16, .inl (cy 1, 6, .inl f_14)), (a_17, .inl (cy 1, 48, .inl f_15)), (a_18, .inl (cy 1, 30, .inl f_16)), (a_19, .inl (cy 1, 30, .inl f_17)), (a_20, .inl (cy 1, 30, .inl f_18)), (a_21, .inl (cy 1, 30, .inl f_19))] H) (hD : va_D A [(a_0, .inr (0, [.int i_8, .int i_9, .int i_10, .int i_11, .int i_12, .int i_13, .int i_14, .int i_15, .ref a_2, .ref a_3, .ref a_4, .ref a_5, .ref a_6, .ref a_7, .ref a_8, .ref a_9, .ref a_10, .ref a_11])), (a_2, .inl (cy 1, 9, .inl f_10)), (a_3, .inl (cy 1, 9, .inl f_11)), (a_4, .inl (cy 1, 3, .inl f_12)), (a_5, .inl (cy 1, 210, .inl f_13)), (a_6, .inl (cy 1, 6, .inl f_14)), (a_7, .inl (cy 1, 48, .inl f_15)), (a_8, .inl (cy 1, 30, .inl f_16)), (a_9, .inl (cy 1, 30, .inl f_17)), (a_10, .inl (cy 1, 30, .inl f_18)), (a_11, .inl (cy 1, 30, .inl f_19)), (a_1, .inr (0, [.int i_8, .int i_9, .int i_10, .int i_11, .int i_12, .int i_13, .int i_14, .int i_15, .ref a_12, .ref a_13, .ref a_14, .ref a_15, .ref a_16, .ref a_17, .ref a_18, .ref a_19, .ref a_20, .ref a_21])), (a_12, .inl (cy 1, 9, .inl f_10)), (a_13, .inl (cy 1, 9, .inl f_11)), (a_14, .inl (cy 1, 3, .inl f_12)), (a_15, .inl (cy 1, 210, .inl f_13)), (a_16, .inl (cy 1, 6, .inl f_14)), (a_17, .inl (cy 1, 48, .inl f_15)), (a_18, .inl (cy 1, 30, .inl f_16)), (a_19, .inl (cy 1, 30, .inl f_17)), (a_20, .inl (cy 1, 30, .inl f_18)), (a_21, .inl (cy 1, 30, .inl f_19))]) hS
  subst hAe
  rw [hQ]
  exact W.vret hx hb hr (fun t ht hW => ⟨⟨(), rfl, trivial, by rw [ht]; exact hP, hK.warm hW, hD⟩, hS.F ht⟩) hS.2.2 dX0_copyFrom_174

