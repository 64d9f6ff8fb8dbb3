theorem dX0_allRules_0 : decode cX0_allRules 0 = .ok (.iconst 0, 1) := by decide +kernel
theorem dX0_allRules_1 : decode cX0_allRules 1 = .ok (.istore_n 1, 1) := by decide +kernel
theorem dX0_allRules_2 : decode cX0_allRules 2 = .ok (.iconst 0, 1) := by decide +kernel
theorem dX0_allRules_3 : decode cX0_allRules 3 = .ok (.istore_n 2, 1) := by decide +kernel
theorem dX0_allRules_4 : decode cX0_allRules 4 = .ok (.iload_n 2, 1) := by decide +kernel
theorem dX0_allRules_5 : decode cX0_allRules 5 = .ok (.aload_n 0, 1) := by decide +kernel
theorem dX0_allRules_6 : decode cX0_allRules 6 = .ok (.getfield 58, 3) := by decide +kernel
theorem dX0_allRules_9 : decode cX0_allRules 9 = .ok (.if_icmp .ge 18, 3) := by decide +kernel
theorem dX0_allRules_27 : decode cX0_allRules 27 = .ok (.iload_n 1, 1) := by decide +kernel
theorem dX0_allRules_28 : decode cX0_allRules 28 = .ok (.ireturn, 1) := by decide +kernel
theorem dX11_anew_0 : decode cX11_anew 0 = .ok (.aload_n 0, 1) := by decide +kernel
theorem dX11_anew_1 : decode cX11_anew 1 = .ok (.getfield 28, 3) := by decide +kernel
theorem dX11_anew_4 : decode cX11_anew 4 = .ok (.getfield 109, 3) := by decide +kernel
theorem dX11_anew_7 : decode cX11_anew 7 = .ok (.getfield 112, 3) := by decide +kernel
theorem dX11_anew_10 : decode cX11_anew 10 = .ok (.ifCond .ne 6, 3) := by decide +kernel
theorem dX11_anew_13 : decode cX11_anew 13 = .ok (.bipush (-2), 2) := by decide +kernel
theorem dX11_anew_15 : decode cX11_anew 15 = .ok (.ireturn, 1) := by decide +kernel
theorem dX11_chance_0 : decode cX11_chance 0 = .ok (.aload_n 0, 1) := by decide +kernel
theorem dX11_chance_1 : decode cX11_chance 1 = .ok (.iload_n 1, 1) := by decide +kernel
theorem dX11_chance_2 : decode cX11_chance 2 = .ok (.iload_n 2, 1) := by decide +kernel
theorem dX11_chance_3 : decode cX11_chance 3 = .ok (.iload_n 3, 1) := by decide +kernel
theorem dX11_chance_4 : decode cX11_chance 4 = .ok (.invokevirtual 191, 3) := by decide +kernel
theorem dX11_chance_7 : decode cX11_chance 7 = .ok (.ifCond .eq 19, 3) := by decide +kernel
theorem dX11_chance_26 : decode cX11_chance 26 = .ok (.bipush (-2), 2) := by decide +kernel
theorem dX11_chance_28 : decode cX11_chance 28 = .ok (.ireturn, 1) := by decide +kernel
theorem dX11_count_0 : decode cX11_count 0 = .ok (.iload_n 1, 1) := by decide +kernel
theorem dX11_count_1 : decode cX11_count 1 = .ok (.tableswitch 156 0 9 #[55, 66, 77, 88, 99, 110, 121, 132, 143, 151], 55) := by decide +kernel
theorem dX11_count_56 : decode cX11_count 56 = .ok (.aload_n 0, 1) := by decide +kernel
theorem dX11_count_57 : decode cX11_count 57 = .ok (.getfield 28, 3) := by decide +kernel
theorem dX11_count_60 : decode cX11_count 60 = .ok (.getfield 109, 3) := by decide +kernel
theorem dX11_count_63 : decode cX11_count 63 = .ok (.getfield 376, 3) := by decide +kernel
theorem dX11_count_66 : decode cX11_count 66 = .ok (.ireturn, 1) := by decide +kernel
theorem dX11_count_67 : decode cX11_count 67 = .ok (.aload_n 0, 1) := by decide +kernel
theorem dX11_count_68 : decode cX11_count 68 = .ok (.getfield 28, 3) := by decide +kernel
theorem dX11_count_71 : decode cX11_count 71 = .ok (.getfield 109, 3) := by decide +kernel
theorem dX11_count_74 : decode cX11_count 74 = .ok (.getfield 379, 3) := by decide +kernel
theorem dX11_count_77 : decode cX11_count 77 = .ok (.ireturn, 1) := by decide +kernel
theorem dX11_count_78 : decode cX11_count 78 = .ok (.aload_n 0, 1) := by decide +kernel
theorem dX11_count_79 : decode cX11_count 79 = .ok (.getfield 28, 3) := by decide +kernel
theorem dX11_count_82 : decode cX11_count 82 = .ok (.getfield 109, 3) := by decide +kernel
theorem dX11_count_85 : decode cX11_count 85 = .ok (.getfield 180, 3) := by decide +kernel
theorem dX11_count_88 : decode cX11_count 88 = .ok (.ireturn, 1) := by decide +kernel
theorem dX11_count_89 : decode cX11_count 89 = .ok (.aload_n 0, 1) := by decide +kernel
theorem dX11_count_90 : decode cX11_count 90 = .ok (.getfield 28, 3) := by decide +kernel
theorem dX11_count_93 : decode cX11_count 93 = .ok (.getfield 109, 3) := by decide +kernel
theorem dX11_count_96 : decode cX11_count 96 = .ok (.getfield 309, 3) := by decide +kernel
theorem dX11_count_99 : decode cX11_count 99 = .ok (.ireturn, 1) := by decide +kernel
theorem dX11_count_100 : decode cX11_count 100 = .ok (.aload_n 0, 1) := by decide +kernel
theorem dX11_count_101 : decode cX11_count 101 = .ok (.getfield 28, 3) := by decide +kernel
theorem dX11_count_104 : decode cX11_count 104 = .ok (.getfield 109, 3) := by decide +kernel
theorem dX11_count_107 : decode cX11_count 107 = .ok (.invokevirtual 382, 3) := by decide +kernel
theorem dX11_count_110 : decode cX11_count 110 = .ok (.ireturn, 1) := by decide +kernel
theorem dX11_count_111 : decode cX11_count 111 = .ok (.aload_n 0, 1) := by decide +kernel
theorem dX11_count_112 : decode cX11_count 112 = .ok (.getfield 28, 3) := by decide +kernel
theorem dX11_count_115 : decode cX11_count 115 = .ok (.getfield 109, 3) := by decide +kernel
theorem dX11_count_118 : decode cX11_count 118 = .ok (.getfield 251, 3) := by decide +kernel
theorem dX11_count_121 : decode cX11_count 121 = .ok (.ireturn, 1) := by decide +kernel
theorem dX11_count_122 : decode cX11_count 122 = .ok (.aload_n 0, 1) := by decide +kernel
theorem dX11_count_123 : decode cX11_count 123 = .ok (.getfield 28, 3) := by decide +kernel
theorem dX11_count_126 : decode cX11_count 126 = .ok (.getfield 109, 3) := by decide +kernel
theorem dX11_count_129 : decode cX11_count 129 = .ok (.getfield 354, 3) := by decide +kernel
theorem dX11_count_132 : decode cX11_count 132 = .ok (.ireturn, 1) := by decide +kernel
theorem dX11_count_133 : decode cX11_count 133 = .ok (.aload_n 0, 1) := by decide +kernel
theorem dX11_count_134 : decode cX11_count 134 = .ok (.getfield 28, 3) := by decide +kernel
theorem dX11_count_137 : decode cX11_count 137 = .ok (.getfield 109, 3) := by decide +kernel
theorem dX11_count_140 : decode cX11_count 140 = .ok (.getfield 112, 3) := by decide +kernel
theorem dX11_count_143 : decode cX11_count 143 = .ok (.ireturn, 1) := by decide +kernel
theorem dX11_count_144 : decode cX11_count 144 = .ok (.aload_n 0, 1) := by decide +kernel
theorem dX11_count_145 : decode cX11_count 145 = .ok (.getfield 10, 3) := by decide +kernel
theorem dX11_count_148 : decode cX11_count 148 = .ok (.getfield 89, 3) := by decide +kernel
theorem dX11_count_151 : decode cX11_count 151 = .ok (.ireturn, 1) := by decide +kernel
theorem dX11_count_152 : decode cX11_count 152 = .ok (.aload_n 0, 1) := by decide +kernel
theorem dX11_count_153 : decode cX11_count 153 = .ok (.invokevirtual 385, 3) := by decide +kernel
theorem dX11_count_156 : decode cX11_count 156 = .ok (.ireturn, 1) := by decide +kernel
theorem dX11_count_157 : decode cX11_count 157 = .ok (.iconst (-1), 1) := by decide +kernel
theorem dX11_count_158 : decode cX11_count 158 = .ok (.ireturn, 1) := by decide +kernel
theorem dX11_drawn_0 : decode cX11_drawn 0 = .ok (.aload_n 0, 1) := by decide +kernel
theorem dX11_drawn_1 : decode cX11_drawn 1 = .ok (.getfield 28, 3) := by decide +kernel
theorem dX11_drawn_4 : decode cX11_drawn 4 = .ok (.getfield 109, 3) := by decide +kernel
theorem dX11_drawn_7 : decode cX11_drawn 7 = .ok (.getfield 112, 3) := by decide +kernel
theorem dX11_drawn_10 : decode cX11_drawn 10 = .ok (.ifCond .eq 17, 3) := by decide +kernel
theorem dX11_drawn_27 : decode cX11_drawn 27 = .ok (.bipush (-2), 2) := by decide +kernel
theorem dX11_drawn_29 : decode cX11_drawn 29 = .ok (.ireturn, 1) := by decide +kernel
theorem dX11_greedy_0 : decode cX11_greedy 0 = .ok (.aload_n 0, 1) := by decide +kernel
theorem dX11_greedy_1 : decode cX11_greedy 1 = .ok (.iload_n 1, 1) := by decide +kernel
theorem dX11_greedy_2 : decode cX11_greedy 2 = .ok (.invokevirtual 145, 3) := by decide +kernel
theorem dX11_greedy_5 : decode cX11_greedy 5 = .ok (.ifCond .eq 10, 3) := by decide +kernel
theorem dX11_greedy_15 : decode cX11_greedy 15 = .ok (.ldc_w 331, 3) := by decide +kernel
theorem dX11_greedy_18 : decode cX11_greedy 18 = .ok (.ireturn, 1) := by decide +kernel
theorem dX11_heirs_0 : decode cX11_heirs 0 = .ok (.aload_n 0, 1) := by decide +kernel
theorem dX11_heirs_1 : decode cX11_heirs 1 = .ok (.iload_n 1, 1) := by decide +kernel
theorem dX11_heirs_2 : decode cX11_heirs 2 = .ok (.invokevirtual 145, 3) := by decide +kernel
theorem dX11_heirs_5 : decode cX11_heirs 5 = .ok (.ifCond .eq 10, 3) := by decide +kernel
theorem dX11_heirs_15 : decode cX11_heirs 15 = .ok (.ldc_w 331, 3) := by decide +kernel
theorem dX11_heirs_18 : decode cX11_heirs 18 = .ok (.ireturn, 1) := by decide +kernel
theorem dX11_isSeed_0 : decode cX11_isSeed 0 = .ok (.iload_n 0, 1) := by decide +kernel
theorem dX11_isSeed_1 : decode cX11_isSeed 1 = .ok (.ifCond .lt 14, 3) := by decide +kernel
theorem dX11_isSeed_4 : decode cX11_isSeed 4 = .ok (.iload_n 0, 1) := by decide +kernel
theorem dX11_isSeed_5 : decode cX11_isSeed 5 = .ok (.ldc_w 419, 3) := by decide +kernel
theorem dX11_isSeed_8 : decode cX11_isSeed 8 = .ok (.if_icmp .gt 7, 3) := by decide +kernel
theorem dX11_isSeed_11 : decode cX11_isSeed 11 = .ok (.iconst 1, 1) := by decide +kernel
theorem dX11_isSeed_12 : decode cX11_isSeed 12 = .ok (.goto 4, 3) := by decide +kernel
theorem dX11_isSeed_15 : decode cX11_isSeed 15 = .ok (.iconst 0, 1) := by decide +kernel
theorem dX11_isSeed_16 : decode cX11_isSeed 16 = .ok (.ireturn, 1) := by decide +kernel
theorem dX11_luck_0 : decode cX11_luck 0 = .ok (.iload_n 1, 1) := by decide +kernel
theorem dX11_luck_1 : decode cX11_luck 1 = .ok (.invokestatic 370, 3) := by decide +kernel
theorem dX11_luck_4 : decode cX11_luck 4 = .ok (.ifCond .eq 26, 3) := by decide +kernel
theorem dX11_luck_7 : decode cX11_luck 7 = .ok (.iload_n 2, 1) := by decide +kernel
theorem dX11_luck_8 : decode cX11_luck 8 = .ok (.iconst 1, 1) := by decide +kernel
theorem dX11_luck_9 : decode cX11_luck 9 = .ok (.if_icmp .lt 21, 3) := by decide +kernel
theorem dX11_luck_12 : decode cX11_luck 12 = .ok (.iload_n 2, 1) := by decide +kernel
theorem dX11_luck_13 : decode cX11_luck 13 = .ok (.bipush 20, 2) := by decide +kernel
theorem dX11_luck_15 : decode cX11_luck 15 = .ok (.if_icmp .gt 15, 3) := by decide +kernel
theorem dX11_luck_18 : decode cX11_luck 18 = .ok (.aload_n 0, 1) := by decide +kernel
theorem dX11_luck_19 : decode cX11_luck 19 = .ok (.iload_n 3, 1) := by decide +kernel
theorem dX11_luck_20 : decode cX11_luck 20 = .ok (.iload 4, 2) := by decide +kernel
theorem dX11_luck_22 : decode cX11_luck 22 = .ok (.iload 5, 2) := by decide +kernel
theorem dX11_luck_24 : decode cX11_luck 24 = .ok (.invokevirtual 191, 3) := by decide +kernel
theorem dX11_luck_27 : decode cX11_luck 27 = .ok (.ifCond .ne 6, 3) := by decide +kernel
theorem dX11_luck_30 : decode cX11_luck 30 = .ok (.bipush (-2), 2) := by decide +kernel
theorem dX11_luck_32 : decode cX11_luck 32 = .ok (.ireturn, 1) := by decide +kernel
theorem dX11_mean_0 : decode cX11_mean 0 = .ok (.aload_n 0, 1) := by decide +kernel
theorem dX11_mean_1 : decode cX11_mean 1 = .ok (.iload_n 1, 1) := by decide +kernel
theorem dX11_mean_2 : decode cX11_mean 2 = .ok (.iload_n 2, 1) := by decide +kernel
theorem dX11_mean_3 : decode cX11_mean 3 = .ok (.iload_n 3, 1) := by decide +kernel
theorem dX11_mean_4 : decode cX11_mean 4 = .ok (.invokevirtual 191, 3) := by decide +kernel
theorem dX11_mean_7 : decode cX11_mean 7 = .ok (.ifCond .eq 19, 3) := by decide +kernel
theorem dX11_mean_26 : decode cX11_mean 26 = .ok (.ldc2_w 352, 3) := by decide +kernel
theorem dX11_mean_29 : decode cX11_mean 29 = .ok (.lreturn, 1) := by decide +kernel
theorem dX11_rate_0 : decode cX11_rate 0 = .ok (.aload_n 0, 1) := by decide +kernel
theorem dX11_rate_1 : decode cX11_rate 1 = .ok (.iload_n 1, 1) := by decide +kernel
theorem dX11_rate_2 : decode cX11_rate 2 = .ok (.invokevirtual 121, 3) := by decide +kernel
theorem dX11_rate_5 : decode cX11_rate 5 = .ok (.ifCond .eq 29, 3) := by decide +kernel
theorem dX11_rate_34 : decode cX11_rate 34 = .ok (.bipush (-2), 2) := by decide +kernel
theorem dX11_rate_36 : decode cX11_rate 36 = .ok (.ireturn, 1) := by decide +kernel
theorem dX11_rowsPresent_0 : decode cX11_rowsPresent 0 = .ok (.iconst 0, 1) := by decide +kernel
theorem dX11_rowsPresent_1 : decode cX11_rowsPresent 1 = .ok (.istore_n 1, 1) := by decide +kernel
theorem dX11_rowsPresent_2 : decode cX11_rowsPresent 2 = .ok (.iconst 0, 1) := by decide +kernel
theorem dX11_rowsPresent_3 : decode cX11_rowsPresent 3 = .ok (.istore_n 2, 1) := by decide +kernel
theorem dX11_rowsPresent_4 : decode cX11_rowsPresent 4 = .ok (.iload_n 2, 1) := by decide +kernel
theorem dX11_rowsPresent_5 : decode cX11_rowsPresent 5 = .ok (.iconst 4, 1) := by decide +kernel
theorem dX11_rowsPresent_6 : decode cX11_rowsPresent 6 = .ok (.if_icmp .ge 24, 3) := by decide +kernel
theorem dX11_rowsPresent_9 : decode cX11_rowsPresent 9 = .ok (.aload_n 0, 1) := by decide +kernel
theorem dX11_rowsPresent_10 : decode cX11_rowsPresent 10 = .ok (.getfield 45, 3) := by decide +kernel
theorem dX11_rowsPresent_13 : decode cX11_rowsPresent 13 = .ok (.iload_n 2, 1) := by decide +kernel
theorem dX11_rowsPresent_14 : decode cX11_rowsPresent 14 = .ok (.aaload, 1) := by decide +kernel
theorem dX11_rowsPresent_15 : decode cX11_rowsPresent 15 = .ok (.getfield 395, 3) := by decide +kernel
theorem dX11_rowsPresent_18 : decode cX11_rowsPresent 18 = .ok (.ifCond .eq 6, 3) := by decide +kernel
theorem dX11_rowsPresent_24 : decode cX11_rowsPresent 24 = .ok (.iinc 2 1, 3) := by decide +kernel
theorem dX11_rowsPresent_27 : decode cX11_rowsPresent 27 = .ok (.goto (-23), 3) := by decide +kernel
theorem dX11_rowsPresent_30 : decode cX11_rowsPresent 30 = .ok (.iload_n 1, 1) := by decide +kernel
theorem dX11_rowsPresent_31 : decode cX11_rowsPresent 31 = .ok (.ireturn, 1) := by decide +kernel
theorem dX11_stock_0 : decode cX11_stock 0 = .ok (.aload_n 0, 1) := by decide +kernel
theorem dX11_stock_1 : decode cX11_stock 1 = .ok (.getfield 28, 3) := by decide +kernel
theorem dX11_stock_4 : decode cX11_stock 4 = .ok (.getfield 109, 3) := by decide +kernel
theorem dX11_stock_7 : decode cX11_stock 7 = .ok (.getfield 112, 3) := by decide +kernel
theorem dX11_stock_10 : decode cX11_stock 10 = .ok (.ifCond .eq 13, 3) := by decide +kernel
theorem dX11_stock_23 : decode cX11_stock 23 = .ok (.bipush (-2), 2) := by decide +kernel
theorem dX11_stock_25 : decode cX11_stock 25 = .ok (.ireturn, 1) := by decide +kernel
theorem dX11_swaps_0 : decode cX11_swaps 0 = .ok (.aload_n 0, 1) := by decide +kernel
theorem dX11_swaps_1 : decode cX11_swaps 1 = .ok (.iload_n 1, 1) := by decide +kernel
theorem dX11_swaps_2 : decode cX11_swaps 2 = .ok (.invokevirtual 145, 3) := by decide +kernel
theorem dX11_swaps_5 : decode cX11_swaps 5 = .ok (.ifCond .eq 24, 3) := by decide +kernel
theorem dX11_swaps_29 : decode cX11_swaps 29 = .ok (.bipush (-2), 2) := by decide +kernel
theorem dX11_swaps_31 : decode cX11_swaps 31 = .ok (.ireturn, 1) := by decide +kernel
theorem dX11_takes_0 : decode cX11_takes 0 = .ok (.aload_n 0, 1) := by decide +kernel
theorem dX11_takes_1 : decode cX11_takes 1 = .ok (.iload_n 1, 1) := by decide +kernel
theorem dX11_takes_2 : decode cX11_takes 2 = .ok (.invokevirtual 145, 3) := by decide +kernel
theorem dX11_takes_5 : decode cX11_takes 5 = .ok (.ifCond .eq 10, 3) := by decide +kernel
theorem dX11_takes_15 : decode cX11_takes 15 = .ok (.bipush (-2), 2) := by decide +kernel
theorem dX11_takes_17 : decode cX11_takes 17 = .ok (.ireturn, 1) := by decide +kernel
theorem dX11_undo_0 : decode cX11_undo 0 = .ok (.aload_n 0, 1) := by decide +kernel
theorem dX11_undo_1 : decode cX11_undo 1 = .ok (.getfield 28, 3) := by decide +kernel
theorem dX11_undo_4 : decode cX11_undo 4 = .ok (.getfield 109, 3) := by decide +kernel
theorem dX11_undo_7 : decode cX11_undo 7 = .ok (.getfield 112, 3) := by decide +kernel
theorem dX11_undo_10 : decode cX11_undo 10 = .ok (.ifCond .ne 6, 3) := by decide +kernel
theorem dX11_undo_13 : decode cX11_undo 13 = .ok (.bipush (-2), 2) := by decide +kernel
theorem dX11_undo_15 : decode cX11_undo 15 = .ok (.ireturn, 1) := by decide +kernel
theorem dX11_wordings_0 : decode cX11_wordings 0 = .ok (.aload_n 0, 1) := by decide +kernel
theorem dX11_wordings_1 : decode cX11_wordings 1 = .ok (.iload_n 1, 1) := by decide +kernel
theorem dX11_wordings_2 : decode cX11_wordings 2 = .ok (.iload_n 2, 1) := by decide +kernel
theorem dX11_wordings_3 : decode cX11_wordings 3 = .ok (.iload_n 3, 1) := by decide +kernel
theorem dX11_wordings_4 : decode cX11_wordings 4 = .ok (.iload 4, 2) := by decide +kernel
theorem dX11_wordings_6 : decode cX11_wordings 6 = .ok (.invokevirtual 316, 3) := by decide +kernel
theorem dX11_wordings_9 : decode cX11_wordings 9 = .ok (.ifCond .ne 6, 3) := by decide +kernel
theorem dX11_wordings_12 : decode cX11_wordings 12 = .ok (.bipush (-2), 2) := by decide +kernel
theorem dX11_wordings_14 : decode cX11_wordings 14 = .ok (.ireturn, 1) := by decide +kernel
theorem dX12_anew_0 : decode cX12_anew 0 = .ok (.aload_n 0, 1) := by decide +kernel
theorem dX12_anew_1 : decode cX12_anew 1 = .ok (.iconst 0, 1) := by decide +kernel
theorem dX12_anew_2 : decode cX12_anew 2 = .ok (.putfield 77, 3) := by decide +kernel
theorem dX12_anew_5 : decode cX12_anew 5 = .ok (.aload_n 0, 1) := by decide +kernel
theorem dX12_anew_6 : decode cX12_anew 6 = .ok (.invokevirtual 251, 3) := by decide +kernel
theorem dX12_anew_9 : decode cX12_anew 9 = .ok (.ifCond .ne 6, 3) := by decide +kernel
theorem dX12_anew_12 : decode cX12_anew 12 = .ok (.bipush (-2), 2) := by decide +kernel
theorem dX12_anew_14 : decode cX12_anew 14 = .ok (.ireturn, 1) := by decide +kernel
theorem dX12_chance_0 : decode cX12_chance 0 = .ok (.aload_n 0, 1) := by decide +kernel
theorem dX12_chance_1 : decode cX12_chance 1 = .ok (.iconst 0, 1) := by decide +kernel
theorem dX12_chance_2 : decode cX12_chance 2 = .ok (.putfield 77, 3) := by decide +kernel
theorem dX12_chance_5 : decode cX12_chance 5 = .ok (.aload_n 0, 1) := by decide +kernel
theorem dX12_chance_6 : decode cX12_chance 6 = .ok (.iload_n 1, 1) := by decide +kernel
theorem dX12_chance_7 : decode cX12_chance 7 = .ok (.iload_n 2, 1) := by decide +kernel
theorem dX12_chance_8 : decode cX12_chance 8 = .ok (.iload_n 3, 1) := by decide +kernel
theorem dX12_chance_9 : decode cX12_chance 9 = .ok (.iload 4, 2) := by decide +kernel
theorem dX12_chance_11 : decode cX12_chance 11 = .ok (.invokevirtual 435, 3) := by decide +kernel
theorem dX12_chance_14 : decode cX12_chance 14 = .ok (.ifCond .eq 38, 3) := by decide +kernel
theorem dX12_chance_52 : decode cX12_chance 52 = .ok (.bipush (-2), 2) := by decide +kernel
theorem dX12_chance_54 : decode cX12_chance 54 = .ok (.ireturn, 1) := by decide +kernel
theorem dX12_count_0 : decode cX12_count 0 = .ok (.aload_n 0, 1) := by decide +kernel
theorem dX12_count_1 : decode cX12_count 1 = .ok (.iconst 0, 1) := by decide +kernel
theorem dX12_count_2 : decode cX12_count 2 = .ok (.putfield 77, 3) := by decide +kernel
theorem dX12_count_5 : decode cX12_count 5 = .ok (.iconst 0, 1) := by decide +kernel
theorem dX12_count_6 : decode cX12_count 6 = .ok (.istore_n 2, 1) := by decide +kernel
theorem dX12_count_7 : decode cX12_count 7 = .ok (.iload_n 1, 1) := by decide +kernel
theorem dX12_count_8 : decode cX12_count 8 = .ok (.tableswitch 168 0 9 #[56, 63, 70, 75, 82, 111, 116, 123, 130, 135], 56) := by decide +kernel
theorem dX12_count_64 : decode cX12_count 64 = .ok (.aload_n 0, 1) := by decide +kernel
theorem dX12_count_65 : decode cX12_count 65 = .ok (.getfield 34, 3) := by decide +kernel
theorem dX12_count_68 : decode cX12_count 68 = .ok (.iconst 0, 1) := by decide +kernel
theorem dX12_count_69 : decode cX12_count 69 = .ok (.iaload, 1) := by decide +kernel
theorem dX12_count_70 : decode cX12_count 70 = .ok (.ireturn, 1) := by decide +kernel
theorem dX12_count_71 : decode cX12_count 71 = .ok (.aload_n 0, 1) := by decide +kernel
theorem dX12_count_72 : decode cX12_count 72 = .ok (.getfield 34, 3) := by decide +kernel
theorem dX12_count_75 : decode cX12_count 75 = .ok (.iconst 1, 1) := by decide +kernel
theorem dX12_count_76 : decode cX12_count 76 = .ok (.iaload, 1) := by decide +kernel
theorem dX12_count_77 : decode cX12_count 77 = .ok (.ireturn, 1) := by decide +kernel
theorem dX12_count_78 : decode cX12_count 78 = .ok (.aload_n 0, 1) := by decide +kernel
theorem dX12_count_79 : decode cX12_count 79 = .ok (.invokevirtual 254, 3) := by decide +kernel
theorem dX12_count_82 : decode cX12_count 82 = .ok (.ireturn, 1) := by decide +kernel
theorem dX12_count_83 : decode cX12_count 83 = .ok (.aload_n 0, 1) := by decide +kernel
theorem dX12_count_84 : decode cX12_count 84 = .ok (.getfield 34, 3) := by decide +kernel
theorem dX12_count_87 : decode cX12_count 87 = .ok (.iconst 3, 1) := by decide +kernel
theorem dX12_count_88 : decode cX12_count 88 = .ok (.iaload, 1) := by decide +kernel
theorem dX12_count_89 : decode cX12_count 89 = .ok (.ireturn, 1) := by decide +kernel
theorem dX12_count_90 : decode cX12_count 90 = .ok (.iconst 0, 1) := by decide +kernel
theorem dX12_count_91 : decode cX12_count 91 = .ok (.istore_n 3, 1) := by decide +kernel
theorem dX12_count_92 : decode cX12_count 92 = .ok (.iload_n 3, 1) := by decide +kernel
theorem dX12_count_93 : decode cX12_count 93 = .ok (.aload_n 0, 1) := by decide +kernel
theorem dX12_count_94 : decode cX12_count 94 = .ok (.getfield 34, 3) := by decide +kernel
theorem dX12_count_97 : decode cX12_count 97 = .ok (.iconst 3, 1) := by decide +kernel
theorem dX12_count_98 : decode cX12_count 98 = .ok (.iaload, 1) := by decide +kernel
theorem dX12_count_99 : decode cX12_count 99 = .ok (.if_icmp .ge 18, 3) := by decide +kernel
theorem dX12_count_117 : decode cX12_count 117 = .ok (.iload_n 2, 1) := by decide +kernel
theorem dX12_count_118 : decode cX12_count 118 = .ok (.ireturn, 1) := by decide +kernel
theorem dX12_count_119 : decode cX12_count 119 = .ok (.aload_n 0, 1) := by decide +kernel
theorem dX12_count_120 : decode cX12_count 120 = .ok (.invokevirtual 260, 3) := by decide +kernel
theorem dX12_count_123 : decode cX12_count 123 = .ok (.ireturn, 1) := by decide +kernel
theorem dX12_count_124 : decode cX12_count 124 = .ok (.aload_n 0, 1) := by decide +kernel
theorem dX12_count_125 : decode cX12_count 125 = .ok (.getfield 34, 3) := by decide +kernel
theorem dX12_count_128 : decode cX12_count 128 = .ok (.iconst 5, 1) := by decide +kernel
theorem dX12_count_129 : decode cX12_count 129 = .ok (.iaload, 1) := by decide +kernel
theorem dX12_count_130 : decode cX12_count 130 = .ok (.ireturn, 1) := by decide +kernel
theorem dX12_count_131 : decode cX12_count 131 = .ok (.aload_n 0, 1) := by decide +kernel
theorem dX12_count_132 : decode cX12_count 132 = .ok (.getfield 31, 3) := by decide +kernel
theorem dX12_count_135 : decode cX12_count 135 = .ok (.iconst 0, 1) := by decide +kernel
theorem dX12_count_136 : decode cX12_count 136 = .ok (.iaload, 1) := by decide +kernel
theorem dX12_count_137 : decode cX12_count 137 = .ok (.ireturn, 1) := by decide +kernel
theorem dX12_count_138 : decode cX12_count 138 = .ok (.aload_n 0, 1) := by decide +kernel
theorem dX12_count_139 : decode cX12_count 139 = .ok (.getfield 94, 3) := by decide +kernel
theorem dX12_count_142 : decode cX12_count 142 = .ok (.ireturn, 1) := by decide +kernel
theorem dX12_count_143 : decode cX12_count 143 = .ok (.iconst 0, 1) := by decide +kernel
theorem dX12_count_144 : decode cX12_count 144 = .ok (.istore_n 3, 1) := by decide +kernel
theorem dX12_count_145 : decode cX12_count 145 = .ok (.iload_n 3, 1) := by decide +kernel
theorem dX12_count_146 : decode cX12_count 146 = .ok (.iconst 4, 1) := by decide +kernel
theorem dX12_count_147 : decode cX12_count 147 = .ok (.if_icmp .ge 27, 3) := by decide +kernel
theorem dX12_count_150 : decode cX12_count 150 = .ok (.iload_n 2, 1) := by decide +kernel
theorem dX12_count_151 : decode cX12_count 151 = .ok (.aload_n 0, 1) := by decide +kernel
theorem dX12_count_152 : decode cX12_count 152 = .ok (.getfield 7, 3) := by decide +kernel
theorem dX12_count_155 : decode cX12_count 155 = .ok (.iload_n 3, 1) := by decide +kernel
theorem dX12_count_156 : decode cX12_count 156 = .ok (.iaload, 1) := by decide +kernel
theorem dX12_count_157 : decode cX12_count 157 = .ok (.iconst (-1), 1) := by decide +kernel
theorem dX12_count_158 : decode cX12_count 158 = .ok (.if_icmp .ne 7, 3) := by decide +kernel
theorem dX12_count_161 : decode cX12_count 161 = .ok (.iconst 0, 1) := by decide +kernel
theorem dX12_count_162 : decode cX12_count 162 = .ok (.goto 4, 3) := by decide +kernel
theorem dX12_count_166 : decode cX12_count 166 = .ok (.iadd, 1) := by decide +kernel
theorem dX12_count_167 : decode cX12_count 167 = .ok (.istore_n 2, 1) := by decide +kernel
theorem dX12_count_168 : decode cX12_count 168 = .ok (.iinc 3 1, 3) := by decide +kernel
theorem dX12_count_171 : decode cX12_count 171 = .ok (.goto (-26), 3) := by decide +kernel
theorem dX12_count_174 : decode cX12_count 174 = .ok (.iload_n 2, 1) := by decide +kernel
theorem dX12_count_175 : decode cX12_count 175 = .ok (.ireturn, 1) := by decide +kernel
theorem dX12_count_176 : decode cX12_count 176 = .ok (.iconst (-1), 1) := by decide +kernel
theorem dX12_count_177 : decode cX12_count 177 = .ok (.ireturn, 1) := by decide +kernel
theorem dX12_drawn_0 : decode cX12_drawn 0 = .ok (.aload_n 0, 1) := by decide +kernel
theorem dX12_drawn_1 : decode cX12_drawn 1 = .ok (.iconst 0, 1) := by decide +kernel
theorem dX12_drawn_2 : decode cX12_drawn 2 = .ok (.putfield 77, 3) := by decide +kernel
theorem dX12_drawn_5 : decode cX12_drawn 5 = .ok (.aload_n 0, 1) := by decide +kernel
theorem dX12_drawn_6 : decode cX12_drawn 6 = .ok (.invokevirtual 251, 3) := by decide +kernel
theorem dX12_drawn_9 : decode cX12_drawn 9 = .ok (.ifCond .eq 32, 3) := by decide +kernel
theorem dX12_drawn_41 : decode cX12_drawn 41 = .ok (.bipush (-2), 2) := by decide +kernel
theorem dX12_drawn_43 : decode cX12_drawn 43 = .ok (.ireturn, 1) := by decide +kernel
theorem dX12_greedy_0 : decode cX12_greedy 0 = .ok (.aload_n 0, 1) := by decide +kernel
theorem dX12_greedy_1 : decode cX12_greedy 1 = .ok (.iconst 0, 1) := by decide +kernel
theorem dX12_greedy_2 : decode cX12_greedy 2 = .ok (.putfield 77, 3) := by decide +kernel
theorem dX12_greedy_5 : decode cX12_greedy 5 = .ok (.aload_n 0, 1) := by decide +kernel
theorem dX12_greedy_6 : decode cX12_greedy 6 = .ok (.iload_n 1, 1) := by decide +kernel
theorem dX12_greedy_7 : decode cX12_greedy 7 = .ok (.iload_n 2, 1) := by decide +kernel
theorem dX12_greedy_8 : decode cX12_greedy 8 = .ok (.invokevirtual 323, 3) := by decide +kernel
theorem dX12_greedy_11 : decode cX12_greedy 11 = .ok (.ifCond .ne 7, 3) := by decide +kernel
theorem dX12_greedy_14 : decode cX12_greedy 14 = .ok (.ldc_w 426, 3) := by decide +kernel
theorem dX12_greedy_17 : decode cX12_greedy 17 = .ok (.ireturn, 1) := by decide +kernel
theorem dX12_heirs_0 : decode cX12_heirs 0 = .ok (.aload_n 0, 1) := by decide +kernel
theorem dX12_heirs_1 : decode cX12_heirs 1 = .ok (.iconst 0, 1) := by decide +kernel
theorem dX12_heirs_2 : decode cX12_heirs 2 = .ok (.putfield 77, 3) := by decide +kernel
theorem dX12_heirs_5 : decode cX12_heirs 5 = .ok (.aload_n 0, 1) := by decide +kernel
theorem dX12_heirs_6 : decode cX12_heirs 6 = .ok (.iload_n 1, 1) := by decide +kernel
theorem dX12_heirs_7 : decode cX12_heirs 7 = .ok (.iload_n 2, 1) := by decide +kernel
theorem dX12_heirs_8 : decode cX12_heirs 8 = .ok (.invokevirtual 323, 3) := by decide +kernel
theorem dX12_heirs_11 : decode cX12_heirs 11 = .ok (.ifCond .ne 7, 3) := by decide +kernel
theorem dX12_heirs_14 : decode cX12_heirs 14 = .ok (.ldc_w 426, 3) := by decide +kernel
theorem dX12_heirs_17 : decode cX12_heirs 17 = .ok (.ireturn, 1) := by decide +kernel
theorem dX12_isSeed_0 : decode cX12_isSeed 0 = .ok (.iload_n 0, 1) := by decide +kernel
theorem dX12_isSeed_1 : decode cX12_isSeed 1 = .ok (.i2l, 1) := by decide +kernel
theorem dX12_isSeed_2 : decode cX12_isSeed 2 = .ok (.lconst 0, 1) := by decide +kernel
theorem dX12_isSeed_3 : decode cX12_isSeed 3 = .ok (.ldc2_w 452, 3) := by decide +kernel
theorem dX12_isSeed_6 : decode cX12_isSeed 6 = .ok (.invokestatic 82, 3) := by decide +kernel
theorem dX12_isSeed_9 : decode cX12_isSeed 9 = .ok (.ireturn, 1) := by decide +kernel
theorem dX12_isSent_0 : decode cX12_isSent 0 = .ok (.aload_n 0, 1) := by decide +kernel
theorem dX12_isSent_1 : decode cX12_isSent 1 = .ok (.iload_n 1, 1) := by decide +kernel
theorem dX12_isSent_2 : decode cX12_isSent 2 = .ok (.iload_n 2, 1) := by decide +kernel
theorem dX12_isSent_3 : decode cX12_isSent 3 = .ok (.invokevirtual 323, 3) := by decide +kernel
theorem dX12_isSent_6 : decode cX12_isSent 6 = .ok (.ifCond .eq 29, 3) := by decide +kernel
theorem dX12_isSent_35 : decode cX12_isSent 35 = .ok (.iconst 0, 1) := by decide +kernel
theorem dX12_isSent_36 : decode cX12_isSent 36 = .ok (.ireturn, 1) := by decide +kernel
theorem dX12_luck_0 : decode cX12_luck 0 = .ok (.aload_n 0, 1) := by decide +kernel
theorem dX12_luck_1 : decode cX12_luck 1 = .ok (.iconst 0, 1) := by decide +kernel
theorem dX12_luck_2 : decode cX12_luck 2 = .ok (.putfield 77, 3) := by decide +kernel
theorem dX12_luck_5 : decode cX12_luck 5 = .ok (.iload_n 1, 1) := by decide +kernel
theorem dX12_luck_6 : decode cX12_luck 6 = .ok (.invokestatic 454, 3) := by decide +kernel
theorem dX12_luck_9 : decode cX12_luck 9 = .ok (.ifCond .eq 35, 3) := by decide +kernel
theorem dX12_luck_12 : decode cX12_luck 12 = .ok (.iload_n 2, 1) := by decide +kernel
theorem dX12_luck_13 : decode cX12_luck 13 = .ok (.i2l, 1) := by decide +kernel
theorem dX12_luck_14 : decode cX12_luck 14 = .ok (.lconst 1, 1) := by decide +kernel
theorem dX12_luck_15 : decode cX12_luck 15 = .ok (.ldc2_w 461, 3) := by decide +kernel
theorem dX12_luck_18 : decode cX12_luck 18 = .ok (.invokestatic 82, 3) := by decide +kernel
theorem dX12_luck_21 : decode cX12_luck 21 = .ok (.ifCond .eq 23, 3) := by decide +kernel
theorem dX12_luck_24 : decode cX12_luck 24 = .ok (.aload_n 0, 1) := by decide +kernel
theorem dX12_luck_25 : decode cX12_luck 25 = .ok (.iload_n 3, 1) := by decide +kernel
theorem dX12_luck_26 : decode cX12_luck 26 = .ok (.iload 4, 2) := by decide +kernel
theorem dX12_luck_28 : decode cX12_luck 28 = .ok (.invokevirtual 323, 3) := by decide +kernel
theorem dX12_luck_31 : decode cX12_luck 31 = .ok (.ifCond .eq 13, 3) := by decide +kernel
theorem dX12_luck_44 : decode cX12_luck 44 = .ok (.bipush (-2), 2) := by decide +kernel
theorem dX12_luck_46 : decode cX12_luck 46 = .ok (.ireturn, 1) := by decide +kernel
theorem dX12_mean_0 : decode cX12_mean 0 = .ok (.aload_n 0, 1) := by decide +kernel
theorem dX12_mean_1 : decode cX12_mean 1 = .ok (.iconst 0, 1) := by decide +kernel
theorem dX12_mean_2 : decode cX12_mean 2 = .ok (.putfield 77, 3) := by decide +kernel
theorem dX12_mean_5 : decode cX12_mean 5 = .ok (.aload_n 0, 1) := by decide +kernel
theorem dX12_mean_6 : decode cX12_mean 6 = .ok (.iload_n 1, 1) := by decide +kernel
theorem dX12_mean_7 : decode cX12_mean 7 = .ok (.iload_n 2, 1) := by decide +kernel
theorem dX12_mean_8 : decode cX12_mean 8 = .ok (.iload_n 3, 1) := by decide +kernel
theorem dX12_mean_9 : decode cX12_mean 9 = .ok (.iload 4, 2) := by decide +kernel
theorem dX12_mean_11 : decode cX12_mean 11 = .ok (.invokevirtual 435, 3) := by decide +kernel
theorem dX12_mean_14 : decode cX12_mean 14 = .ok (.ifCond .eq 37, 3) := by decide +kernel
theorem dX12_mean_51 : decode cX12_mean 51 = .ok (.ldc2_w 442, 3) := by decide +kernel
theorem dX12_mean_54 : decode cX12_mean 54 = .ok (.lreturn, 1) := by decide +kernel
theorem dX12_rate_0 : decode cX12_rate 0 = .ok (.aload_n 0, 1) := by decide +kernel
theorem dX12_rate_1 : decode cX12_rate 1 = .ok (.iconst 0, 1) := by decide +kernel
theorem dX12_rate_2 : decode cX12_rate 2 = .ok (.putfield 77, 3) := by decide +kernel
theorem dX12_rate_5 : decode cX12_rate 5 = .ok (.iload_n 1, 1) := by decide +kernel
theorem dX12_rate_6 : decode cX12_rate 6 = .ok (.i2l, 1) := by decide +kernel
theorem dX12_rate_7 : decode cX12_rate 7 = .ok (.lconst 0, 1) := by decide +kernel
theorem dX12_rate_8 : decode cX12_rate 8 = .ok (.aload_n 0, 1) := by decide +kernel
theorem dX12_rate_9 : decode cX12_rate 9 = .ok (.invokevirtual 254, 3) := by decide +kernel
theorem dX12_rate_12 : decode cX12_rate 12 = .ok (.i2l, 1) := by decide +kernel
theorem dX12_rate_13 : decode cX12_rate 13 = .ok (.lconst 1, 1) := by decide +kernel
theorem dX12_rate_14 : decode cX12_rate 14 = .ok (.lsub, 1) := by decide +kernel
theorem dX12_rate_15 : decode cX12_rate 15 = .ok (.invokestatic 82, 3) := by decide +kernel
theorem dX12_rate_18 : decode cX12_rate 18 = .ok (.ifCond .eq 27, 3) := by decide +kernel
theorem dX12_rate_45 : decode cX12_rate 45 = .ok (.bipush (-2), 2) := by decide +kernel
theorem dX12_rate_47 : decode cX12_rate 47 = .ok (.ireturn, 1) := by decide +kernel
theorem dX12_stock_0 : decode cX12_stock 0 = .ok (.aload_n 0, 1) := by decide +kernel
theorem dX12_stock_1 : decode cX12_stock 1 = .ok (.iconst 0, 1) := by decide +kernel
theorem dX12_stock_2 : decode cX12_stock 2 = .ok (.putfield 77, 3) := by decide +kernel
theorem dX12_stock_5 : decode cX12_stock 5 = .ok (.aload_n 0, 1) := by decide +kernel
theorem dX12_stock_6 : decode cX12_stock 6 = .ok (.invokevirtual 251, 3) := by decide +kernel
theorem dX12_stock_9 : decode cX12_stock 9 = .ok (.ifCond .eq 15, 3) := by decide +kernel
theorem dX12_stock_24 : decode cX12_stock 24 = .ok (.bipush (-2), 2) := by decide +kernel
theorem dX12_stock_26 : decode cX12_stock 26 = .ok (.ireturn, 1) := by decide +kernel
theorem dX12_swaps_0 : decode cX12_swaps 0 = .ok (.aload_n 0, 1) := by decide +kernel
theorem dX12_swaps_1 : decode cX12_swaps 1 = .ok (.iconst 0, 1) := by decide +kernel
theorem dX12_swaps_2 : decode cX12_swaps 2 = .ok (.putfield 77, 3) := by decide +kernel
theorem dX12_swaps_5 : decode cX12_swaps 5 = .ok (.aload_n 0, 1) := by decide +kernel
theorem dX12_swaps_6 : decode cX12_swaps 6 = .ok (.iload_n 1, 1) := by decide +kernel
theorem dX12_swaps_7 : decode cX12_swaps 7 = .ok (.invokevirtual 265, 3) := by decide +kernel
theorem dX12_swaps_10 : decode cX12_swaps 10 = .ok (.ifCond .eq 24, 3) := by decide +kernel
theorem dX12_swaps_34 : decode cX12_swaps 34 = .ok (.bipush (-2), 2) := by decide +kernel
theorem dX12_swaps_36 : decode cX12_swaps 36 = .ok (.ireturn, 1) := by decide +kernel
theorem dX12_takes__0 : decode cX12_takes_ 0 = .ok (.aload_n 0, 1) := by decide +kernel
theorem dX12_takes__1 : decode cX12_takes_ 1 = .ok (.iconst 0, 1) := by decide +kernel
theorem dX12_takes__2 : decode cX12_takes_ 2 = .ok (.putfield 77, 3) := by decide +kernel
theorem dX12_takes__5 : decode cX12_takes_ 5 = .ok (.aload_n 0, 1) := by decide +kernel
theorem dX12_takes__6 : decode cX12_takes_ 6 = .ok (.iload_n 1, 1) := by decide +kernel
theorem dX12_takes__7 : decode cX12_takes_ 7 = .ok (.iload_n 2, 1) := by decide +kernel
theorem dX12_takes__8 : decode cX12_takes_ 8 = .ok (.invokevirtual 323, 3) := by decide +kernel
theorem dX12_takes__11 : decode cX12_takes_ 11 = .ok (.ifCond .ne 6, 3) := by decide +kernel
theorem dX12_takes__14 : decode cX12_takes_ 14 = .ok (.bipush (-2), 2) := by decide +kernel
theorem dX12_takes__16 : decode cX12_takes_ 16 = .ok (.ireturn, 1) := by decide +kernel
theorem dX12_undo_0 : decode cX12_undo 0 = .ok (.aload_n 0, 1) := by decide +kernel
theorem dX12_undo_1 : decode cX12_undo 1 = .ok (.iconst 0, 1) := by decide +kernel
theorem dX12_undo_2 : decode cX12_undo 2 = .ok (.putfield 77, 3) := by decide +kernel
theorem dX12_undo_5 : decode cX12_undo 5 = .ok (.aload_n 0, 1) := by decide +kernel
theorem dX12_undo_6 : decode cX12_undo 6 = .ok (.invokevirtual 251, 3) := by decide +kernel
theorem dX12_undo_9 : decode cX12_undo 9 = .ok (.ifCond .ne 6, 3) := by decide +kernel
theorem dX12_undo_12 : decode cX12_undo 12 = .ok (.bipush (-2), 2) := by decide +kernel
theorem dX12_undo_14 : decode cX12_undo 14 = .ok (.ireturn, 1) := by decide +kernel
theorem dX12_wordings_0 : decode cX12_wordings 0 = .ok (.aload_n 0, 1) := by decide +kernel
theorem dX12_wordings_1 : decode cX12_wordings 1 = .ok (.iconst 0, 1) := by decide +kernel
theorem dX12_wordings_2 : decode cX12_wordings 2 = .ok (.putfield 77, 3) := by decide +kernel
theorem dX12_wordings_5 : decode cX12_wordings 5 = .ok (.aload_n 0, 1) := by decide +kernel
theorem dX12_wordings_6 : decode cX12_wordings 6 = .ok (.iload_n 1, 1) := by decide +kernel
theorem dX12_wordings_7 : decode cX12_wordings 7 = .ok (.iload_n 2, 1) := by decide +kernel
theorem dX12_wordings_8 : decode cX12_wordings 8 = .ok (.iload_n 3, 1) := by decide +kernel
theorem dX12_wordings_9 : decode cX12_wordings 9 = .ok (.iload 4, 2) := by decide +kernel
theorem dX12_wordings_11 : decode cX12_wordings 11 = .ok (.invokevirtual 412, 3) := by decide +kernel
theorem dX12_wordings_14 : decode cX12_wordings 14 = .ok (.ifCond .ne 6, 3) := by decide +kernel
theorem dX12_wordings_17 : decode cX12_wordings 17 = .ok (.bipush (-2), 2) := by decide +kernel
theorem dX12_wordings_19 : decode cX12_wordings 19 = .ok (.ireturn, 1) := by decide +kernel
theorem mm_k2000000000 : mm_rg 2000000000 2000000000 2000000000 := ⟨by decide, by decide⟩
theorem mm_kl1 : mm_rl 1 1 1 := ⟨by decide, by decide⟩
theorem mm_kl20 : mm_rl 20 20 20 := ⟨by decide, by decide⟩
theorem mm_kl2000000000 : mm_rl 2000000000 2000000000 2000000000 := ⟨by decide, by decide⟩
theorem hd_X0_allRules : yX0_allRules.cls = RX0 ∧ yX0_allRules.cls ≠ "java/lang/invoke/MethodHandle" ∧ yX0_allRules.cls ≠ "java/lang/invoke/VarHandle" ∧ (parseMethodDescriptor yX0_allRules.desc).map (fun d => d.parameters.length) = some 0 := by decide +kernel
theorem hd_X11_rowsPresent : yX11_rowsPresent.cls = RX11 ∧ yX11_rowsPresent.cls ≠ "java/lang/invoke/MethodHandle" ∧ yX11_rowsPresent.cls ≠ "java/lang/invoke/VarHandle" ∧ (parseMethodDescriptor yX11_rowsPresent.desc).map (fun d => d.parameters.length) = some 0 := by decide +kernel
theorem hd_X12_isSent : yX12_isSent.cls = RX12 ∧ yX12_isSent.cls ≠ "java/lang/invoke/MethodHandle" ∧ yX12_isSent.cls ≠ "java/lang/invoke/VarHandle" ∧ (parseMethodDescriptor yX12_isSent.desc).map (fun d => d.parameters.length) = some 4 := by decide +kernel
theorem hs_X11_isSeed : yX11_isSeed.cls ≠ "java/lang/invoke/MethodHandle" ∧ yX11_isSeed.cls ≠ "java/lang/invoke/VarHandle" ∧ (parseMethodDescriptor yX11_isSeed.desc).map (fun d => d.parameters.length) = some 1 := by decide +kernel
theorem hs_X12_isSeed : yX12_isSeed.cls ≠ "java/lang/invoke/MethodHandle" ∧ yX12_isSeed.cls ≠ "java/lang/invoke/VarHandle" ∧ (parseMethodDescriptor yX12_isSeed.desc).map (fun d => d.parameters.length) = some 1 := by decide +kernel
theorem mm_cases10 {v : Int32} (h : mm_rg v 0 9) : v = 0 ∨ v = 1 ∨ v = 2 ∨ v = 3 ∨ v = 4 ∨ v = 5 ∨ v = 6 ∨ v = 7 ∨ v = 8 ∨ v = 9 := by
  have q : v.toInt = 0 ∨ v.toInt = 1 ∨ v.toInt = 2 ∨ v.toInt = 3 ∨ v.toInt = 4 ∨ v.toInt = 5 ∨ v.toInt = 6 ∨ v.toInt = 7 ∨ v.toInt = 8 ∨ v.toInt = 9 := by have := h.1; have := h.2; omega
  rcases q with q | q | q | q | q | q | q | q | q | q
  · exact Or.inl (mm_eq (q.trans (by decide)))
  · exact Or.inr (Or.inl (mm_eq (q.trans (by decide))))
  · exact Or.inr (Or.inr (Or.inl (mm_eq (q.trans (by decide)))))
  · exact Or.inr (Or.inr (Or.inr (Or.inl (mm_eq (q.trans (by decide))))))
  · exact Or.inr (Or.inr (Or.inr (Or.inr (Or.inl (mm_eq (q.trans (by decide)))))))
  · exact Or.inr (Or.inr (Or.inr (Or.inr (Or.inr (Or.inl (mm_eq (q.trans (by decide))))))))
  · exact Or.inr (Or.inr (Or.inr (Or.inr (Or.inr (Or.inr (Or.inl (mm_eq (q.trans (by decide)))))))))
  · exact Or.inr (Or.inr (Or.inr (Or.inr (Or.inr (Or.inr (Or.inr (Or.inl (mm_eq (q.trans (by decide))))))))))
  · exact Or.inr (Or.inr (Or.inr (Or.inr (Or.inr (Or.inr (Or.inr (Or.inr (Or.inl (mm_eq (q.trans (by decide)))))))))))
  · exact Or.inr (Or.inr (Or.inr (Or.inr (Or.inr (Or.inr (Or.inr (Or.inr (Or.inr ((mm_eq (q.trans (by decide))))))))))))
set_option maxHeartbeats 4000000 in
set_option maxRecDepth 100000 in
theorem K242_X11_wordings (l : Launch) (G : va_G) (cy : Nat → ClassId) (sz : Nat) (a_0 : Nat) (i_0 : Int32) (i_1 : Int32) (i_2 : Int32) (i_3 : Int32) (a_1 : Nat) (a_2 : Nat) (a_3 : Nat) (a_4 : Nat) (a_5 : Nat) (a_6 : Nat) (a_7 : Nat) (a_8 : Nat) (a_9 : Nat) (a_10 : Nat) (a_11 : Nat) (a_24 : Nat) (a_25 : Nat) (k_0 : Int32) (k_1 : Int32) (k_2 : Int32) (k_3 : Int32) (k_4 : Int32) (k_5 : Int32) (k_6 : Int32) (a_26 : Nat) (a_27 : Nat) (a_28 : Nat) (a_29 : Nat) (a_30 : Nat) (a_31 : Nat) (a_32 : Nat) (a_33 : Nat) (a_34 : Nat) (a_35 : Nat)   : mm_CI l yX11_wordings (mm_ws yX11_wordings cX11_wordings 5 (some .int)) ({ frames := 2, cells := 0, slots := 0, locals := 45 } : Room) G cy sz [(a_0, .inr (11, [.ref a_1, .ref a_2, .ref a_3, .ref a_4, .ref a_5, .ref a_6, .ref a_7, .ref a_8, .ref a_9, .ref a_10, .ref a_11])), (a_3, .inr (10, [.ref a_24, .ref a_25])), (a_24, .inr (0, [.int k_0, .int k_1, .int k_2, .int k_3, .int k_4, .int 0, .int k_5, .int k_6, .ref a_26, .ref a_27, .ref a_28, .ref a_29, .ref a_30, .ref a_31, .ref a_32, .ref a_33, .ref a_34, .ref a_35]))] [.ref a_0, .int i_0, .int i_1, .int i_2, .int i_3] (fun u : Unit => [(a_0, .inr (11, [.ref a_1, .ref a_2, .ref a_3, .ref a_4, .ref a_5, .ref a_6, .ref a_7, .ref a_8, .ref a_9, .ref a_10, .ref a_11])), (a_3, .inr (10, [.ref a_24, .ref a_25])), (a_24, .inr (0, [.int k_0, .int k_1, .int k_2, .int k_3, .int k_4, .int 0, .int k_5, .int k_6, .ref a_26, .ref a_27, .ref a_28, .ref a_29, .ref a_30, .ref a_31, .ref a_32, .ref a_33, .ref a_34, .ref a_35]))]) (fun (r : Int32) (u : Unit) => (-2) = r) 0 0 := by
  refine mm_begin (lv := [(0, .ref a_0), (1, .int i_0), (2, .int i_1), (3, .int i_2), (4, .int i_3)]) (by decide) (Nat.le_of_ble_eq_true rfl) rfl ?_
  intro p e s m below meth c A ls R args Q H locs hRe hQ hAe hx hb hr hlocks hml hown hnm hts hsz hA hS hP hK hD hl
  have hRf : R.frames = 2 := by rw [hRe]
  have hRl : R.locals = 45 := by rw [hRe]
  have hRc : R.cells = 0 := by rw [hRe]
  have hRs : R.slots = 0 := by rw [hRe]
  refine lv_aload_n hx hb dX11_wordings_0 rfl (lv_at hl 0 rfl) ?_
  refine lv_iload_n hx hb dX11_wordings_1 rfl (lv_at hl 1 rfl) ?_
  refine lv_iload_n hx hb dX11_wordings_2 rfl (lv_at hl 2 rfl) ?_
  refine lv_iload_n hx hb dX11_wordings_3 rfl (lv_at hl 3 rfl) ?_
  refine lv_iload hx hb dX11_wordings_4 (lv_at hl 4 rfl) ?_
  refine mm_finir (va_runV (As := [.int i_0, .int i_1, .int i_2, .int i_3]) (rest := []) ⟨hx, hb, hml, hown, hts⟩ (K235_X11_isTask l G cy H.size a_0 i_0 i_1 i_2 i_3 a_1 a_2 a_3 a_4 a_5 a_6 a_7 a_8 a_9 a_10 a_11 a_24 a_25 k_0 k_1 k_2 k_3 k_4 k_5 k_6 a_26 a_27 a_28 a_29 a_30 a_31 a_32 a_33 a_34 a_35 ) (cwV 4 hts (mm_gV mm_w1350 mm_w1351 mm_w1352 mm_w2 mm_w1353) rfl rfl rfl hd_X11_isTask ⟨by rw [hRf]; exact Nat.le_of_ble_eq_true rfl, by rw [hRl]; exact Nat.le_of_ble_eq_true rfl⟩) (mm_preV hK hP hD [0, 1, 2] rfl rfl 0 rfl rfl rfl) rfl rfl hl.1 rfl (lv_room (Nat.le_of_ble_eq_true rfl)) dX11_wordings_6 ⟨by rw [hRc]; exact Nat.le_of_ble_eq_true rfl, by rw [hRs]; exact Nat.le_of_ble_eq_true rfl⟩) hP hD hS hA [0, 1, 2] rfl (fun _ => rfl) ?_
  clear hP hD hS
  clear H locs
  intro v1 _u H locs hw hP hD hS
  subst hw
  refine lv_if_ne (tgt := 15) hx hb dX11_wordings_9 (by decide) (fun c2 => ?_) (fun c2 => ?_)
  · have q3 := mm_neL (lo := 1) (mm_ne c2) mm_k0 mm_k0 (by decide) (by decide)
    exact mm_no q3 (by decide)
  · refine lv_bipush (v := (-2)) hx hb dX11_wordings_12 (by decide) ?_
    subst hAe
    rw [hQ]
    exact W.iret (v := (-2)) hx hb hr (fun t ht hW => ⟨⟨(-2), (), rfl, rfl, by rw [ht]; exact hP, hK.warm hW, hD⟩, hS.F ht⟩) hS.2.2 dX11_wordings_14

set_option maxHeartbeats 4000000 in
set_option maxRecDepth 100000 in
theorem K243_X12_wordings (l : Launch) (G : va_G) (cy : Nat → ClassId) (sz : Nat) (a_0 : Nat) (i_0 : Int32) (i_1 : Int32) (i_2 : Int32) (i_3 : Int32) (a_1 : Nat) (a_2 : Nat) (a_3 : Nat) (a_4 : Nat) (a_5 : Nat) (k_0 : Int32) (k_1 : Int32) (k_2 : Int32) (k_3 : Int32) (k_4 : Int32) (k_5 : Int64) (k_6 : Int32) (k_7 : Int32) (k_8 : Int32) (k_9 : Int32) (a_6 : Nat) (a_7 : Nat) (a_8 : Nat) (a_9 : Nat) (a_10 : Nat) (a_11 : Nat) (a_12 : Nat) (a_13 : Nat) (a_14 : Nat) (a_15 : Nat) (a_16 : Nat) (a_17 : Nat) (a_18 : Nat) (k_10 : Int32) (k_11 : Int32) (k_12 : Int32) (k_13 : Int32) (k_14 : Int32) (k_15 : Int32) (a_19 : Nat) (k_16 : Int32) (a_20 : Nat)   : mm_CI l yX12_wordings (mm_ws yX12_wordings cX12_wordings 5 (some .int)) ({ frames := 4, cells := 0, slots := 0, locals := 92 } : Room) G cy sz [(a_0, .inr (12, [.int 0, .ref a_1, .ref a_2, .ref a_3, .ref a_4, .ref a_5, .int k_0, .int k_1, .int k_2, .int k_3, .int k_4, .long k_5, .int k_6, .int k_7, .int k_8, .int k_9, .ref a_6, .ref a_7, .ref a_8, .ref a_9, .ref a_10, .ref a_11, .ref a_12, .ref a_13, .ref a_14, .ref a_15, .ref a_16, .ref a_17, .ref a_18, .int k_10, .int k_11, .int k_12, .int k_13, .int k_14, .int k_15, .ref a_19, .int k_16, .ref a_20])), (a_7, .inl (cy 1, 30, .inl (fun _ => 0)))] [.ref a_0, .int i_0, .int i_1, .int i_2, .int i_3] (fun u : Unit => [(a_0, .inr (12, [.int 0, .ref a_1, .ref a_2, .ref a_3, .ref a_4, .ref a_5, .int k_0, .int k_1, .int k_2, .int k_3, .int k_4, .long k_5, .int k_6, .int k_7, .int k_8, .int k_9, .ref a_6, .ref a_7, .ref a_8, .ref a_9, .ref a_10, .ref a_11, .ref a_12, .ref a_13, .ref a_14, .ref a_15, .ref a_16, .ref a_17, .ref a_18, .int k_10, .int k_11, .int k_12, .int k_13, .int k_14, .int k_15, .ref a_19, .int k_16, .ref a_20])), (a_7, .inl (cy 1, 30, .inl (fun _ => 0)))]) (fun (r : Int32) (u : Unit) => (-2) = r) 0 0 := by
  refine mm_begin (lv := [(0, .ref a_0), (1, .int i_0), (2, .int i_1), (3, .int i_2), (4, .int i_3)]) (by decide) (Nat.le_of_ble_eq_true rfl) rfl ?_
  intro p e s m below meth c A ls R args Q H locs hRe hQ hAe hx hb hr hlocks hml hown hnm hts hsz hA hS hP hK hD hl
  have hRf : R.frames = 4 := by rw [hRe]
  have hRl : R.locals = 92 := by rw [hRe]
  have hRc : R.cells = 0 := by rw [hRe]
  have hRs : R.slots = 0 := by rw [hRe]
  refine lv_aload_n hx hb dX12_wordings_0 rfl (lv_at hl 0 rfl) ?_
  refine lv_iconst (v := 0) hx hb dX12_wordings_1 (by decide) ?_
  refine va_put (D := G) (ci := 12) (v := .int 0) (ty := tyX12 0) (C := RX12) (T := TX12) (N := 38) hx hb hts (mm_i inlX12) tyX12 tyX12_ok nmX12 hown hK.1 hP hD hS 0 rfl rfl 0 (by decide) (mm_h hts mm_w177) (fun _ h9 => h9) rfl (tyX12_ok 0 (by decide)) rfl rfl (Nat.le_of_ble_eq_true rfl) dX12_wordings_2 ?_
  clear hP hD hS
  clear H locs
  intro H locs (hP : va_P G vwCl [(a_0, .inr (12, [.int 0, .ref a_1, .ref a_2, .ref a_3, .ref a_4, .ref a_5, .int k_0, .int k_1, .int k_2, .int k_3, .int k_4, .long k_5, .int k_6, .int k_7, .int k_8, .int k_9, .ref a_6, .ref a_7, .ref a_8, .ref a_9, .ref a_10, .ref a_11, .ref a_12, .ref a_13, .ref a_14, .ref a_15, .ref a_16, .ref a_17, .ref a_18, .int k_10, .int k_11, .int k_12, .int k_13, .int k_14, .int k_15, .ref a_19, .int k_16, .ref a_20])), (a_7, .inl (cy 1, 30, .inl (fun _ => 0)))] H) (hD : va_D A [(a_0, .inr (12, [.int 0, .ref a_1, .ref a_2, .ref a_3, .ref a_4, .ref a_5, .int k_0, .int k_1, .int k_2, .int k_3, .int k_4, .long k_5, .int k_6, .int k_7, .int k_8, .int k_9, .ref a_6, .ref a_7, .ref a_8, .ref a_9, .ref a_10, .ref a_11, .ref a_12, .ref a_13, .ref a_14, .ref a_15, .ref a_16, .ref a_17, .ref a_18, .int k_10, .int k_11, .int k_12, .int k_13, .int k_14, .int k_15, .ref a_19, .int k_16, .ref a_20])), (a_7, .inl (cy 1, 30, .inl (fun _ => 0)))]) hS
  refine lv_aload_n hx hb dX12_wordings_5 rfl (lv_at hl 0 rfl) ?_
  refine lv_iload_n hx hb dX12_wordings_6 rfl (lv_at hl 1 rfl) ?_
  refine lv_iload_n hx hb dX12_wordings_7 rfl (lv_at hl 2 rfl) ?_
  refine lv_iload_n hx hb dX12_wordings_8 rfl (lv_at hl 3 rfl) ?_
  refine lv_iload hx hb dX12_wordings_9 (lv_at hl 4 rfl) ?_
  refine mm_finir (va_runV (As := [.int i_0, .int i_1, .int i_2, .int i_3]) (rest := []) ⟨hx, hb, hml, hown, hts⟩ (K239_X12_isWords l G cy H.size a_0 i_0 i_1 i_2 i_3 0 a_1 a_2 a_3 a_4 a_5 k_0 k_1 k_2 k_3 k_4 k_5 k_6 k_7 k_8 k_9 a_6 a_7 a_8 a_9 a_10 a_11 a_12 a_13 a_14 a_15 a_16 a_17 a_18 k_10 k_11 k_12 k_13 k_14 k_15 a_19 k_16 a_20 ) (cwV 4 hts (mm_gV mm_w1395 mm_w1396 mm_w1397 mm_w5 mm_w1398) rfl rfl rfl hd_X12_isWords ⟨by rw [hRf]; exact Nat.le_of_ble_eq_true rfl, by rw [hRl]; exact Nat.le_of_ble_eq_true rfl⟩) (mm_preV hK hP hD [0, 1] rfl rfl 0 rfl rfl rfl) rfl rfl hl.1 rfl (lv_room (Nat.le_of_ble_eq_true rfl)) dX12_wordings_11 ⟨by rw [hRc]; exact Nat.le_of_ble_eq_true rfl, by rw [hRs]; exact Nat.le_of_ble_eq_true rfl⟩) hP hD hS hA [0, 1] rfl (fun _ => rfl) ?_
  clear hP hD hS
  clear H locs
  intro v1 _u H locs hw hP hD hS
  subst hw
  refine lv_if_ne (tgt := 20) hx hb dX12_wordings_14 (by decide) (fun c2 => ?_) (fun c2 => ?_)
  · have q3 := mm_neL (lo := 1) (mm_ne c2) mm_k0 mm_k0 (by decide) (by decide)
    exact mm_no q3 (by decide)
  · refine lv_bipush (v := (-2)) hx hb dX12_wordings_17 (by decide) ?_
    subst hAe
    rw [hQ]
    exact W.iret (v := (-2)) hx hb hr (fun t ht hW => ⟨⟨(-2), (), rfl, rfl, by rw [ht]; exact hP, hK.warm hW, hD⟩, hS.F ht⟩) hS.2.2 dX12_wordings_19

set_option maxHeartbeats 4000000 in
set_option maxRecDepth 100000 in
theorem K244_X11_heirs (l : Launch) (G : va_G) (cy : Nat → ClassId) (sz : Nat) (a_0 : Nat) (i_0 : Int32) (i_1 : Int32) (a_1 : Nat) (a_2 : Nat) (a_3 : Nat) (a_4 : Nat) (a_5 : Nat) (a_6 : Nat) (a_7 : Nat) (a_8 : Nat) (a_9 : Nat) (a_10 : Nat) (a_11 : Nat) (a_24 : Nat) (a_25 : Nat) (k_0 : Int32) (k_1 : Int32) (k_2 : Int32) (k_3 : Int32) (k_4 : Int32) (k_5 : Int32) (k_6 : Int32) (a_26 : Nat) (a_27 : Nat) (a_28 : Nat) (a_29 : Nat) (a_30 : Nat) (a_31 : Nat) (a_32 : Nat) (a_33 : Nat) (a_34 : Nat) (a_35 : Nat)   : mm_CI l yX11_heirs (mm_ws yX11_heirs cX11_heirs 3 (some .int)) ({ frames := 1, cells := 0, slots := 0, locals := 21 } : Room) G cy sz [(a_0, .inr (11, [.ref a_1, .ref a_2, .ref a_3, .ref a_4, .ref a_5, .ref a_6, .ref a_7, .ref a_8, .ref a_9, .ref a_10, .ref a_11])), (a_3, .inr (10, [.ref a_24, .ref a_25])), (a_24, .inr (0, [.int k_0, .int k_1, .int k_2, .int k_3, .int k_4, .int 0, .int k_5, .int k_6, .ref a_26, .ref a_27, .ref a_28, .ref a_29, .ref a_30, .ref a_31, .ref a_32, .ref a_33, .ref a_34, .ref a_35]))] [.ref a_0, .int i_0, .int i_1] (fun u : Unit => [(a_0, .inr (11, [.ref a_1, .ref a_2, .ref a_3, .ref a_4, .ref a_5, .ref a_6, .ref a_7, .ref a_8, .ref a_9, .ref a_10, .ref a_11])), (a_3, .inr (10, [.ref a_24, .ref a_25])), (a_24, .inr (0, [.int k_0, .int k_1, .int k_2, .int k_3, .int k_4, .int 0, .int k_5, .int k_6, .ref a_26, .ref a_27, .ref a_28, .ref a_29, .ref a_30, .ref a_31, .ref a_32, .ref a_33, .ref a_34, .ref a_35]))]) (fun (r : Int32) (u : Unit) => (-100000) = r) 0 0 := by
  refine mm_begin (lv := [(0, .ref a_0), (1, .int i_0), (2, .int i_1)]) (by decide) (Nat.le_of_ble_eq_true rfl) rfl ?_
  intro p e s m below meth c A ls R args Q H locs hRe hQ hAe hx hb hr hlocks hml hown hnm hts hsz hA hS hP hK hD hl
  have hRf : R.frames = 1 := by rw [hRe]
  have hRl : R.locals = 21 := by rw [hRe]
  have hRc : R.cells = 0 := by rw [hRe]
  have hRs : R.slots = 0 := by rw [hRe]
  refine lv_aload_n hx hb dX11_heirs_0 rfl (lv_at hl 0 rfl) ?_
  refine lv_iload_n hx hb dX11_heirs_1 rfl (lv_at hl 1 rfl) ?_
  refine mm_finir (va_runV (As := [.int i_0]) (rest := []) ⟨hx, hb, hml, hown, hts⟩ (K123_X11_isLand l G cy H.size a_0 i_0 a_1 a_2 a_3 a_4 a_5 a_6 a_7 a_8 a_9 a_10 a_11 a_24 a_25 k_0 k_1 k_2 k_3 k_4 k_5 k_6 a_26 a_27 a_28 a_29 a_30 a_31 a_32 a_33 a_34 a_35 ) (cwV 1 hts (mm_gV mm_w626 mm_w627 mm_w628 mm_w2 mm_w629) rfl rfl rfl hd_X11_isLand ⟨by rw [hRf]; exact Nat.le_of_ble_eq_true rfl, by rw [hRl]; exact Nat.le_of_ble_eq_true rfl⟩) (mm_preV hK hP hD [0, 1, 2] rfl rfl 0 rfl rfl rfl) rfl rfl hl.1 rfl (lv_room (Nat.le_of_ble_eq_true rfl)) dX11_heirs_2 ⟨by rw [hRc]; exact Nat.le_of_ble_eq_true rfl, by rw [hRs]; exact Nat.le_of_ble_eq_true rfl⟩) hP hD hS hA [0, 1, 2] rfl (fun _ => rfl) ?_
  clear hP hD hS
  clear H locs
  intro v1 _u H locs hw hP hD hS
  subst hw
  refine lv_if_eq (tgt := 15) hx hb dX11_heirs_5 (by decide) (fun c2 => ?_) (fun c2 => ?_)
  · refine lv_ldcw (v := (-100000)) hx hb hown (mm_h hts mm_w1434) dX11_heirs_15 ?_
    subst hAe
    rw [hQ]
    exact W.iret (v := (-100000)) hx hb hr (fun t ht hW => ⟨⟨(-100000), (), rfl, rfl, by rw [ht]; exact hP, hK.warm hW, hD⟩, hS.F ht⟩) hS.2.2 dX11_heirs_18
  · have q3 := mm_neL (lo := 1) (mm_ne c2) mm_k0 mm_k0 (by decide) (by decide)
    exact mm_no q3 (by decide)

set_option maxHeartbeats 4000000 in
set_option maxRecDepth 100000 in
theorem K245_X12_heirs (l : Launch) (G : va_G) (cy : Nat → ClassId) (sz : Nat) (a_0 : Nat) (i_0 : Int32) (i_1 : Int32) (a_1 : Nat) (a_2 : Nat) (a_3 : Nat) (a_4 : Nat) (a_5 : Nat) (k_0 : Int32) (k_1 : Int32) (k_2 : Int32) (k_3 : Int32) (k_4 : Int32) (k_5 : Int64) (k_6 : Int32) (k_7 : Int32) (k_8 : Int32) (k_9 : Int32) (a_6 : Nat) (a_7 : Nat) (a_8 : Nat) (a_9 : Nat) (a_10 : Nat) (a_11 : Nat) (a_12 : Nat) (a_13 : Nat) (a_14 : Nat) (a_15 : Nat) (a_16 : Nat) (a_17 : Nat) (a_18 : Nat) (k_10 : Int32) (k_11 : Int32) (k_12 : Int32) (k_13 : Int32) (k_14 : Int32) (k_15 : Int32) (a_19 : Nat) (k_16 : Int32) (a_20 : Nat)   : mm_CI l yX12_heirs (mm_ws yX12_heirs cX12_heirs 3 (some .int)) ({ frames := 3, cells := 0, slots := 0, locals := 68 } : Room) G cy sz [(a_0, .inr (12, [.int 0, .ref a_1, .ref a_2, .ref a_3, .ref a_4, .ref a_5, .int k_0, .int k_1, .int k_2, .int k_3, .int k_4, .long k_5, .int k_6, .int k_7, .int k_8, .int k_9, .ref a_6, .ref a_7, .ref a_8, .ref a_9, .ref a_10, .ref a_11, .ref a_12, .ref a_13, .ref a_14, .ref a_15, .ref a_16, .ref a_17, .ref a_18, .int k_10, .int k_11, .int k_12, .int k_13, .int k_14, .int k_15, .ref a_19, .int k_16, .ref a_20])), (a_7, .inl (cy 1, 30, .inl (fun _ => 0)))] [.ref a_0, .int i_0, .int i_1] (fun u : Unit => [(a_0, .inr (12, [.int 0, .ref a_1, .ref a_2, .ref a_3, .ref a_4, .ref a_5, .int k_0, .int k_1, .int k_2, .int k_3, .int k_4, .long k_5, .int k_6, .int k_7, .int k_8, .int k_9, .ref a_6, .ref a_7, .ref a_8, .ref a_9, .ref a_10, .ref a_11, .ref a_12, .ref a_13, .ref a_14, .ref a_15, .ref a_16, .ref a_17, .ref a_18, .int k_10, .int k_11, .int k_12, .int k_13, .int k_14, .int k_15, .ref a_19, .int k_16, .ref a_20])), (a_7, .inl (cy 1, 30, .inl (fun _ => 0)))]) (fun (r : Int32) (u : Unit) => (-100000) = r) 0 0 := by
  refine mm_begin (lv := [(0, .ref a_0), (1, .int i_0), (2, .int i_1)]) (by decide) (Nat.le_of_ble_eq_true rfl) rfl ?_
  intro p e s m below meth c A ls R args Q H locs hRe hQ hAe hx hb hr hlocks hml hown hnm hts hsz hA hS hP hK hD hl
  have hRf : R.frames = 3 := by rw [hRe]
  have hRl : R.locals = 68 := by rw [hRe]
  have hRc : R.cells = 0 := by rw [hRe]
  have hRs : R.slots = 0 := by rw [hRe]
  refine lv_aload_n hx hb dX12_heirs_0 rfl (lv_at hl 0 rfl) ?_
  refine lv_iconst (v := 0) hx hb dX12_heirs_1 (by decide) ?_
  refine va_put (D := G) (ci := 12) (v := .int 0) (ty := tyX12 0) (C := RX12) (T := TX12) (N := 38) hx hb hts (mm_i inlX12) tyX12 tyX12_ok nmX12 hown hK.1 hP hD hS 0 rfl rfl 0 (by decide) (mm_h hts mm_w177) (fun _ h9 => h9) rfl (tyX12_ok 0 (by decide)) rfl rfl (Nat.le_of_ble_eq_true rfl) dX12_heirs_2 ?_
  clear hP hD hS
  clear H locs
  intro H locs (hP : va_P G vwCl [(a_0, .inr (12, [.int 0, .ref a_1, .ref a_2, .ref a_3, .ref a_4, .ref a_5, .int k_0, .int k_1, .int k_2, .int k_3, .int k_4, .long k_5, .int k_6, .int k_7, .int k_8, .int k_9, .ref a_6, .ref a_7, .ref a_8, .ref a_9, .ref a_10, .ref a_11, .ref a_12, .ref a_13, .ref a_14, .ref a_15, .ref a_16, .ref a_17, .ref a_18, .int k_10, .int k_11, .int k_12, .int k_13, .int k_14, .int k_15, .ref a_19, .int k_16, .ref a_20])), (a_7, .inl (cy 1, 30, .inl (fun _ => 0)))] H) (hD : va_D A [(a_0, .inr (12, [.int 0, .ref a_1, .ref a_2, .ref a_3, .ref a_4, .ref a_5, .int k_0, .int k_1, .int k_2, .int k_3, .int k_4, .long k_5, .int k_6, .int k_7, .int k_8, .int k_9, .ref a_6, .ref a_7, .ref a_8, .ref a_9, .ref a_10, .ref a_11, .ref a_12, .ref a_13, .ref a_14, .ref a_15, .ref a_16, .ref a_17, .ref a_18, .int k_10, .int k_11, .int k_12, .int k_13, .int k_14, .int k_15, .ref a_19, .int k_16, .ref a_20])), (a_7, .inl (cy 1, 30, .inl (fun _ => 0)))]) hS
  refine lv_aload_n hx hb dX12_heirs_5 rfl (lv_at hl 0 rfl) ?_
  refine lv_iload_n hx hb dX12_heirs_6 rfl (lv_at hl 1 rfl) ?_
  refine lv_iload_n hx hb dX12_heirs_7 rfl (lv_at hl 2 rfl) ?_
  refine mm_finir (va_runV (As := [.int i_0, .int i_1]) (rest := []) ⟨hx, hb, hml, hown, hts⟩ (K131_X12_isThen l G cy H.size a_0 i_0 i_1 0 a_1 a_2 a_3 a_4 a_5 k_0 k_1 k_2 k_3 k_4 k_5 k_6 k_7 k_8 k_9 a_6 a_7 a_8 a_9 a_10 a_11 a_12 a_13 a_14 a_15 a_16 a_17 a_18 k_10 k_11 k_12 k_13 k_14 k_15 a_19 k_16 a_20 ) (cwV 2 hts (mm_gV mm_w678 mm_w679 mm_w680 mm_w5 mm_w681) rfl rfl rfl hd_X12_isThen ⟨by rw [hRf]; exact Nat.le_of_ble_eq_true rfl, by rw [hRl]; exact Nat.le_of_ble_eq_true rfl⟩) (mm_preV hK hP hD [0, 1] rfl rfl 0 rfl rfl rfl) rfl rfl hl.1 rfl (lv_room (Nat.le_of_ble_eq_true rfl)) dX12_heirs_8 ⟨by rw [hRc]; exact Nat.le_of_ble_eq_true rfl, by rw [hRs]; exact Nat.le_of_ble_eq_true rfl⟩) hP hD hS hA [0, 1] rfl (fun _ => rfl) ?_
  clear hP hD hS
  clear H locs
  intro v1 _u H locs hw hP hD hS
  subst hw
  refine lv_if_ne (tgt := 18) hx hb dX12_heirs_11 (by decide) (fun c2 => ?_) (fun c2 => ?_)
  · have q3 := mm_neL (lo := 1) (mm_ne c2) mm_k0 mm_k0 (by decide) (by decide)
    exact mm_no q3 (by decide)
  · refine lv_ldcw (v := (-100000)) hx hb hown (mm_h hts mm_w1455) dX12_heirs_14 ?_
    subst hAe
    rw [hQ]
    exact W.iret (v := (-100000)) hx hb hr (fun t ht hW => ⟨⟨(-100000), (), rfl, rfl, by rw [ht]; exact hP, hK.warm hW, hD⟩, hS.F ht⟩) hS.2.2 dX12_heirs_17

set_option maxHeartbeats 4000000 in
set_option maxRecDepth 100000 in
theorem K246_X11_takes (l : Launch) (G : va_G) (cy : Nat → ClassId) (sz : Nat) (a_0 : Nat) (i_0 : Int32) (i_1 : Int32) (a_1 : Nat) (a_2 : Nat) (a_3 : Nat) (a_4 : Nat) (a_5 : Nat) (a_6 : Nat) (a_7 : Nat) (a_8 : Nat) (a_9 : Nat) (a_10 : Nat) (a_11 : Nat) (a_24 : Nat) (a_25 : Nat) (k_0 : Int32) (k_1 : Int32) (k_2 : Int32) (k_3 : Int32) (k_4 : Int32) (k_5 : Int32) (k_6 : Int32) (a_26 : Nat) (a_27 : Nat) (a_28 : Nat) (a_29 : Nat) (a_30 : Nat) (a_31 : Nat) (a_32 : Nat) (a_33 : Nat) (a_34 : Nat) (a_35 : Nat)   : mm_CI l yX11_takes (mm_ws yX11_takes cX11_takes 3 (some .int)) ({ frames := 1, cells := 0, slots := 0, locals := 21 } : Room) G cy sz [(a_0, .inr (11, [.ref a_1, .ref a_2, .ref a_3, .ref a_4, .ref a_5, .ref a_6, .ref a_7, .ref a_8, .ref a_9, .ref a_10, .ref a_11])), (a_3, .inr (10, [.ref a_24, .ref a_25])), (a_24, .inr (0, [.int k_0, .int k_1, .int k_2, .int k_3, .int k_4, .int 0, .int k_5, .int k_6, .ref a_26, .ref a_27, .ref a_28, .ref a_29, .ref a_30, .ref a_31, .ref a_32, .ref a_33, .ref a_34, .ref a_35]))] [.ref a_0, .int i_0, .int i_1] (fun u : Unit => [(a_0, .inr (11, [.ref a_1, .ref a_2, .ref a_3, .ref a_4, .ref a_5, .ref a_6, .ref a_7, .ref a_8, .ref a_9, .ref a_10, .ref a_11])), (a_3, .inr (10, [.ref a_24, .ref a_25])), (a_24, .inr (0, [.int k_0, .int k_1, .int k_2, .int k_3, .int k_4, .int 0, .int k_5, .int k_6, .ref a_26, .ref a_27, .ref a_28, .ref a_29, .ref a_30, .ref a_31, .ref a_32, .ref a_33, .ref a_34, .ref a_35]))]) (fun (r : Int32) (u : Unit) => (-2) = r) 0 0 := by
  refine mm_begin (lv := [(0, .ref a_0), (1, .int i_0), (2, .int i_1)]) (by decide) (Nat.le_of_ble_eq_true rfl) rfl ?_
  intro p e s m below meth c A ls R args Q H locs hRe hQ hAe hx hb hr hlocks hml hown hnm hts hsz hA hS hP hK hD hl
  have hRf : R.frames = 1 := by rw [hRe]
  have hRl : R.locals = 21 := by rw [hRe]
  have hRc : R.cells = 0 := by rw [hRe]
  have hRs : R.slots = 0 := by rw [hRe]
  refine lv_aload_n hx hb dX11_takes_0 rfl (lv_at hl 0 rfl) ?_
  refine lv_iload_n hx hb dX11_takes_1 rfl (lv_at hl 1 rfl) ?_
  refine mm_finir (va_runV (As := [.int i_0]) (rest := []) ⟨hx, hb, hml, hown, hts⟩ (K123_X11_isLand l G cy H.size a_0 i_0 a_1 a_2 a_3 a_4 a_5 a_6 a_7 a_8 a_9 a_10 a_11 a_24 a_25 k_0 k_1 k_2 k_3 k_4 k_5 k_6 a_26 a_27 a_28 a_29 a_30 a_31 a_32 a_33 a_34 a_35 ) (cwV 1 hts (mm_gV mm_w626 mm_w627 mm_w628 mm_w2 mm_w629) rfl rfl rfl hd_X11_isLand ⟨by rw [hRf]; exact Nat.le_of_ble_eq_true rfl, by rw [hRl]; exact Nat.le_of_ble_eq_true rfl⟩) (mm_preV hK hP hD [0, 1, 2] rfl rfl 0 rfl rfl rfl) rfl rfl hl.1 rfl (lv_room (Nat.le_of_ble_eq_true rfl)) dX11_takes_2 ⟨by rw [hRc]; exact Nat.le_of_ble_eq_true rfl, by rw [hRs]; exact Nat.le_of_ble_eq_true rfl⟩) hP hD hS hA [0, 1, 2] rfl (fun _ => rfl) ?_
  clear hP hD hS
  clear H locs
  intro v1 _u H locs hw hP hD hS
  subst hw
  refine lv_if_eq (tgt := 15) hx hb dX11_takes_5 (by decide) (fun c2 => ?_) (fun c2 => ?_)
  · refine lv_bipush (v := (-2)) hx hb dX11_takes_15 (by decide) ?_
    subst hAe
    rw [hQ]
    exact W.iret (v := (-2)) hx hb hr (fun t ht hW => ⟨⟨(-2), (), rfl, rfl, by rw [ht]; exact hP, hK.warm hW, hD⟩, hS.F ht⟩) hS.2.2 dX11_takes_17
  · have q3 := mm_neL (lo := 1) (mm_ne c2) mm_k0 mm_k0 (by decide) (by decide)
    exact mm_no q3 (by decide)

set_option maxHeartbeats 4000000 in
set_option maxRecDepth 100000 in
theorem K247_X12_takes_ (l : Launch) (G : va_G) (cy : Nat → ClassId) (sz : Nat) (a_0 : Nat) (i_0 : Int32) (i_1 : Int32) (a_1 : Nat) (a_2 : Nat) (a_3 : Nat) (a_4 : Nat) (a_5 : Nat) (k_0 : Int32) (k_1 : Int32) (k_2 : Int32) (k_3 : Int32) (k_4 : Int32) (k_5 : Int64) (k_6 : Int32) (k_7 : Int32) (k_8 : Int32) (k_9 : Int32) (a_6 : Nat) (a_7 : Nat) (a_8 : Nat) (a_9 : Nat) (a_10 : Nat) (a_11 : Nat) (a_12 : Nat) (a_13 : Nat) (a_14 : Nat) (a_15 : Nat) (a_16 : Nat) (a_17 : Nat) (a_18 : Nat) (k_10 : Int32) (k_11 : Int32) (k_12 : Int32) (k_13 : Int32) (k_14 : Int32) (k_15 : Int32) (a_19 : Nat) (k_16 : Int32) (a_20 : Nat)   : mm_CI l yX12_takes_ (mm_ws yX12_takes_ cX12_takes_ 6 (some .int)) ({ frames := 3, cells := 0, slots := 0, locals := 68 } : Room) G cy sz [(a_0, .inr (12, [.int 0, .ref a_1, .ref a_2, .ref a_3, .ref a_4, .ref a_5, .int k_0, .int k_1, .int k_2, .int k_3, .int k_4, .long k_5, .int k_6, .int k_7, .int k_8, .int k_9, .ref a_6, .ref a_7, .ref a_8, .ref a_9, .ref a_10, .ref a_11, .ref a_12, .ref a_13, .ref a_14, .ref a_15, .ref a_16, .ref a_17, .ref a_18, .int k_10, .int k_11, .int k_12, .int k_13, .int k_14, .int k_15, .ref a_19, .int k_16, .ref a_20])), (a_7, .inl (cy 1, 30, .inl (fun _ => 0)))] [.ref a_0, .int i_0, .int i_1] (fun u : Unit => [(a_0, .inr (12, [.int 0, .ref a_1, .ref a_2, .ref a_3, .ref a_4, .ref a_5, .int k_0, .int k_1, .int k_2, .int k_3, .int k_4, .long k_5, .int k_6, .int k_7, .int k_8, .int k_9, .ref a_6, .ref a_7, .ref a_8, .ref a_9, .ref a_10, .ref a_11, .ref a_12, .ref a_13, .ref a_14, .ref a_15, .ref a_16, .ref a_17, .ref a_18, .int k_10, .int k_11, .int k_12, .int k_13, .int k_14, .int k_15, .ref a_19, .int k_16, .ref a_20])), (a_7, .inl (cy 1, 30, .inl (fun _ => 0)))]) (fun (r : Int32) (u : Unit) => (-2) = r) 0 0 := by
  refine mm_begin (lv := [(0, .ref a_0), (1, .int i_0), (2, .int i_1)]) (by decide) (Nat.le_of_ble_eq_true rfl) rfl ?_
  intro p e s m below meth c A ls R args Q H locs hRe hQ hAe hx hb hr hlocks hml hown hnm hts hsz hA hS hP hK hD hl
  have hRf : R.frames = 3 := by rw [hRe]
  have hRl : R.locals = 68 := by rw [hRe]
  have hRc : R.cells = 0 := by rw [hRe]
  have hRs : R.slots = 0 := by rw [hRe]
  refine lv_aload_n hx hb dX12_takes__0 rfl (lv_at hl 0 rfl) ?_
  refine lv_iconst (v := 0) hx hb dX12_takes__1 (by decide) ?_
  refine va_put (D := G) (ci := 12) (v := .int 0) (ty := tyX12 0) (C := RX12) (T := TX12) (N := 38) hx hb hts (mm_i inlX12) tyX12 tyX12_ok nmX12 hown hK.1 hP hD hS 0 rfl rfl 0 (by decide) (mm_h hts mm_w177) (fun _ h9 => h9) rfl (tyX12_ok 0 (by decide)) rfl rfl (Nat.le_of_ble_eq_true rfl) dX12_takes__2 ?_
  clear hP hD hS
  clear H locs
  intro H locs (hP : va_P G vwCl [(a_0, .inr (12, [.int 0, .ref a_1, .ref a_2, .ref a_3, .ref a_4, .ref a_5, .int k_0, .int k_1, .int k_2, .int k_3, .int k_4, .long k_5, .int k_6, .int k_7, .int k_8, .int k_9, .ref a_6, .ref a_7, .ref a_8, .ref a_9, .ref a_10, .ref a_11, .ref a_12, .ref a_13, .ref a_14, .ref a_15, .ref a_16, .ref a_17, .ref a_18, .int k_10, .int k_11, .int k_12, .int k_13, .int k_14, .int k_15, .ref a_19, .int k_16, .ref a_20])), (a_7, .inl (cy 1, 30, .inl (fun _ => 0)))] H) (hD : va_D A [(a_0, .inr (12, [.int 0, .ref a_1, .ref a_2, .ref a_3, .ref a_4, .ref a_5, .int k_0, .int k_1, .int k_2, .int k_3, .int k_4, .long k_5, .int k_6, .int k_7, .int k_8, .int k_9, .ref a_6, .ref a_7, .ref a_8, .ref a_9, .ref a_10, .ref a_11, .ref a_12, .ref a_13, .ref a_14, .ref a_15, .ref a_16, .ref a_17, .ref a_18, .int k_10, .int k_11, .int k_12, .int k_13, .int k_14, .int k_15, .ref a_19, .int k_16, .ref a_20])), (a_7, .inl (cy 1, 30, .inl (fun _ => 0)))]) hS
  refine lv_aload_n hx hb dX12_takes__5 rfl (lv_at hl 0 rfl) ?_
  refine lv_iload_n hx hb dX12_takes__6 rfl (lv_at hl 1 rfl) ?_
  refine lv_iload_n hx hb dX12_takes__7 rfl (lv_at hl 2 rfl) ?_
  refine mm_finir (va_runV (As := [.int i_0, .int i_1]) (rest := []) ⟨hx, hb, hml, hown, hts⟩ (K131_X12_isThen l G cy H.size a_0 i_0 i_1 0 a_1 a_2 a_3 a_4 a_5 k_0 k_1 k_2 k_3 k_4 k_5 k_6 k_7 k_8 k_9 a_6 a_7 a_8 a_9 a_10 a_11 a_12 a_13 a_14 a_15 a_16 a_17 a_18 k_10 k_11 k_12 k_13 k_14 k_15 a_19 k_16 a_20 ) (cwV 2 hts (mm_gV mm_w678 mm_w679 mm_w680 mm_w5 mm_w681) rfl rfl rfl hd_X12_isThen ⟨by rw [hRf]; exact Nat.le_of_ble_eq_true rfl, by rw [hRl]; exact Nat.le_of_ble_eq_true rfl⟩) (mm_preV hK hP hD [0, 1] rfl rfl 0 rfl rfl rfl) rfl rfl hl.1 rfl (lv_room (Nat.le_of_ble_eq_true rfl)) dX12_takes__8 ⟨by rw [hRc]; exact Nat.le_of_ble_eq_true rfl, by rw [hRs]; exact Nat.le_of_ble_eq_true rfl⟩) hP hD hS hA [0, 1] rfl (fun _ => rfl) ?_
  clear hP hD hS
  clear H locs
  intro v1 _u H locs hw hP hD hS
  subst hw
  refine lv_if_ne (tgt := 17) hx hb dX12_takes__11 (by decide) (fun c2 => ?_) (fun c2 => ?_)
  · have q3 := mm_neL (lo := 1) (mm_ne c2) mm_k0 mm_k0 (by decide) (by decide)
    exact mm_no q3 (by decide)
  · refine lv_bipush (v := (-2)) hx hb dX12_takes__14 (by decide) ?_
    subst hAe
    rw [hQ]
    exact W.iret (v := (-2)) hx hb hr (fun t ht hW => ⟨⟨(-2), (), rfl, rfl, by rw [ht]; exact hP, hK.warm hW, hD⟩, hS.F ht⟩) hS.2.2 dX12_takes__16

set_option maxHeartbeats 4000000 in
set_option maxRecDepth 100000 in
theorem K248_X11_greedy (l : Launch) (G : va_G) (cy : Nat → ClassId) (sz : Nat) (a_0 : Nat) (i_0 : Int32) (i_1 : Int32) (a_1 : Nat) (a_2 : Nat) (a_3 : Nat) (a_4 : Nat) (a_5 : Nat) (a_6 : Nat) (a_7 : Nat) (a_8 : Nat) (a_9 : Nat) (a_10 : Nat) (a_11 : Nat) (a_24 : Nat) (a_25 : Nat) (k_0 : Int32) (k_1 : Int32) (k_2 : Int32) (k_3 : Int32) (k_4 : Int32) (k_5 : Int32) (k_6 : Int32) (a_26 : Nat) (a_27 : Nat) (a_28 : Nat) (a_29 : Nat) (a_30 : Nat) (a_31 : Nat) (a_32 : Nat) (a_33 : Nat) (a_34 : Nat) (a_35 : Nat)   : mm_CI l yX11_greedy (mm_ws yX11_greedy cX11_greedy 3 (some .int)) ({ frames := 1, cells := 0, slots := 0, locals := 21 } : Room) G cy sz [(a_0, .inr (11, [.ref a_1, .ref a_2, .ref a_3, .ref a_4, .ref a_5, .ref a_6, .ref a_7, .ref a_8, .ref a_9, .ref a_10, .ref a_11])), (a_3, .inr (10, [.ref a_24, .ref a_25])), (a_24, .inr (0, [.int k_0, .int k_1, .int k_2, .int k_3, .int k_4, .int 0, .int k_5, .int k_6, .ref a_26, .ref a_27, .ref a_28, .ref a_29, .ref a_30, .ref a_31, .ref a_32, .ref a_33, .ref a_34, .ref a_35]))] [.ref a_0, .int i_0, .int i_1] (fun u : Unit => [(a_0, .inr (11, [.ref a_1, .ref a_2, .ref a_3, .ref a_4, .ref a_5, .ref a_6, .ref a_7, .ref a_8, .ref a_9, .ref a_10, .ref a_11])), (a_3, .inr (10, [.ref a_24, .ref a_25])), (a_24, .inr (0, [.int k_0, .int k_1, .int k_2, .int k_3, .int k_4, .int 0, .int k_5, .int k_6, .ref a_26, .ref a_27, .ref a_28, .ref a_29, .ref a_30, .ref a_31, .ref a_32, .ref a_33, .ref a_34, .ref a_35]))]) (fun (r : Int32) (u : Unit) => (-100000) = r) 0 0 := by
  refine mm_begin (lv := [(0, .ref a_0), (1, .int i_0), (2, .int i_1)]) (by decide) (Nat.le_of_ble_eq_true rfl) rfl ?_
  intro p e s m below meth c A ls R args Q H locs hRe hQ hAe hx hb hr hlocks hml hown hnm hts hsz hA hS hP hK hD hl
  have hRf : R.frames = 1 := by rw [hRe]
  have hRl : R.locals = 21 := by rw [hRe]
  have hRc : R.cells = 0 := by rw [hRe]
  have hRs : R.slots = 0 := by rw [hRe]
  refine lv_aload_n hx hb dX11_greedy_0 rfl (lv_at hl 0 rfl) ?_
  refine lv_iload_n hx hb dX11_greedy_1 rfl (lv_at hl 1 rfl) ?_
  refine mm_finir (va_runV (As := [.int i_0]) (rest := []) ⟨hx, hb, hml, hown, hts⟩ (K123_X11_isLand l G cy H.size a_0 i_0 a_1 a_2 a_3 a_4 a_5 a_6 a_7 a_8 a_9 a_10 a_11 a_24 a_25 k_0 k_1 k_2 k_3 k_4 k_5 k_6 a_26 a_27 a_28 a_29 a_30 a_31 a_32 a_33 a_34 a_35 ) (cwV 1 hts (mm_gV mm_w626 mm_w627 mm_w628 mm_w2 mm_w629) rfl rfl rfl hd_X11_isLand ⟨by rw [hRf]; exact Nat.le_of_ble_eq_true rfl, by rw [hRl]; exact Nat.le_of_ble_eq_true rfl⟩) (mm_preV hK hP hD [0, 1, 2] rfl rfl 0 rfl rfl rfl) rfl rfl hl.1 rfl (lv_room (Nat.le_of_ble_eq_true rfl)) dX11_greedy_2 ⟨by rw [hRc]; exact Nat.le_of_ble_eq_true rfl, by rw [hRs]; exact Nat.le_of_ble_eq_true rfl⟩) hP hD hS hA [0, 1, 2] rfl (fun _ => rfl) ?_
  clear hP hD hS
  clear H locs
  intro v1 _u H locs hw hP hD hS
  subst hw
  refine lv_if_eq (tgt := 15) hx hb dX11_greedy_5 (by decide) (fun c2 => ?_) (fun c2 => ?_)
  · refine lv_ldcw (v := (-100000)) hx hb hown (mm_h hts mm_w1434) dX11_greedy_15 ?_
    subst hAe
    rw [hQ]
    exact W.iret (v := (-100000)) hx hb hr (fun t ht hW => ⟨⟨(-100000), (), rfl, rfl, by rw [ht]; exact hP, hK.warm hW, hD⟩, hS.F ht⟩) hS.2.2 dX11_greedy_18
  · have q3 := mm_neL (lo := 1) (mm_ne c2) mm_k0 mm_k0 (by decide) (by decide)
    exact mm_no q3 (by decide)

set_option maxHeartbeats 4000000 in
set_option maxRecDepth 100000 in
theorem K249_X12_greedy (l : Launch) (G : va_G) (cy : Nat → ClassId) (sz : Nat) (a_0 : Nat) (i_0 : Int32) (i_1 : Int32) (a_1 : Nat) (a_2 : Nat) (a_3 : Nat) (a_4 : Nat) (a_5 : Nat) (k_0 : Int32) (k_1 : Int32) (k_2 : Int32) (k_3 : Int32) (k_4 : Int32) (k_5 : Int64) (k_6 : Int32) (k_7 : Int32) (k_8 : Int32) (k_9 : Int32) (a_6 : Nat) (a_7 : Nat) (a_8 : Nat) (a_9 : Nat) (a_10 : Nat) (a_11 : Nat) (a_12 : Nat) (a_13 : Nat) (a_14 : Nat) (a_15 : Nat) (a_16 : Nat) (a_17 : Nat) (a_18 : Nat) (k_10 : Int32) (k_11 : Int32) (k_12 : Int32) (k_13 : Int32) (k_14 : Int32) (k_15 : Int32) (a_19 : Nat) (k_16 : Int32) (a_20 : Nat)   : mm_CI l yX12_greedy (mm_ws yX12_greedy cX12_greedy 9 (some .int)) ({ frames := 3, cells := 0, slots := 0, locals := 68 } : Room) G cy sz [(a_0, .inr (12, [.int 0, .ref a_1, .ref a_2, .ref a_3, .ref a_4, .ref a_5, .int k_0, .int k_1, .int k_2, .int k_3, .int k_4, .long k_5, .int k_6, .int k_7, .int k_8, .int k_9, .ref a_6, .ref a_7, .ref a_8, .ref a_9, .ref a_10, .ref a_11, .ref a_12, .ref a_13, .ref a_14, .ref a_15, .ref a_16, .ref a_17, .ref a_18, .int k_10, .int k_11, .int k_12, .int k_13, .int k_14, .int k_15, .ref a_19, .int k_16, .ref a_20])), (a_7, .inl (cy 1, 30, .inl (fun _ => 0)))] [.ref a_0, .int i_0, .int i_1] (fun u : Unit => [(a_0, .inr (12, [.int 0, .ref a_1, .ref a_2, .ref a_3, .ref a_4, .ref a_5, .int k_0, .int k_1, .int k_2, .int k_3, .int k_4, .long k_5, .int k_6, .int k_7, .int k_8, .int k_9, .ref a_6, .ref a_7, .ref a_8, .ref a_9, .ref a_10, .ref a_11, .ref a_12, .ref a_13, .ref a_14, .ref a_15, .ref a_16, .ref a_17, .ref a_18, .int k_10, .int k_11, .int k_12, .int k_13, .int k_14, .int k_15, .ref a_19, .int k_16, .ref a_20])), (a_7, .inl (cy 1, 30, .inl (fun _ => 0)))]) (fun (r : Int32) (u : Unit) => (-100000) = r) 0 0 := by
  refine mm_begin (lv := [(0, .ref a_0), (1, .int i_0), (2, .int i_1)]) (by decide) (Nat.le_of_ble_eq_true rfl) rfl ?_
  intro p e s m below meth c A ls R args Q H locs hRe hQ hAe hx hb hr hlocks hml hown hnm hts hsz hA hS hP hK hD hl
  have hRf : R.frames = 3 := by rw [hRe]
  have hRl : R.locals = 68 := by rw [hRe]
  have hRc : R.cells = 0 := by rw [hRe]
  have hRs : R.slots = 0 := by rw [hRe]
  refine lv_aload_n hx hb dX12_greedy_0 rfl (lv_at hl 0 rfl) ?_
  refine lv_iconst (v := 0) hx hb dX12_greedy_1 (by decide) ?_
  refine va_put (D := G) (ci := 12) (v := .int 0) (ty := tyX12 0) (C := RX12) (T := TX12) (N := 38) hx hb hts (mm_i inlX12) tyX12 tyX12_ok nmX12 hown hK.1 hP hD hS 0 rfl rfl 0 (by decide) (mm_h hts mm_w177) (fun _ h9 => h9) rfl (tyX12_ok 0 (by decide)) rfl rfl (Nat.le_of_ble_eq_true rfl) dX12_greedy_2 ?_
  clear hP hD hS
  clear H locs
  intro H locs (hP : va_P G vwCl [(a_0, .inr (12, [.int 0, .ref a_1, .ref a_2, .ref a_3, .ref a_4, .ref a_5, .int k_0, .int k_1, .int k_2, .int k_3, .int k_4, .long k_5, .int k_6, .int k_7, .int k_8, .int k_9, .ref a_6, .ref a_7, .ref a_8, .ref a_9, .ref a_10, .ref a_11, .ref a_12, .ref a_13, .ref a_14, .ref a_15, .ref a_16, .ref a_17, .ref a_18, .int k_10, .int k_11, .int k_12, .int k_13, .int k_14, .int k_15, .ref a_19, .int k_16, .ref a_20])), (a_7, .inl (cy 1, 30, .inl (fun _ => 0)))] H) (hD : va_D A [(a_0, .inr (12, [.int 0, .ref a_1, .ref a_2, .ref a_3, .ref a_4, .ref a_5, .int k_0, .int k_1, .int k_2, .int k_3, .int k_4, .long k_5, .int k_6, .int k_7, .int k_8, .int k_9, .ref a_6, .ref a_7, .ref a_8, .ref a_9, .ref a_10, .ref a_11, .ref a_12, .ref a_13, .ref a_14, .ref a_15, .ref a_16, .ref a_17, .ref a_18, .int k_10, .int k_11, .int k_12, .int k_13, .int k_14, .int k_15, .ref a_19, .int k_16, .ref a_20])), (a_7, .inl (cy 1, 30, .inl (fun _ => 0)))]) hS
  refine lv_aload_n hx hb dX12_greedy_5 rfl (lv_at hl 0 rfl) ?_
  refine lv_iload_n hx hb dX12_greedy_6 rfl (lv_at hl 1 rfl) ?_
  refine lv_iload_n hx hb dX12_greedy_7 rfl (lv_at hl 2 rfl) ?_
  refine mm_finir (va_runV (As := [.int i_0, .int i_1]) (rest := []) ⟨hx, hb, hml, hown, hts⟩ (K131_X12_isThen l G cy H.size a_0 i_0 i_1 0 a_1 a_2 a_3 a_4 a_5 k_0 k_1 k_2 k_3 k_4 k_5 k_6 k_7 k_8 k_9 a_6 a_7 a_8 a_9 a_10 a_11 a_12 a_13 a_14 a_15 a_16 a_17 a_18 k_10 k_11 k_12 k_13 k_14 k_15 a_19 k_16 a_20 ) (cwV 2 hts (mm_gV mm_w678 mm_w679 mm_w680 mm_w5 mm_w681) rfl rfl rfl hd_X12_isThen ⟨by rw [hRf]; exact Nat.le_of_ble_eq_true rfl, by rw [hRl]; exact Nat.le_of_ble_eq_true rfl⟩) (mm_preV hK hP hD [0, 1] rfl rfl 0 rfl rfl rfl) rfl rfl hl.1 rfl (lv_room (Nat.le_of_ble_eq_true rfl)) dX12_greedy_8 ⟨by rw [hRc]; exact Nat.le_of_ble_eq_true rfl, by rw [hRs]; exact Nat.le_of_ble_eq_true rfl⟩) hP hD hS hA [0, 1] rfl (fun _ => rfl) ?_
  clear hP hD hS
  clear H locs
  intro v1 _u H locs hw hP hD hS
  subst hw
  refine lv_if_ne (tgt := 18) hx hb dX12_greedy_11 (by decide) (fun c2 => ?_) (fun c2 => ?_)
  · have q3 := mm_neL (lo := 1) (mm_ne c2) mm_k0 mm_k0 (by decide) (by decide)
    exact mm_no q3 (by decide)
  · refine lv_ldcw (v := (-100000)) hx hb hown (mm_h hts mm_w1455) dX12_greedy_14 ?_
    subst hAe
    rw [hQ]
    exact W.iret (v := (-100000)) hx hb hr (fun t ht hW => ⟨⟨(-100000), (), rfl, rfl, by rw [ht]; exact hP, hK.warm hW, hD⟩, hS.F ht⟩) hS.2.2 dX12_greedy_17

set_option maxHeartbeats 4000000 in
set_option maxRecDepth 100000 in
theorem K250_X11_chance (l : Launch) (G : va_G) (cy : Nat → ClassId) (sz : Nat) (a_0 : Nat) (i_0 : Int32) (i_1 : Int32) (i_2 : Int32) (i_3 : Int32) (i_4 : Int32) (a_1 : Nat) (a_2 : Nat) (a_3 : Nat) (a_4 : Nat) (a_5 : Nat) (a_6 : Nat) (a_7 : Nat) (a_8 : Nat) (a_9 : Nat) (a_10 : Nat) (a_11 : Nat) (a_24 : Nat) (a_25 : Nat) (k_0 : Int32) (k_1 : Int32) (k_2 : Int32) (k_3 : Int32) (k_4 : Int32) (k_5 : Int32) (k_6 : Int32) (a_26 : Nat) (a_27 : Nat) (a_28 : Nat) (a_29 : Nat) (a_30 : Nat) (a_31 : Nat) (a_32 : Nat) (a_33 : Nat) (a_34 : Nat) (a_35 : Nat)   : mm_CI l yX11_chance (mm_ws yX11_chance cX11_chance 11 (some .int)) ({ frames := 2, cells := 0, slots := 0, locals := 44 } : Room) G cy sz [(a_0, .inr (11, [.ref a_1, .ref a_2, .ref a_3, .ref a_4, .ref a_5, .ref a_6, .ref a_7, .ref a_8, .ref a_9, .ref a_10, .ref a_11])), (a_3, .inr (10, [.ref a_24, .ref a_25])), (a_24, .inr (0, [.int k_0, .int k_1, .int k_2, .int k_3, .int k_4, .int 0, .int k_5, .int k_6, .ref a_26, .ref a_27, .ref a_28, .ref a_29, .ref a_30, .ref a_31, .ref a_32, .ref a_33, .ref a_34, .ref a_35]))] [.ref a_0, .int i_0, .int i_1, .int i_2, .int i_3, .int i_4] (fun u : Unit => [(a_0, .inr (11, [.ref a_1, .ref a_2, .ref a_3, .ref a_4, .ref a_5, .ref a_6, .ref a_7, .ref a_8, .ref a_9, .ref a_10, .ref a_11])), (a_3, .inr (10, [.ref a_24, .ref a_25])), (a_24, .inr (0, [.int k_0, .int k_1, .int k_2, .int k_3, .int k_4, .int 0, .int k_5, .int k_6, .ref a_26, .ref a_27, .ref a_28, .ref a_29, .ref a_30, .ref a_31, .ref a_32, .ref a_33, .ref a_34, .ref a_35]))]) (fun (r : Int32) (u : Unit) => (-2) = r) 0 0 := by
  refine mm_begin (lv := [(0, .ref a_0), (1, .int i_0), (2, .int i_1), (3, .int i_2), (4, .int i_3), (5, .int i_4)]) (by decide) (Nat.le_of_ble_eq_true rfl) rfl ?_
  intro p e s m below meth c A ls R args Q H locs hRe hQ hAe hx hb hr hlocks hml hown hnm hts hsz hA hS hP hK hD hl
  have hRf : R.frames = 2 := by rw [hRe]
  have hRl : R.locals = 44 := by rw [hRe]
  have hRc : R.cells = 0 := by rw [hRe]
  have hRs : R.slots = 0 := by rw [hRe]
  refine lv_aload_n hx hb dX11_chance_0 rfl (lv_at hl 0 rfl) ?_
  refine lv_iload_n hx hb dX11_chance_1 rfl (lv_at hl 1 rfl) ?_
  refine lv_iload_n hx hb dX11_chance_2 rfl (lv_at hl 2 rfl) ?_
  refine lv_iload_n hx hb dX11_chance_3 rfl (lv_at hl 3 rfl) ?_
  refine mm_finir (va_runV (As := [.int i_0, .int i_1, .int i_2]) (rest := []) ⟨hx, hb, hml, hown, hts⟩ (K150_X11_isReading l G cy H.size a_0 i_0 i_1 i_2 a_1 a_2 a_3 a_4 a_5 a_6 a_7 a_8 a_9 a_10 a_11 a_24 a_25 k_0 k_1 k_2 k_3 k_4 k_5 k_6 a_26 a_27 a_28 a_29 a_30 a_31 a_32 a_33 a_34 a_35 ) (cwV 3 hts (mm_gV mm_w825 mm_w826 mm_w827 mm_w2 mm_w828) rfl rfl rfl hd_X11_isReading ⟨by rw [hRf]; exact Nat.le_of_ble_eq_true rfl, by rw [hRl]; exact Nat.le_of_ble_eq_true rfl⟩) (mm_preV hK hP hD [0, 1, 2] rfl rfl 0 rfl rfl rfl) rfl rfl hl.1 rfl (lv_room (Nat.le_of_ble_eq_true rfl)) dX11_chance_4 ⟨by rw [hRc]; exact Nat.le_of_ble_eq_true rfl, by rw [hRs]; exact Nat.le_of_ble_eq_true rfl⟩) hP hD hS hA [0, 1, 2] rfl (fun _ => rfl) ?_
  clear hP hD hS
  clear H locs
  intro v1 _u H locs hw hP hD hS
  subst hw
  refine lv_if_eq (tgt := 26) hx hb dX11_chance_7 (by decide) (fun c2 => ?_) (fun c2 => ?_)
  · refine lv_bipush (v := (-2)) hx hb dX11_chance_26 (by decide) ?_
    subst hAe
    rw [hQ]
    exact W.iret (v := (-2)) hx hb hr (fun t ht hW => ⟨⟨(-2), (), rfl, rfl, by rw [ht]; exact hP, hK.warm hW, hD⟩, hS.F ht⟩) hS.2.2 dX11_chance_28
  · have q3 := mm_neL (lo := 1) (mm_ne c2) mm_k0 mm_k0 (by decide) (by decide)
    exact mm_no q3 (by decide)

set_option maxHeartbeats 4000000 in
set_option maxRecDepth 100000 in
theorem K251_X12_isSent (l : Launch) (G : va_G) (cy : Nat → ClassId) (sz : Nat) (a_0 : Nat) (i_0 : Int32) (i_1 : Int32) (i_2 : Int32) (i_3 : Int32) (k_0 : Int32) (a_1 : Nat) (a_2 : Nat) (a_3 : Nat) (a_4 : Nat) (a_5 : Nat) (k_1 : Int32) (k_2 : Int32) (k_3 : Int32) (k_4 : Int32) (k_5 : Int32) (k_6 : Int64) (k_7 : Int32) (k_8 : Int32) (k_9 : Int32) (k_10 : Int32) (a_6 : Nat) (a_7 : Nat) (a_8 : Nat) (a_9 : Nat) (a_10 : Nat) (a_11 : Nat) (a_12 : Nat) (a_13 : Nat) (a_14 : Nat) (a_15 : Nat) (a_16 : Nat) (a_17 : Nat) (a_18 : Nat) (k_11 : Int32) (k_12 : Int32) (k_13 : Int32) (k_14 : Int32) (k_15 : Int32) (k_16 : Int32) (a_19 : Nat) (k_17 : Int32) (a_20 : Nat)   : mm_CI l yX12_isSent (mm_ws yX12_isSent cX12_isSent 5 (some .boolean)) ({ frames := 3, cells := 0, slots := 0, locals := 68 } : Room) G cy sz [(a_0, .inr (12, [.int k_0, .ref a_1, .ref a_2, .ref a_3, .ref a_4, .ref a_5, .int k_1, .int k_2, .int k_3, .int k_4, .int k_5, .long k_6, .int k_7, .int k_8, .int k_9, .int k_10, .ref a_6, .ref a_7, .ref a_8, .ref a_9, .ref a_10, .ref a_11, .ref a_12, .ref a_13, .ref a_14, .ref a_15, .ref a_16, .ref a_17, .ref a_18, .int k_11, .int k_12, .int k_13, .int k_14, .int k_15, .int k_16, .ref a_19, .int k_17, .ref a_20])), (a_7, .inl (cy 1, 30, .inl (fun _ => 0)))] [.ref a_0, .int i_0, .int i_1, .int i_2, .int i_3] (fun u : Unit => [(a_0, .inr (12, [.int k_0, .ref a_1, .ref a_2, .ref a_3, .ref a_4, .ref a_5, .int k_1, .int k_2, .int k_3, .int k_4, .int k_5, .long k_6, .int k_7, .int k_8, .int k_9, .int k_10, .ref a_6, .ref a_7, .ref a_8, .ref a_9, .ref a_10, .ref a_11, .ref a_12, .ref a_13, .ref a_14, .ref a_15, .ref a_16, .ref a_17, .ref a_18, .int k_11, .int k_12, .int k_13, .int k_14, .int k_15, .int k_16, .ref a_19, .int k_17, .ref a_20])), (a_7, .inl (cy 1, 30, .inl (fun _ => 0)))]) (fun (r : Int32) (u : Unit) => 0 = r) 0 0 := by
  refine mm_begin (lv := [(0, .ref a_0), (1, .int i_0), (2, .int i_1), (3, .int i_2), (4, .int i_3)]) (by decide) (Nat.le_of_ble_eq_true rfl) rfl ?_
  intro p e s m below meth c A ls R args Q H locs hRe hQ hAe hx hb hr hlocks hml hown hnm hts hsz hA hS hP hK hD hl
  have hRf : R.frames = 3 := by rw [hRe]
  have hRl : R.locals = 68 := by rw [hRe]
  have hRc : R.cells = 0 := by rw [hRe]
  have hRs : R.slots = 0 := by rw [hRe]
  refine lv_aload_n hx hb dX12_isSent_0 rfl (lv_at hl 0 rfl) ?_
  refine lv_iload_n hx hb dX12_isSent_1 rfl (lv_at hl 1 rfl) ?_
  refine lv_iload_n hx hb dX12_isSent_2 rfl (lv_at hl 2 rfl) ?_
  refine mm_finir (va_runV (As := [.int i_0, .int i_1]) (rest := []) ⟨hx, hb, hml, hown, hts⟩ (K237_X12_isThen l G cy H.size a_0 i_0 i_1 k_0 a_1 a_2 a_3 a_4 a_5 k_1 k_2 k_3 k_4 k_5 k_6 k_7 k_8 k_9 k_10 a_6 a_7 a_8 a_9 a_10 a_11 a_12 a_13 a_14 a_15 a_16 a_17 a_18 k_11 k_12 k_13 k_14 k_15 k_16 a_19 k_17 a_20 ) (cwV 2 hts (mm_gV mm_w678 mm_w679 mm_w680 mm_w5 mm_w681) rfl rfl rfl hd_X12_isThen ⟨by rw [hRf]; exact Nat.le_of_ble_eq_true rfl, by rw [hRl]; exact Nat.le_of_ble_eq_true rfl⟩) (mm_preV hK hP hD [0, 1] rfl rfl 0 rfl rfl rfl) rfl rfl hl.1 rfl (lv_room (Nat.le_of_ble_eq_true rfl)) dX12_isSent_3 ⟨by rw [hRc]; exact Nat.le_of_ble_eq_true rfl, by rw [hRs]; exact Nat.le_of_ble_eq_true rfl⟩) hP hD hS hA [0, 1] rfl (fun _ => rfl) ?_
  clear hP hD hS
  clear H locs
  intro v1 _u H locs hw hP hD hS
  subst hw
  refine lv_if_eq (tgt := 35) hx hb dX12_isSent_6 (by decide) (fun c2 => ?_) (fun c2 => ?_)
  · refine lv_iconst (v := 0) hx hb dX12_isSent_35 (by decide) ?_
    subst hAe
    rw [hQ]
    exact W.zret (v := 0) hx hb hr rfl (fun t ht hW => ⟨⟨0, (), rfl, rfl, by rw [ht]; exact hP, hK.warm hW, hD⟩, hS.F ht⟩) hS.2.2 dX12_isSent_36
  · have q3 := mm_neL (lo := 1) (mm_ne c2) mm_k0 mm_k0 (by decide) (by decide)
    exact mm_no q3 (by decide)

set_option maxHeartbeats 4000000 in
set_option maxRecDepth 100000 in
theorem K253_X12_isSent (l : Launch) (G : va_G) (cy : Nat → ClassId) (sz : Nat) (a_0 : Nat) (i_0 : Int32) (i_1 : Int32) (i_2 : Int32) (i_3 : Int32) (k_0 : Int32) (a_1 : Nat) (a_2 : Nat) (a_3 : Nat) (a_4 : Nat) (a_5 : Nat) (i_4 : Int32) (i_5 : Int32) (i_6 : Int32) (i_7 : Int32) (i_8 : Int32) (j_0 : Int64) (i_9 : Int32) (i_10 : Int32) (i_11 : Int32) (i_12 : Int32) (a_6 : Nat) (a_7 : Nat) (a_8 : Nat) (a_9 : Nat) (a_10 : Nat) (a_11 : Nat) (a_12 : Nat) (a_13 : Nat) (a_14 : Nat) (a_15 : Nat) (a_16 : Nat) (a_17 : Nat) (a_18 : Nat) (i_13 : Int32) (i_14 : Int32) (i_15 : Int32) (i_16 : Int32) (i_17 : Int32) (i_18 : Int32) (a_19 : Nat) (i_19 : Int32) (a_20 : Nat)   : mm_CI l yX12_isSent (mm_ws yX12_isSent cX12_isSent 5 (some .boolean)) ({ frames := 3, cells := 0, slots := 0, locals := 68 } : Room) G cy sz [(a_0, .inr (12, [.int k_0, .ref a_1, .ref a_2, .ref a_3, .ref a_4, .ref a_5, .int i_4, .int i_5, .int i_6, .int i_7, .int i_8, .long j_0, .int i_9, .int i_10, .int i_11, .int i_12, .ref a_6, .ref a_7, .ref a_8, .ref a_9, .ref a_10, .ref a_11, .ref a_12, .ref a_13, .ref a_14, .ref a_15, .ref a_16, .ref a_17, .ref a_18, .int i_13, .int i_14, .int i_15, .int i_16, .int i_17, .int i_18, .ref a_19, .int i_19, .ref a_20])), (a_7, .inl (cy 1, 30, .inl (fun _ => 0)))] [.ref a_0, .int i_0, .int i_1, .int i_2, .int i_3] (fun u : Unit => [(a_0, .inr (12, [.int k_0, .ref a_1, .ref a_2, .ref a_3, .ref a_4, .ref a_5, .int i_4, .int i_5, .int i_6, .int i_7, .int i_8, .long j_0, .int i_9, .int i_10, .int i_11, .int i_12, .ref a_6, .ref a_7, .ref a_8, .ref a_9, .ref a_10, .ref a_11, .ref a_12, .ref a_13, .ref a_14, .ref a_15, .ref a_16, .ref a_17, .ref a_18, .int i_13, .int i_14, .int i_15, .int i_16, .int i_17, .int i_18, .ref a_19, .int i_19, .ref a_20])), (a_7, .inl (cy 1, 30, .inl (fun _ => 0)))]) (fun (r : Int32) (u : Unit) => 0 = r) 0 0 := by
  refine mm_begin (lv := [(0, .ref a_0), (1, .int i_0), (2, .int i_1), (3, .int i_2), (4, .int i_3)]) (by decide) (Nat.le_of_ble_eq_true rfl) rfl ?_
  intro p e s m below meth c A ls R args Q H locs hRe hQ hAe hx hb hr hlocks hml hown hnm hts hsz hA hS hP hK hD hl
  have hRf : R.frames = 3 := by rw [hRe]
  have hRl : R.locals = 68 := by rw [hRe]
  have hRc : R.cells = 0 := by rw [hRe]
  have hRs : R.slots = 0 := by rw [hRe]
  refine lv_aload_n hx hb dX12_isSent_0 rfl (lv_at hl 0 rfl) ?_
  refine lv_iload_n hx hb dX12_isSent_1 rfl (lv_at hl 1 rfl) ?_
  refine lv_iload_n hx hb dX12_isSent_2 rfl (lv_at hl 2 rfl) ?_
  refine mm_finir (va_runV (As := [.int i_0, .int i_1]) (rest := []) ⟨hx, hb, hml, hown, hts⟩ (K237_X12_isThen l G cy H.size a_0 i_0 i_1 k_0 a_1 a_2 a_3 a_4 a_5 i_4 i_5 i_6 i_7 i_8 j_0 i_9 i_10 i_11 i_12 a_6 a_7 a_8 a_9 a_10 a_11 a_12 a_13 a_14 a_15 a_16 a_17 a_18 i_13 i_14 i_15 i_16 i_17 i_18 a_19 i_19 a_20 ) (cwV 2 hts (mm_gV mm_w678 mm_w679 mm_w680 mm_w5 mm_w681) rfl rfl rfl hd_X12_isThen ⟨by rw [hRf]; exact Nat.le_of_ble_eq_true rfl, by rw [hRl]; exact Nat.le_of_ble_eq_true rfl⟩) (mm_preV hK hP hD [0, 1] rfl rfl 0 rfl rfl rfl) rfl rfl hl.1 rfl (lv_room (Nat.le_of_ble_eq_true rfl)) dX12_isSent_3 ⟨by rw [hRc]; exact Nat.le_of_ble_eq_true rfl, by rw [hRs]; exact Nat.le_of_ble_eq_true rfl⟩) hP hD hS hA [0, 1] rfl (fun _ => rfl) ?_
  clear hP hD hS
  clear H locs
  intro v1 _u H locs hw hP hD hS
  subst hw
  refine lv_if_eq (tgt := 35) hx hb dX12_isSent_6 (by decide) (fun c2 => ?_) (fun c2 => ?_)
  · refine lv_iconst (v := 0) hx hb dX12_isSent_35 (by decide) ?_
    subst hAe
    rw [hQ]
    exact W.zret (v := 0) hx hb hr rfl (fun t ht hW => ⟨⟨0, (), rfl, rfl, by rw [ht]; exact hP, hK.warm hW, hD⟩, hS.F ht⟩) hS.2.2 dX12_isSent_36
  · have q3 := mm_neL (lo := 1) (mm_ne c2) mm_k0 mm_k0 (by decide) (by decide)
    exact mm_no q3 (by decide)

set_option maxHeartbeats 4000000 in
set_option maxRecDepth 100000 in
theorem K252_X12_chance (l : Launch) (G : va_G) (cy : Nat → ClassId) (sz : Nat) (a_0 : Nat) (i_0 : Int32) (i_1 : Int32) (i_2 : Int32) (i_3 : Int32) (i_4 : Int32) (a_1 : Nat) (a_2 : Nat) (a_3 : Nat) (a_4 : Nat) (a_5 : Nat) (k_0 : Int32) (k_1 : Int32) (k_2 : Int32) (k_3 : Int32) (k_4 : Int32) (k_5 : Int64) (k_6 : Int32) (k_7 : Int32) (k_8 : Int32) (k_9 : Int32) (a_6 : Nat) (a_7 : Nat) (a_8 : Nat) (a_9 : Nat) (a_10 : Nat) (a_11 : Nat) (a_12 : Nat) (a_13 : Nat) (a_14 : Nat) (a_15 : Nat) (a_16 : Nat) (a_17 : Nat) (a_18 : Nat) (k_10 : Int32) (k_11 : Int32) (k_12 : Int32) (k_13 : Int32) (k_14 : Int32) (k_15 : Int32) (a_19 : Nat) (k_16 : Int32) (a_20 : Nat)   : mm_CI l yX12_chance (mm_ws yX12_chance cX12_chance 6 (some .int)) ({ frames := 4, cells := 0, slots := 0, locals := 92 } : Room) G cy sz [(a_0, .inr (12, [.int 0, .ref a_1, .ref a_2, .ref a_3, .ref a_4, .ref a_5, .int k_0, .int k_1, .int k_2, .int k_3, .int k_4, .long k_5, .int k_6, .int k_7, .int k_8, .int k_9, .ref a_6, .ref a_7, .ref a_8, .ref a_9, .ref a_10, .ref a_11, .ref a_12, .ref a_13, .ref a_14, .ref a_15, .ref a_16, .ref a_17, .ref a_18, .int k_10, .int k_11, .int k_12, .int k_13, .int k_14, .int k_15, .ref a_19, .int k_16, .ref a_20])), (a_7, .inl (cy 1, 30, .inl (fun _ => 0)))] [.ref a_0, .int i_0, .int i_1, .int i_2, .int i_3, .int i_4] (fun u : Unit => [(a_0, .inr (12, [.int 0, .ref a_1, .ref a_2, .ref a_3, .ref a_4, .ref a_5, .int k_0, .int k_1, .int k_2, .int k_3, .int k_4, .long k_5, .int k_6, .int k_7, .int k_8, .int k_9, .ref a_6, .ref a_7, .ref a_8, .ref a_9, .ref a_10, .ref a_11, .ref a_12, .ref a_13, .ref a_14, .ref a_15, .ref a_16, .ref a_17, .ref a_18, .int k_10, .int k_11, .int k_12, .int k_13, .int k_14, .int k_15, .ref a_19, .int k_16, .ref a_20])), (a_7, .inl (cy 1, 30, .inl (fun _ => 0)))]) (fun (r : Int32) (u : Unit) => (-2) = r) 0 0 := by
  refine mm_begin (lv := [(0, .ref a_0), (1, .int i_0), (2, .int i_1), (3, .int i_2), (4, .int i_3), (5, .int i_4)]) (by decide) (Nat.le_of_ble_eq_true rfl) rfl ?_
  intro p e s m below meth c A ls R args Q H locs hRe hQ hAe hx hb hr hlocks hml hown hnm hts hsz hA hS hP hK hD hl
  have hRf : R.frames = 4 := by rw [hRe]
  have hRl : R.locals = 92 := by rw [hRe]
  have hRc : R.cells = 0 := by rw [hRe]
  have hRs : R.slots = 0 := by rw [hRe]
  refine lv_aload_n hx hb dX12_chance_0 rfl (lv_at hl 0 rfl) ?_
  refine lv_iconst (v := 0) hx hb dX12_chance_1 (by decide) ?_
  refine va_put (D := G) (ci := 12) (v := .int 0) (ty := tyX12 0) (C := RX12) (T := TX12) (N := 38) hx hb hts (mm_i inlX12) tyX12 tyX12_ok nmX12 hown hK.1 hP hD hS 0 rfl rfl 0 (by decide) (mm_h hts mm_w177) (fun _ h9 => h9) rfl (tyX12_ok 0 (by decide)) rfl rfl (Nat.le_of_ble_eq_true rfl) dX12_chance_2 ?_
  clear hP hD hS
  clear H locs
  intro H locs (hP : va_P G vwCl [(a_0, .inr (12, [.int 0, .ref a_1, .ref a_2, .ref a_3, .ref a_4, .ref a_5, .int k_0, .int k_1, .int k_2, .int k_3, .int k_4, .long k_5, .int k_6, .int k_7, .int k_8, .int k_9, .ref a_6, .ref a_7, .ref a_8, .ref a_9, .ref a_10, .ref a_11, .ref a_12, .ref a_13, .ref a_14, .ref a_15, .ref a_16, .ref a_17, .ref a_18, .int k_10, .int k_11, .int k_12, .int k_13, .int k_14, .int k_15, .ref a_19, .int k_16, .ref a_20])), (a_7, .inl (cy 1, 30, .inl (fun _ => 0)))] H) (hD : va_D A [(a_0, .inr (12, [.int 0, .ref a_1, .ref a_2, .ref a_3, .ref a_4, .ref a_5, .int k_0, .int k_1, .int k_2, .int k_3, .int k_4, .long k_5, .int k_6, .int k_7, .int k_8, .int k_9, .ref a_6, .ref a_7, .ref a_8, .ref a_9, .ref a_10, .ref a_11, .ref a_12, .ref a_13, .ref a_14, .ref a_15, .ref a_16, .ref a_17, .ref a_18, .int k_10, .int k_11, .int k_12, .int k_13, .int k_14, .int k_15, .ref a_19, .int k_16, .ref a_20])), (a_7, .inl (cy 1, 30, .inl (fun _ => 0)))]) hS
  refine lv_aload_n hx hb dX12_chance_5 rfl (lv_at hl 0 rfl) ?_
  refine lv_iload_n hx hb dX12_chance_6 rfl (lv_at hl 1 rfl) ?_
  refine lv_iload_n hx hb dX12_chance_7 rfl (lv_at hl 2 rfl) ?_
  refine lv_iload_n hx hb dX12_chance_8 rfl (lv_at hl 3 rfl) ?_
  refine lv_iload hx hb dX12_chance_9 (lv_at hl 4 rfl) ?_
  refine mm_finir (va_runV (As := [.int i_0, .int i_1, .int i_2, .int i_3]) (rest := []) ⟨hx, hb, hml, hown, hts⟩ (K253_X12_isSent l G cy H.size a_0 i_0 i_1 i_2 i_3 0 a_1 a_2 a_3 a_4 a_5 k_0 k_1 k_2 k_3 k_4 k_5 k_6 k_7 k_8 k_9 a_6 a_7 a_8 a_9 a_10 a_11 a_12 a_13 a_14 a_15 a_16 a_17 a_18 k_10 k_11 k_12 k_13 k_14 k_15 a_19 k_16 a_20 ) (cwV 4 hts (mm_gV mm_w1512 mm_w1513 mm_w1514 mm_w5 mm_w1515) rfl rfl rfl hd_X12_isSent ⟨by rw [hRf]; exact Nat.le_of_ble_eq_true rfl, by rw [hRl]; exact Nat.le_of_ble_eq_true rfl⟩) (mm_preV hK hP hD [0, 1] rfl rfl 0 rfl rfl rfl) rfl rfl hl.1 rfl (lv_room (Nat.le_of_ble_eq_true rfl)) dX12_chance_11 ⟨by rw [hRc]; exact Nat.le_of_ble_eq_true rfl, by rw [hRs]; exact Nat.le_of_ble_eq_true rfl⟩) hP hD hS hA [0, 1] rfl (fun _ => rfl) ?_
  clear hP hD hS
  clear H locs
  intro v1 _u H locs hw hP hD hS
  subst hw
  refine lv_if_eq (tgt := 52) hx hb dX12_chance_14 (by decide) (fun c2 => ?_) (fun c2 => ?_)
  · refine lv_bipush (v := (-2)) hx hb dX12_chance_52 (by decide) ?_
    subst hAe
    rw [hQ]
    exact W.iret (v := (-2)) hx hb hr (fun t ht hW => ⟨⟨(-2), (), rfl, rfl, by rw [ht]; exact hP, hK.warm hW, hD⟩, hS.F ht⟩) hS.2.2 dX12_chance_54
  · have q3 := mm_neL (lo := 1) (mm_ne c2) mm_k0 mm_k0 (by decide) (by decide)
    exact mm_no q3 (by decide)

set_option maxHeartbeats 4000000 in
set_option maxRecDepth 100000 in
theorem K254_X11_mean (l : Launch) (G : va_G) (cy : Nat → ClassId) (sz : Nat) (a_0 : Nat) (i_0 : Int32) (i_1 : Int32) (i_2 : Int32) (i_3 : Int32) (i_4 : Int32) (a_1 : Nat) (a_2 : Nat) (a_3 : Nat) (a_4 : Nat) (a_5 : Nat) (a_6 : Nat) (a_7 : Nat) (a_8 : Nat) (a_9 : Nat) (a_10 : Nat) (a_11 : Nat) (a_24 : Nat) (a_25 : Nat) (k_0 : Int32) (k_1 : Int32) (k_2 : Int32) (k_3 : Int32) (k_4 : Int32) (k_5 : Int32) (k_6 : Int32) (a_26 : Nat) (a_27 : Nat) (a_28 : Nat) (a_29 : Nat) (a_30 : Nat) (a_31 : Nat) (a_32 : Nat) (a_33 : Nat) (a_34 : Nat) (a_35 : Nat)   : mm_CL l yX11_mean (mm_ws yX11_mean cX11_mean 11 (some .long)) ({ frames := 2, cells := 0, slots := 0, locals := 44 } : Room) G cy sz [(a_0, .inr (11, [.ref a_1, .ref a_2, .ref a_3, .ref a_4, .ref a_5, .ref a_6, .ref a_7, .ref a_8, .ref a_9, .ref a_10, .ref a_11])), (a_3, .inr (10, [.ref a_24, .ref a_25])), (a_24, .inr (0, [.int k_0, .int k_1, .int k_2, .int k_3, .int k_4, .int 0, .int k_5, .int k_6, .ref a_26, .ref a_27, .ref a_28, .ref a_29, .ref a_30, .ref a_31, .ref a_32, .ref a_33, .ref a_34, .ref a_35]))] [.ref a_0, .int i_0, .int i_1, .int i_2, .int i_3, .int i_4] (fun u : Unit => [(a_0, .inr (11, [.ref a_1, .ref a_2, .ref a_3, .ref a_4, .ref a_5, .ref a_6, .ref a_7, .ref a_8, .ref a_9, .ref a_10, .ref a_11])), (a_3, .inr (10, [.ref a_24, .ref a_25])), (a_24, .inr (0, [.int k_0, .int k_1, .int k_2, .int k_3, .int k_4, .int 0, .int k_5, .int k_6, .ref a_26, .ref a_27, .ref a_28, .ref a_29, .ref a_30, .ref a_31, .ref a_32, .ref a_33, .ref a_34, .ref a_35]))]) (fun (r : Int64) (u : Unit) => (-2) = r) 0 0 := by
  refine mm_begin (lv := [(0, .ref a_0), (1, .int i_0), (2, .int i_1), (3, .int i_2), (4, .int i_3), (5, .int i_4)]) (by decide) (Nat.le_of_ble_eq_true rfl) rfl ?_
  intro p e s m below meth c A ls R args Q H locs hRe hQ hAe hx hb hr hlocks hml hown hnm hts hsz hA hS hP hK hD hl
  have hRf : R.frames = 2 := by rw [hRe]
  have hRl : R.locals = 44 := by rw [hRe]
  have hRc : R.cells = 0 := by rw [hRe]
  have hRs : R.slots = 0 := by rw [hRe]
  refine lv_aload_n hx hb dX11_mean_0 rfl (lv_at hl 0 rfl) ?_
  refine lv_iload_n hx hb dX11_mean_1 rfl (lv_at hl 1 rfl) ?_
  refine lv_iload_n hx hb dX11_mean_2 rfl (lv_at hl 2 rfl) ?_
  refine lv_iload_n hx hb dX11_mean_3 rfl (lv_at hl 3 rfl) ?_
  refine mm_finir (va_runV (As := [.int i_0, .int i_1, .int i_2]) (rest := []) ⟨hx, hb, hml, hown, hts⟩ (K150_X11_isReading l G cy H.size a_0 i_0 i_1 i_2 a_1 a_2 a_3 a_4 a_5 a_6 a_7 a_8 a_9 a_10 a_11 a_24 a_25 k_0 k_1 k_2 k_3 k_4 k_5 k_6 a_26 a_27 a_28 a_29 a_30 a_31 a_32 a_33 a_34 a_35 ) (cwV 3 hts (mm_gV mm_w825 mm_w826 mm_w827 mm_w2 mm_w828) rfl rfl rfl hd_X11_isReading ⟨by rw [hRf]; exact Nat.le_of_ble_eq_true rfl, by rw [hRl]; exact Nat.le_of_ble_eq_true rfl⟩) (mm_preV hK hP hD [0, 1, 2] rfl rfl 0 rfl rfl rfl) rfl rfl hl.1 rfl (lv_room (Nat.le_of_ble_eq_true rfl)) dX11_mean_4 ⟨by rw [hRc]; exact Nat.le_of_ble_eq_true rfl, by rw [hRs]; exact Nat.le_of_ble_eq_true rfl⟩) hP hD hS hA [0, 1, 2] rfl (fun _ => rfl) ?_
  clear hP hD hS
  clear H locs
  intro v1 _u H locs hw hP hD hS
  subst hw
  refine lv_if_eq (tgt := 26) hx hb dX11_mean_7 (by decide) (fun c2 => ?_) (fun c2 => ?_)
  · refine lv_ldc2 (v := (-2)) hx hb hown (mm_h hts mm_w1530) dX11_mean_26 ?_
    subst hAe
    rw [hQ]
    exact W.lret (v := (-2)) hx hb hr (fun t ht hW => ⟨⟨(-2), (), rfl, rfl, by rw [ht]; exact hP, hK.warm hW, hD⟩, hS.F ht⟩) hS.2.2 dX11_mean_29
  · have q3 := mm_neL (lo := 1) (mm_ne c2) mm_k0 mm_k0 (by decide) (by decide)
    exact mm_no q3 (by decide)

set_option maxHeartbeats 4000000 in
set_option maxRecDepth 100000 in
theorem K255_X12_mean (l : Launch) (G : va_G) (cy : Nat → ClassId) (sz : Nat) (a_0 : Nat) (i_0 : Int32) (i_1 : Int32) (i_2 : Int32) (i_3 : Int32) (i_4 : Int32) (a_1 : Nat) (a_2 : Nat) (a_3 : Nat) (a_4 : Nat) (a_5 : Nat) (k_0 : Int32) (k_1 : Int32) (k_2 : Int32) (k_3 : Int32) (k_4 : Int32) (k_5 : Int64) (k_6 : Int32) (k_7 : Int32) (k_8 : Int32) (k_9 : Int32) (a_6 : Nat) (a_7 : Nat) (a_8 : Nat) (a_9 : Nat) (a_10 : Nat) (a_11 : Nat) (a_12 : Nat) (a_13 : Nat) (a_14 : Nat) (a_15 : Nat) (a_16 : Nat) (a_17 : Nat) (a_18 : Nat) (k_10 : Int32) (k_11 : Int32) (k_12 : Int32) (k_13 : Int32) (k_14 : Int32) (k_15 : Int32) (a_19 : Nat) (k_16 : Int32) (a_20 : Nat)   : mm_CL l yX12_mean (mm_ws yX12_mean cX12_mean 6 (some .long)) ({ frames := 4, cells := 0, slots := 0, locals := 92 } : Room) G cy sz [(a_0, .inr (12, [.int 0, .ref a_1, .ref a_2, .ref a_3, .ref a_4, .ref a_5, .int k_0, .int k_1, .int k_2, .int k_3, .int k_4, .long k_5, .int k_6, .int k_7, .int k_8, .int k_9, .ref a_6, .ref a_7, .ref a_8, .ref a_9, .ref a_10, .ref a_11, .ref a_12, .ref a_13, .ref a_14, .ref a_15, .ref a_16, .ref a_17, .ref a_18, .int k_10, .int k_11, .int k_12, .int k_13, .int k_14, .int k_15, .ref a_19, .int k_16, .ref a_20])), (a_7, .inl (cy 1, 30, .inl (fun _ => 0)))] [.ref a_0, .int i_0, .int i_1, .int i_2, .int i_3, .int i_4] (fun u : Unit => [(a_0, .inr (12, [.int 0, .ref a_1, .ref a_2, .ref a_3, .ref a_4, .ref a_5, .int k_0, .int k_1, .int k_2, .int k_3, .int k_4, .long k_5, .int k_6, .int k_7, .int k_8, .int k_9, .ref a_6, .ref a_7, .ref a_8, .ref a_9, .ref a_10, .ref a_11, .ref a_12, .ref a_13, .ref a_14, .ref a_15, .ref a_16, .ref a_17, .ref a_18, .int k_10, .int k_11, .int k_12, .int k_13, .int k_14, .int k_15, .ref a_19, .int k_16, .ref a_20])), (a_7, .inl (cy 1, 30, .inl (fun _ => 0)))]) (fun (r : Int64) (u : Unit) => (-2) = r) 0 0 := by
  refine mm_begin (lv := [(0, .ref a_0), (1, .int i_0), (2, .int i_1), (3, .int i_2), (4, .int i_3), (5, .int i_4)]) (by decide) (Nat.le_of_ble_eq_true rfl) rfl ?_
  intro p e s m below meth c A ls R args Q H locs hRe hQ hAe hx hb hr hlocks hml hown hnm hts hsz hA hS hP hK hD hl
  have hRf : R.frames = 4 := by rw [hRe]
  have hRl : R.locals = 92 := by rw [hRe]
  have hRc : R.cells = 0 := by rw [hRe]
  have hRs : R.slots = 0 := by rw [hRe]
  refine lv_aload_n hx hb dX12_mean_0 rfl (lv_at hl 0 rfl) ?_
  refine lv_iconst (v := 0) hx hb dX12_mean_1 (by decide) ?_
  refine va_put (D := G) (ci := 12) (v := .int 0) (ty := tyX12 0) (C := RX12) (T := TX12) (N := 38) hx hb hts (mm_i inlX12) tyX12 tyX12_ok nmX12 hown hK.1 hP hD hS 0 rfl rfl 0 (by decide) (mm_h hts mm_w177) (fun _ h9 => h9) rfl (tyX12_ok 0 (by decide)) rfl rfl (Nat.le_of_ble_eq_true rfl) dX12_mean_2 ?_
  clear hP hD hS
  clear H locs
  intro H locs (hP : va_P G vwCl [(a_0, .inr (12, [.int 0, .ref a_1, .ref a_2, .ref a_3, .ref a_4, .ref a_5, .int k_0, .int k_1, .int k_2, .int k_3, .int k_4, .long k_5, .int k_6, .int k_7, .int k_8, .int k_9, .ref a_6, .ref a_7, .ref a_8, .ref a_9, .ref a_10, .ref a_11, .ref a_12, .ref a_13, .ref a_14, .ref a_15, .ref a_16, .ref a_17, .ref a_18, .int k_10, .int k_11, .int k_12, .int k_13, .int k_14, .int k_15, .ref a_19, .int k_16, .ref a_20])), (a_7, .inl (cy 1, 30, .inl (fun _ => 0)))] H) (hD : va_D A [(a_0, .inr (12, [.int 0, .ref a_1, .ref a_2, .ref a_3, .ref a_4, .ref a_5, .int k_0, .int k_1, .int k_2, .int k_3, .int k_4, .long k_5, .int k_6, .int k_7, .int k_8, .int k_9, .ref a_6, .ref a_7, .ref a_8, .ref a_9, .ref a_10, .ref a_11, .ref a_12, .ref a_13, .ref a_14, .ref a_15, .ref a_16, .ref a_17, .ref a_18, .int k_10, .int k_11, .int k_12, .int k_13, .int k_14, .int k_15, .ref a_19, .int k_16, .ref a_20])), (a_7, .inl (cy 1, 30, .inl (fun _ => 0)))]) hS
  refine lv_aload_n hx hb dX12_mean_5 rfl (lv_at hl 0 rfl) ?_
  refine lv_iload_n hx hb dX12_mean_6 rfl (lv_at hl 1 rfl) ?_
  refine lv_iload_n hx hb dX12_mean_7 rfl (lv_at hl 2 rfl) ?_
  refine lv_iload_n hx hb dX12_mean_8 rfl (lv_at hl 3 rfl) ?_
  refine lv_iload hx hb dX12_mean_9 (lv_at hl 4 rfl) ?_
  refine mm_finir (va_runV (As := [.int i_0, .int i_1, .int i_2, .int i_3]) (rest := []) ⟨hx, hb, hml, hown, hts⟩ (K253_X12_isSent l G cy H.size a_0 i_0 i_1 i_2 i_3 0 a_1 a_2 a_3 a_4 a_5 k_0 k_1 k_2 k_3 k_4 k_5 k_6 k_7 k_8 k_9 a_6 a_7 a_8 a_9 a_10 a_11 a_12 a_13 a_14 a_15 a_16 a_17 a_18 k_10 k_11 k_12 k_13 k_14 k_15 a_19 k_16 a_20 ) (cwV 4 hts (mm_gV mm_w1512 mm_w1513 mm_w1514 mm_w5 mm_w1515) rfl rfl rfl hd_X12_isSent ⟨by rw [hRf]; exact Nat.le_of_ble_eq_true rfl, by rw [hRl]; exact Nat.le_of_ble_eq_true rfl⟩) (mm_preV hK hP hD [0, 1] rfl rfl 0 rfl rfl rfl) rfl rfl hl.1 rfl (lv_room (Nat.le_of_ble_eq_true rfl)) dX12_mean_11 ⟨by rw [hRc]; exact Nat.le_of_ble_eq_true rfl, by rw [hRs]; exact Nat.le_of_ble_eq_true rfl⟩) hP hD hS hA [0, 1] rfl (fun _ => rfl) ?_
  clear hP hD hS
  clear H locs
  intro v1 _u H locs hw hP hD hS
  subst hw
  refine lv_if_eq (tgt := 51) hx hb dX12_mean_14 (by decide) (fun c2 => ?_) (fun c2 => ?_)
  · refine lv_ldc2 (v := (-2)) hx hb hown (mm_h hts mm_w1535) dX12_mean_51 ?_
    subst hAe
    rw [hQ]
    exact W.lret (v := (-2)) hx hb hr (fun t ht hW => ⟨⟨(-2), (), rfl, rfl, by rw [ht]; exact hP, hK.warm hW, hD⟩, hS.F ht⟩) hS.2.2 dX12_mean_54
  · have q3 := mm_neL (lo := 1) (mm_ne c2) mm_k0 mm_k0 (by decide) (by decide)
    exact mm_no q3 (by decide)

set_option maxHeartbeats 4000000 in
set_option maxRecDepth 100000 in
theorem K256_X11_swaps (l : Launch) (G : va_G) (cy : Nat → ClassId) (sz : Nat) (a_0 : Nat) (i_0 : Int32) (i_1 : Int32) (i_2 : Int32) (a_1 : Nat) (a_2 : Nat) (a_3 : Nat) (a_4 : Nat) (a_5 : Nat) (a_6 : Nat) (a_7 : Nat) (a_8 : Nat) (a_9 : Nat) (a_10 : Nat) (a_11 : Nat) (a_24 : Nat) (a_25 : Nat) (k_0 : Int32) (k_1 : Int32) (k_2 : Int32) (k_3 : Int32) (k_4 : Int32) (k_5 : Int32) (k_6 : Int32) (a_26 : Nat) (a_27 : Nat) (a_28 : Nat) (a_29 : Nat) (a_30 : Nat) (a_31 : Nat) (a_32 : Nat) (a_33 : Nat) (a_34 : Nat) (a_35 : Nat)   : mm_CI l yX11_swaps (mm_ws yX11_swaps cX11_swaps 5 (some .int)) ({ frames := 1, cells := 0, slots := 0, locals := 21 } : Room) G cy sz [(a_0, .inr (11, [.ref a_1, .ref a_2, .ref a_3, .ref a_4, .ref a_5, .ref a_6, .ref a_7, .ref a_8, .ref a_9, .ref a_10, .ref a_11])), (a_3, .inr (10, [.ref a_24, .ref a_25])), (a_24, .inr (0, [.int k_0, .int k_1, .int k_2, .int k_3, .int k_4, .int 0, .int k_5, .int k_6, .ref a_26, .ref a_27, .ref a_28, .ref a_29, .ref a_30, .ref a_31, .ref a_32, .ref a_33, .ref a_34, .ref a_35]))] [.ref a_0, .int i_0, .int i_1, .int i_2] (fun u : Unit => [(a_0, .inr (11, [.ref a_1, .ref a_2, .ref a_3, .ref a_4, .ref a_5, .ref a_6, .ref a_7, .ref a_8, .ref a_9, .ref a_10, .ref a_11])), (a_3, .inr (10, [.ref a_24, .ref a_25])), (a_24, .inr (0, [.int k_0, .int k_1, .int k_2, .int k_3, .int k_4, .int 0, .int k_5, .int k_6, .ref a_26, .ref a_27, .ref a_28, .ref a_29, .ref a_30, .ref a_31, .ref a_32, .ref a_33, .ref a_34, .ref a_35]))]) (fun (r : Int32) (u : Unit) => (-2) = r) 0 0 := by
  refine mm_begin (lv := [(0, .ref a_0), (1, .int i_0), (2, .int i_1), (3, .int i_2)]) (by decide) (Nat.le_of_ble_eq_true rfl) rfl ?_
  intro p e s m below meth c A ls R args Q H locs hRe hQ hAe hx hb hr hlocks hml hown hnm hts hsz hA hS hP hK hD hl
  have hRf : R.frames = 1 := by rw [hRe]
  have hRl : R.locals = 21 := by rw [hRe]
  have hRc : R.cells = 0 := by rw [hRe]
  have hRs : R.slots = 0 := by rw [hRe]
  refine lv_aload_n hx hb dX11_swaps_0 rfl (lv_at hl 0 rfl) ?_
  refine lv_iload_n hx hb dX11_swaps_1 rfl (lv_at hl 1 rfl) ?_
  refine mm_finir (va_runV (As := [.int i_0]) (rest := []) ⟨hx, hb, hml, hown, hts⟩ (K123_X11_isLand l G cy H.size a_0 i_0 a_1 a_2 a_3 a_4 a_5 a_6 a_7 a_8 a_9 a_10 a_11 a_24 a_25 k_0 k_1 k_2 k_3 k_4 k_5 k_6 a_26 a_27 a_28 a_29 a_30 a_31 a_32 a_33 a_34 a_35 ) (cwV 1 hts (mm_gV mm_w626 mm_w627 mm_w628 mm_w2 mm_w629) rfl rfl rfl hd_X11_isLand ⟨by rw [hRf]; exact Nat.le_of_ble_eq_true rfl, by rw [hRl]; exact Nat.le_of_ble_eq_true rfl⟩) (mm_preV hK hP hD [0, 1, 2] rfl rfl 0 rfl rfl rfl) rfl rfl hl.1 rfl (lv_room (Nat.le_of_ble_eq_true rfl)) dX11_swaps_2 ⟨by rw [hRc]; exact Nat.le_of_ble_eq_true rfl, by rw [hRs]; exact Nat.le_of_ble_eq_true rfl⟩) hP hD hS hA [0, 1, 2] rfl (fun _ => rfl) ?_
  clear hP hD hS
  clear H locs
  intro v1 _u H locs hw hP hD hS
  subst hw
  refine lv_if_eq (tgt := 29) hx hb dX11_swaps_5 (by decide) (fun c2 => ?_) (fun c2 => ?_)
  · refine lv_bipush (v := (-2)) hx hb dX11_swaps_29 (by decide) ?_
    subst hAe
    rw [hQ]
    exact W.iret (v := (-2)) hx hb hr (fun t ht hW => ⟨⟨(-2), (), rfl, rfl, by rw [ht]; exact hP, hK.warm hW, hD⟩, hS.F ht⟩) hS.2.2 dX11_swaps_31
  · have q3 := mm_neL (lo := 1) (mm_ne c2) mm_k0 mm_k0 (by decide) (by decide)
    exact mm_no q3 (by decide)

set_option maxHeartbeats 4000000 in
set_option maxRecDepth 100000 in
theorem K257_X12_swaps (l : Launch) (G : va_G) (cy : Nat → ClassId) (sz : Nat) (a_0 : Nat) (i_0 : Int32) (i_1 : Int32) (i_2 : Int32) (a_1 : Nat) (a_2 : Nat) (a_3 : Nat) (a_4 : Nat) (a_5 : Nat) (k_0 : Int32) (k_1 : Int32) (k_2 : Int32) (k_3 : Int32) (k_4 : Int32) (k_5 : Int64) (k_6 : Int32) (k_7 : Int32) (k_8 : Int32) (k_9 : Int32) (a_6 : Nat) (a_7 : Nat) (a_8 : Nat) (a_9 : Nat) (a_10 : Nat) (a_11 : Nat) (a_12 : Nat) (a_13 : Nat) (a_14 : Nat) (a_15 : Nat) (a_16 : Nat) (a_17 : Nat) (a_18 : Nat) (k_10 : Int32) (k_11 : Int32) (k_12 : Int32) (k_13 : Int32) (k_14 : Int32) (k_15 : Int32) (a_19 : Nat) (k_16 : Int32) (a_20 : Nat)   : mm_CI l yX12_swaps (mm_ws yX12_swaps cX12_swaps 5 (some .int)) ({ frames := 2, cells := 0, slots := 0, locals := 46 } : Room) G cy sz [(a_0, .inr (12, [.int 0, .ref a_1, .ref a_2, .ref a_3, .ref a_4, .ref a_5, .int k_0, .int k_1, .int k_2, .int k_3, .int k_4, .long k_5, .int k_6, .int k_7, .int k_8, .int k_9, .ref a_6, .ref a_7, .ref a_8, .ref a_9, .ref a_10, .ref a_11, .ref a_12, .ref a_13, .ref a_14, .ref a_15, .ref a_16, .ref a_17, .ref a_18, .int k_10, .int k_11, .int k_12, .int k_13, .int k_14, .int k_15, .ref a_19, .int k_16, .ref a_20])), (a_7, .inl (cy 1, 30, .inl (fun _ => 0)))] [.ref a_0, .int i_0, .int i_1, .int i_2] (fun u : Unit => [(a_0, .inr (12, [.int 0, .ref a_1, .ref a_2, .ref a_3, .ref a_4, .ref a_5, .int k_0, .int k_1, .int k_2, .int k_3, .int k_4, .long k_5, .int k_6, .int k_7, .int k_8, .int k_9, .ref a_6, .ref a_7, .ref a_8, .ref a_9, .ref a_10, .ref a_11, .ref a_12, .ref a_13, .ref a_14, .ref a_15, .ref a_16, .ref a_17, .ref a_18, .int k_10, .int k_11, .int k_12, .int k_13, .int k_14, .int k_15, .ref a_19, .int k_16, .ref a_20])), (a_7, .inl (cy 1, 30, .inl (fun _ => 0)))]) (fun (r : Int32) (u : Unit) => (-2) = r) 0 0 := by
  refine mm_begin (lv := [(0, .ref a_0), (1, .int i_0), (2, .int i_1), (3, .int i_2)]) (by decide) (Nat.le_of_ble_eq_true rfl) rfl ?_
  intro p e s m below meth c A ls R args Q H locs hRe hQ hAe hx hb hr hlocks hml hown hnm hts hsz hA hS hP hK hD hl
  have hRf : R.frames = 2 := by rw [hRe]
  have hRl : R.locals = 46 := by rw [hRe]
  have hRc : R.cells = 0 := by rw [hRe]
  have hRs : R.slots = 0 := by rw [hRe]
  refine lv_aload_n hx hb dX12_swaps_0 rfl (lv_at hl 0 rfl) ?_
  refine lv_iconst (v := 0) hx hb dX12_swaps_1 (by decide) ?_
  refine va_put (D := G) (ci := 12) (v := .int 0) (ty := tyX12 0) (C := RX12) (T := TX12) (N := 38) hx hb hts (mm_i inlX12) tyX12 tyX12_ok nmX12 hown hK.1 hP hD hS 0 rfl rfl 0 (by decide) (mm_h hts mm_w177) (fun _ h9 => h9) rfl (tyX12_ok 0 (by decide)) rfl rfl (Nat.le_of_ble_eq_true rfl) dX12_swaps_2 ?_
  clear hP hD hS
  clear H locs
  intro H locs (hP : va_P G vwCl [(a_0, .inr (12, [.int 0, .ref a_1, .ref a_2, .ref a_3, .ref a_4, .ref a_5, .int k_0, .int k_1, .int k_2, .int k_3, .int k_4, .long k_5, .int k_6, .int k_7, .int k_8, .int k_9, .ref a_6, .ref a_7, .ref a_8, .ref a_9, .ref a_10, .ref a_11, .ref a_12, .ref a_13, .ref a_14, .ref a_15, .ref a_16, .ref a_17, .ref a_18, .int k_10, .int k_11, .int k_12, .int k_13, .int k_14, .int k_15, .ref a_19, .int k_16, .ref a_20])), (a_7, .inl (cy 1, 30, .inl (fun _ => 0)))] H) (hD : va_D A [(a_0, .inr (12, [.int 0, .ref a_1, .ref a_2, .ref a_3, .ref a_4, .ref a_5, .int k_0, .int k_1, .int k_2, .int k_3, .int k_4, .long k_5, .int k_6, .int k_7, .int k_8, .int k_9, .ref a_6, .ref a_7, .ref a_8, .ref a_9, .ref a_10, .ref a_11, .ref a_12, .ref a_13, .ref a_14, .ref a_15, .ref a_16, .ref a_17, .ref a_18, .int k_10, .int k_11, .int k_12, .int k_13, .int k_14, .int k_15, .ref a_19, .int k_16, .ref a_20])), (a_7, .inl (cy 1, 30, .inl (fun _ => 0)))]) hS
  refine lv_aload_n hx hb dX12_swaps_5 rfl (lv_at hl 0 rfl) ?_
  refine lv_iload_n hx hb dX12_swaps_6 rfl (lv_at hl 1 rfl) ?_
  refine mm_finir (va_runV (As := [.int i_0]) (rest := []) ⟨hx, hb, hml, hown, hts⟩ (K126_X12_isLand l G cy H.size a_0 i_0 0 a_1 a_2 a_3 a_4 a_5 k_0 k_1 k_2 k_3 k_4 k_5 k_6 k_7 k_8 k_9 a_6 a_7 a_8 a_9 a_10 a_11 a_12 a_13 a_14 a_15 a_16 a_17 a_18 k_10 k_11 k_12 k_13 k_14 k_15 a_19 k_16 a_20 ) (cwV 1 hts (mm_gV mm_w641 mm_w642 mm_w643 mm_w5 mm_w644) rfl rfl rfl hd_X12_isLand ⟨by rw [hRf]; exact Nat.le_of_ble_eq_true rfl, by rw [hRl]; exact Nat.le_of_ble_eq_true rfl⟩) (mm_preV hK hP hD [0, 1] rfl rfl 0 rfl rfl rfl) rfl rfl hl.1 rfl (lv_room (Nat.le_of_ble_eq_true rfl)) dX12_swaps_7 ⟨by rw [hRc]; exact Nat.le_of_ble_eq_true rfl, by rw [hRs]; exact Nat.le_of_ble_eq_true rfl⟩) hP hD hS hA [0, 1] rfl (fun _ => rfl) ?_
  clear hP hD hS
  clear H locs
  intro v1 _u H locs hw hP hD hS
  subst hw
  refine lv_if_eq (tgt := 34) hx hb dX12_swaps_10 (by decide) (fun c2 => ?_) (fun c2 => ?_)
  · refine lv_bipush (v := (-2)) hx hb dX12_swaps_34 (by decide) ?_
    subst hAe
    rw [hQ]
    exact W.iret (v := (-2)) hx hb hr (fun t ht hW => ⟨⟨(-2), (), rfl, rfl, by rw [ht]; exact hP, hK.warm hW, hD⟩, hS.F ht⟩) hS.2.2 dX12_swaps_36
  · have q3 := mm_neL (lo := 1) (mm_ne c2) mm_k0 mm_k0 (by decide) (by decide)
    exact mm_no q3 (by decide)

set_option maxHeartbeats 4000000 in
set_option maxRecDepth 100000 in
theorem K258_X11_stock (l : Launch) (G : va_G) (cy : Nat → ClassId) (sz : Nat) (a_0 : Nat) (i_0 : Int32) (a_1 : Nat) (a_2 : Nat) (a_3 : Nat) (a_4 : Nat) (a_5 : Nat) (a_6 : Nat) (a_7 : Nat) (a_8 : Nat) (a_9 : Nat) (a_10 : Nat) (a_11 : Nat) (a_24 : Nat) (a_25 : Nat) (k_0 : Int32) (k_1 : Int32) (k_2 : Int32) (k_3 : Int32) (k_4 : Int32) (k_5 : Int32) (k_6 : Int32) (a_26 : Nat) (a_27 : Nat) (a_28 : Nat) (a_29 : Nat) (a_30 : Nat) (a_31 : Nat) (a_32 : Nat) (a_33 : Nat) (a_34 : Nat) (a_35 : Nat)   : mm_CI l yX11_stock (mm_ws yX11_stock cX11_stock 3 (some .int)) ({ frames := 0, cells := 0, slots := 0, locals := 0 } : Room) G cy sz [(a_0, .inr (11, [.ref a_1, .ref a_2, .ref a_3, .ref a_4, .ref a_5, .ref a_6, .ref a_7, .ref a_8, .ref a_9, .ref a_10, .ref a_11])), (a_3, .inr (10, [.ref a_24, .ref a_25])), (a_24, .inr (0, [.int 0, .int k_0, .int k_1, .int k_2, .int k_3, .int k_4, .int k_5, .int k_6, .ref a_26, .ref a_27, .ref a_28, .ref a_29, .ref a_30, .ref a_31, .ref a_32, .ref a_33, .ref a_34, .ref a_35]))] [.ref a_0, .int i_0] (fun u : Unit => [(a_0, .inr (11, [.ref a_1, .ref a_2, .ref a_3, .ref a_4, .ref a_5, .ref a_6, .ref a_7, .ref a_8, .ref a_9, .ref a_10, .ref a_11])), (a_3, .inr (10, [.ref a_24, .ref a_25])), (a_24, .inr (0, [.int 0, .int k_0, .int k_1, .int k_2, .int k_3, .int k_4, .int k_5, .int k_6, .ref a_26, .ref a_27, .ref a_28, .ref a_29, .ref a_30, .ref a_31, .ref a_32, .ref a_33, .ref a_34, .ref a_35]))]) (fun (r : Int32) (u : Unit) => (-2) = r) 0 0 := by
  refine mm_begin (lv := [(0, .ref a_0), (1, .int i_0)]) (by decide) (Nat.le_of_ble_eq_true rfl) rfl ?_
  intro p e s m below meth c A ls R args Q H locs hRe hQ hAe hx hb hr hlocks hml hown hnm hts hsz hA hS hP hK hD hl
  have hRf : R.frames = 0 := by rw [hRe]
  have hRl : R.locals = 0 := by rw [hRe]
  have hRc : R.cells = 0 := by rw [hRe]
  have hRs : R.slots = 0 := by rw [hRe]
  refine lv_aload_n hx hb dX11_stock_0 rfl (lv_at hl 0 rfl) ?_
  refine va_get (D := G) (ci := 11) (v := .ref a_3) (C := RX11) (T := TX11) (N := 11) hx hb hts (mm_i inlX11) hown hK.1 hP 0 rfl rfl 2 (by decide) (mm_h hts mm_w24) (fun _ h9 => h9) rfl dX11_stock_1 ?_
  refine va_get (D := G) (ci := 10) (v := .ref a_24) (C := RX10) (T := TX10) (N := 2) hx hb hts (mm_i inlX10) hown hK.1 hP 1 rfl rfl 0 (by decide) (mm_h hts mm_w199) (fun _ h9 => h9) rfl dX11_stock_4 ?_
  refine va_get (D := G) (ci := 0) (v := .int 0) (C := RX0) (T := TX0) (N := 18) hx hb hts (mm_i inlX0) hown hK.1 hP 2 rfl rfl 0 (by decide) (mm_h hts mm_w200) (fun _ h9 => h9) rfl dX11_stock_7 ?_
  refine lv_if_eq (tgt := 23) hx hb dX11_stock_10 (by decide) (fun c1 => ?_) (fun c1 => ?_)
  · refine lv_bipush (v := (-2)) hx hb dX11_stock_23 (by decide) ?_
    subst hAe
    rw [hQ]
    exact W.iret (v := (-2)) hx hb hr (fun t ht hW => ⟨⟨(-2), (), rfl, rfl, by rw [ht]; exact hP, hK.warm hW, hD⟩, hS.F ht⟩) hS.2.2 dX11_stock_25
  · have q2 := mm_neL (lo := 1) (mm_ne c1) mm_k0 mm_k0 (by decide) (by decide)
    exact mm_no q2 (by decide)

set_option maxHeartbeats 4000000 in
set_option maxRecDepth 100000 in
theorem K259_X12_stock (l : Launch) (G : va_G) (cy : Nat → ClassId) (sz : Nat) (a_0 : Nat) (i_0 : Int32) (a_1 : Nat) (a_2 : Nat) (a_3 : Nat) (a_4 : Nat) (a_5 : Nat) (k_0 : Int32) (k_1 : Int32) (k_2 : Int32) (k_3 : Int32) (k_4 : Int32) (k_5 : Int64) (k_6 : Int32) (k_7 : Int32) (k_8 : Int32) (k_9 : Int32) (a_6 : Nat) (a_7 : Nat) (a_8 : Nat) (a_9 : Nat) (a_10 : Nat) (a_11 : Nat) (a_12 : Nat) (a_13 : Nat) (a_14 : Nat) (a_15 : Nat) (a_16 : Nat) (a_17 : Nat) (a_18 : Nat) (k_10 : Int32) (k_11 : Int32) (k_12 : Int32) (k_13 : Int32) (k_14 : Int32) (k_15 : Int32) (a_19 : Nat) (k_16 : Int32) (a_20 : Nat)   : mm_CI l yX12_stock (mm_ws yX12_stock cX12_stock 3 (some .int)) ({ frames := 1, cells := 0, slots := 0, locals := 20 } : Room) G cy sz [(a_0, .inr (12, [.int 0, .ref a_1, .ref a_2, .ref a_3, .ref a_4, .ref a_5, .int k_0, .int k_1, .int k_2, .int k_3, .int k_4, .long k_5, .int k_6, .int k_7, .int k_8, .int k_9, .ref a_6, .ref a_7, .ref a_8, .ref a_9, .ref a_10, .ref a_11, .ref a_12, .ref a_13, .ref a_14, .ref a_15, .ref a_16, .ref a_17, .ref a_18, .int k_10, .int k_11, .int k_12, .int k_13, .int k_14, .int k_15, .ref a_19, .int k_16, .ref a_20])), (a_6, .inl (cy 1, 5, .inl (fun _ => 0)))] [.ref a_0, .int i_0] (fun u : Unit => [(a_0, .inr (12, [.int 0, .ref a_1, .ref a_2, .ref a_3, .ref a_4, .ref a_5, .int k_0, .int k_1, .int k_2, .int k_3, .int k_4, .long k_5, .int k_6, .int k_7, .int k_8, .int k_9, .ref a_6, .ref a_7, .ref a_8, .ref a_9, .ref a_10, .ref a_11, .ref a_12, .ref a_13, .ref a_14, .ref a_15, .ref a_16, .ref a_17, .ref a_18, .int k_10, .int k_11, .int k_12, .int k_13, .int k_14, .int k_15, .ref a_19, .int k_16, .ref a_20])), (a_6, .inl (cy 1, 5, .inl (fun _ => 0)))]) (fun (r : Int32) (u : Unit) => (-2) = r) 0 0 := by
  refine mm_begin (lv := [(0, .ref a_0), (1, .int i_0)]) (by decide) (Nat.le_of_ble_eq_true rfl) rfl ?_
  intro p e s m below meth c A ls R args Q H locs hRe hQ hAe hx hb hr hlocks hml hown hnm hts hsz hA hS hP hK hD hl
  have hRf : R.frames = 1 := by rw [hRe]
  have hRl : R.locals = 20 := by rw [hRe]
  have hRc : R.cells = 0 := by rw [hRe]
  have hRs : R.slots = 0 := by rw [hRe]
  refine lv_aload_n hx hb dX12_stock_0 rfl (lv_at hl 0 rfl) ?_
  refine lv_iconst (v := 0) hx hb dX12_stock_1 (by decide) ?_
  refine va_put (D := G) (ci := 12) (v := .int 0) (ty := tyX12 0) (C := RX12) (T := TX12) (N := 38) hx hb hts (mm_i inlX12) tyX12 tyX12_ok nmX12 hown hK.1 hP hD hS 0 rfl rfl 0 (by decide) (mm_h hts mm_w177) (fun _ h9 => h9) rfl (tyX12_ok 0 (by decide)) rfl rfl (Nat.le_of_ble_eq_true rfl) dX12_stock_2 ?_
  clear hP hD hS
  clear H locs
  intro H locs (hP : va_P G vwCl [(a_0, .inr (12, [.int 0, .ref a_1, .ref a_2, .ref a_3, .ref a_4, .ref a_5, .int k_0, .int k_1, .int k_2, .int k_3, .int k_4, .long k_5, .int k_6, .int k_7, .int k_8, .int k_9, .ref a_6, .ref a_7, .ref a_8, .ref a_9, .ref a_10, .ref a_11, .ref a_12, .ref a_13, .ref a_14, .ref a_15, .ref a_16, .ref a_17, .ref a_18, .int k_10, .int k_11, .int k_12, .int k_13, .int k_14, .int k_15, .ref a_19, .int k_16, .ref a_20])), (a_6, .inl (cy 1, 5, .inl (fun _ => 0)))] H) (hD : va_D A [(a_0, .inr (12, [.int 0, .ref a_1, .ref a_2, .ref a_3, .ref a_4, .ref a_5, .int k_0, .int k_1, .int k_2, .int k_3, .int k_4, .long k_5, .int k_6, .int k_7, .int k_8, .int k_9, .ref a_6, .ref a_7, .ref a_8, .ref a_9, .ref a_10, .ref a_11, .ref a_12, .ref a_13, .ref a_14, .ref a_15, .ref a_16, .ref a_17, .ref a_18, .int k_10, .int k_11, .int k_12, .int k_13, .int k_14, .int k_15, .ref a_19, .int k_16, .ref a_20])), (a_6, .inl (cy 1, 5, .inl (fun _ => 0)))]) hS
  refine lv_aload_n hx hb dX12_stock_5 rfl (lv_at hl 0 rfl) ?_
  refine mm_finir (va_runV (As := []) (rest := []) ⟨hx, hb, hml, hown, hts⟩ (K232_X12_isBook l G cy H.size a_0 0 a_1 a_2 a_3 a_4 a_5 k_0 k_1 k_2 k_3 k_4 k_5 k_6 k_7 k_8 k_9 a_6 a_7 a_8 a_9 a_10 a_11 a_12 a_13 a_14 a_15 a_16 a_17 a_18 k_10 k_11 k_12 k_13 k_14 k_15 a_19 k_16 a_20 ) (cwV 0 hts (mm_gV mm_w653 mm_w654 mm_w655 mm_w5 mm_w656) rfl rfl rfl hd_X12_isBook ⟨by rw [hRf]; exact Nat.le_of_ble_eq_true rfl, by rw [hRl]; exact Nat.le_of_ble_eq_true rfl⟩) (mm_preV hK hP hD [0, 1] rfl rfl 0 rfl rfl rfl) rfl rfl hl.1 rfl (lv_room (Nat.le_of_ble_eq_true rfl)) dX12_stock_6 ⟨by rw [hRc]; exact Nat.le_of_ble_eq_true rfl, by rw [hRs]; exact Nat.le_of_ble_eq_true rfl⟩) hP hD hS hA [0, 1] rfl (fun _ => rfl) ?_
  clear hP hD hS
  clear H locs
  intro v1 _u H locs hw hP hD hS
  subst hw
  refine lv_if_eq (tgt := 24) hx hb dX12_stock_9 (by decide) (fun c2 => ?_) (fun c2 => ?_)
  · refine lv_bipush (v := (-2)) hx hb dX12_stock_24 (by decide) ?_
    subst hAe
    rw [hQ]
    exact W.iret (v := (-2)) hx hb hr (fun t ht hW => ⟨⟨(-2), (), rfl, rfl, by rw [ht]; exact hP, hK.warm hW, hD⟩, hS.F ht⟩) hS.2.2 dX12_stock_26
  · have q3 := mm_neL (lo := 1) (mm_ne c2) mm_k0 mm_k0 (by decide) (by decide)
    exact mm_no q3 (by decide)

set_option maxHeartbeats 4000000 in
set_option maxRecDepth 100000 in
theorem K260_X11_undo (l : Launch) (G : va_G) (cy : Nat → ClassId) (sz : Nat) (a_0 : Nat) (a_1 : Nat) (a_2 : Nat) (a_3 : Nat) (a_4 : Nat) (a_5 : Nat) (a_6 : Nat) (a_7 : Nat) (a_8 : Nat) (a_9 : Nat) (a_10 : Nat) (a_11 : Nat) (a_24 : Nat) (a_25 : Nat) (k_0 : Int32) (k_1 : Int32) (k_2 : Int32) (k_3 : Int32) (k_4 : Int32) (k_5 : Int32) (k_6 : Int32) (a_26 : Nat) (a_27 : Nat) (a_28 : Nat) (a_29 : Nat) (a_30 : Nat) (a_31 : Nat) (a_32 : Nat) (a_33 : Nat) (a_34 : Nat) (a_35 : Nat)   : mm_CI l yX11_undo (mm_ws yX11_undo cX11_undo 1 (some .int)) ({ frames := 0, cells := 0, slots := 0, locals := 0 } : Room) G cy sz [(a_0, .inr (11, [.ref a_1, .ref a_2, .ref a_3, .ref a_4, .ref a_5, .ref a_6, .ref a_7, .ref a_8, .ref a_9, .ref a_10, .ref a_11])), (a_3, .inr (10, [.ref a_24, .ref a_25])), (a_24, .inr (0, [.int 0, .int k_0, .int k_1, .int k_2, .int k_3, .int k_4, .int k_5, .int k_6, .ref a_26, .ref a_27, .ref a_28, .ref a_29, .ref a_30, .ref a_31, .ref a_32, .ref a_33, .ref a_34, .ref a_35]))] [.ref a_0] (fun u : Unit => [(a_0, .inr (11, [.ref a_1, .ref a_2, .ref a_3, .ref a_4, .ref a_5, .ref a_6, .ref a_7, .ref a_8, .ref a_9, .ref a_10, .ref a_11])), (a_3, .inr (10, [.ref a_24, .ref a_25])), (a_24, .inr (0, [.int 0, .int k_0, .int k_1, .int k_2, .int k_3, .int k_4, .int k_5, .int k_6, .ref a_26, .ref a_27, .ref a_28, .ref a_29, .ref a_30, .ref a_31, .ref a_32, .ref a_33, .ref a_34, .ref a_35]))]) (fun (r : Int32) (u : Unit) => (-2) = r) 0 0 := by
  refine mm_begin (lv := [(0, .ref a_0)]) (by decide) (Nat.le_of_ble_eq_true rfl) rfl ?_
  intro p e s m below meth c A ls R args Q H locs hRe hQ hAe hx hb hr hlocks hml hown hnm hts hsz hA hS hP hK hD hl
  have hRf : R.frames = 0 := by rw [hRe]
  have hRl : R.locals = 0 := by rw [hRe]
  have hRc : R.cells = 0 := by rw [hRe]
  have hRs : R.slots = 0 := by rw [hRe]
  refine lv_aload_n hx hb dX11_undo_0 rfl (lv_at hl 0 rfl) ?_
  refine va_get (D := G) (ci := 11) (v := .ref a_3) (C := RX11) (T := TX11) (N := 11) hx hb hts (mm_i inlX11) hown hK.1 hP 0 rfl rfl 2 (by decide) (mm_h hts mm_w24) (fun _ h9 => h9) rfl dX11_undo_1 ?_
  refine va_get (D := G) (ci := 10) (v := .ref a_24) (C := RX10) (T := TX10) (N := 2) hx hb hts (mm_i inlX10) hown hK.1 hP 1 rfl rfl 0 (by decide) (mm_h hts mm_w199) (fun _ h9 => h9) rfl dX11_undo_4 ?_
  refine va_get (D := G) (ci := 0) (v := .int 0) (C := RX0) (T := TX0) (N := 18) hx hb hts (mm_i inlX0) hown hK.1 hP 2 rfl rfl 0 (by decide) (mm_h hts mm_w200) (fun _ h9 => h9) rfl dX11_undo_7 ?_
  refine lv_if_ne (tgt := 16) hx hb dX11_undo_10 (by decide) (fun c1 => ?_) (fun c1 => ?_)
  · have q2 := mm_neL (lo := 1) (mm_ne c1) mm_k0 mm_k0 (by decide) (by decide)
    exact mm_no q2 (by decide)
  · refine lv_bipush (v := (-2)) hx hb dX11_undo_13 (by decide) ?_
    subst hAe
    rw [hQ]
    exact W.iret (v := (-2)) hx hb hr (fun t ht hW => ⟨⟨(-2), (), rfl, rfl, by rw [ht]; exact hP, hK.warm hW, hD⟩, hS.F ht⟩) hS.2.2 dX11_undo_15

set_option maxHeartbeats 4000000 in
set_option maxRecDepth 100000 in
theorem K261_X12_undo (l : Launch) (G : va_G) (cy : Nat → ClassId) (sz : Nat) (a_0 : Nat) (a_1 : Nat) (a_2 : Nat) (a_3 : Nat) (a_4 : Nat) (a_5 : Nat) (k_0 : Int32) (k_1 : Int32) (k_2 : Int32) (k_3 : Int32) (k_4 : Int32) (k_5 : Int64) (k_6 : Int32) (k_7 : Int32) (k_8 : Int32) (k_9 : Int32) (a_6 : Nat) (a_7 : Nat) (a_8 : Nat) (a_9 : Nat) (a_10 : Nat) (a_11 : Nat) (a_12 : Nat) (a_13 : Nat) (a_14 : Nat) (a_15 : Nat) (a_16 : Nat) (a_17 : Nat) (a_18 : Nat) (k_10 : Int32) (k_11 : Int32) (k_12 : Int32) (k_13 : Int32) (k_14 : Int32) (k_15 : Int32) (a_19 : Nat) (k_16 : Int32) (a_20 : Nat)   : mm_CI l yX12_undo (mm_ws yX12_undo cX12_undo 1 (some .int)) ({ frames := 1, cells := 0, slots := 0, locals := 20 } : Room) G cy sz [(a_0, .inr (12, [.int 0, .ref a_1, .ref a_2, .ref a_3, .ref a_4, .ref a_5, .int k_0, .int k_1, .int k_2, .int k_3, .int k_4, .long k_5, .int k_6, .int k_7, .int k_8, .int k_9, .ref a_6, .ref a_7, .ref a_8, .ref a_9, .ref a_10, .ref a_11, .ref a_12, .ref a_13, .ref a_14, .ref a_15, .ref a_16, .ref a_17, .ref a_18, .int k_10, .int k_11, .int k_12, .int k_13, .int k_14, .int k_15, .ref a_19, .int k_16, .ref a_20])), (a_6, .inl (cy 1, 5, .inl (fun _ => 0)))] [.ref a_0] (fun u : Unit => [(a_0, .inr (12, [.int 0, .ref a_1, .ref a_2, .ref a_3, .ref a_4, .ref a_5, .int k_0, .int k_1, .int k_2, .int k_3, .int k_4, .long k_5, .int k_6, .int k_7, .int k_8, .int k_9, .ref a_6, .ref a_7, .ref a_8, .ref a_9, .ref a_10, .ref a_11, .ref a_12, .ref a_13, .ref a_14, .ref a_15, .ref a_16, .ref a_17, .ref a_18, .int k_10, .int k_11, .int k_12, .int k_13, .int k_14, .int k_15, .ref a_19, .int k_16, .ref a_20])), (a_6, .inl (cy 1, 5, .inl (fun _ => 0)))]) (fun (r : Int32) (u : Unit) => (-2) = r) 0 0 := by
  refine mm_begin (lv := [(0, .ref a_0)]) (by decide) (Nat.le_of_ble_eq_true rfl) rfl ?_
  intro p e s m below meth c A ls R args Q H locs hRe hQ hAe hx hb hr hlocks hml hown hnm hts hsz hA hS hP hK hD hl
  have hRf : R.frames = 1 := by rw [hRe]
  have hRl : R.locals = 20 := by rw [hRe]
  have hRc : R.cells = 0 := by rw [hRe]
  have hRs : R.slots = 0 := by rw [hRe]
  refine lv_aload_n hx hb dX12_undo_0 rfl (lv_at hl 0 rfl) ?_
  refine lv_iconst (v := 0) hx hb dX12_undo_1 (by decide) ?_
  refine va_put (D := G) (ci := 12) (v := .int 0) (ty := tyX12 0) (C := RX12) (T := TX12) (N := 38) hx hb hts (mm_i inlX12) tyX12 tyX12_ok nmX12 hown hK.1 hP hD hS 0 rfl rfl 0 (by decide) (mm_h hts mm_w177) (fun _ h9 => h9) rfl (tyX12_ok 0 (by decide)) rfl rfl (Nat.le_of_ble_eq_true rfl) dX12_undo_2 ?_
  clear hP hD hS
  clear H locs
  intro H locs (hP : va_P G vwCl [(a_0, .inr (12, [.int 0, .ref a_1, .ref a_2, .ref a_3, .ref a_4, .ref a_5, .int k_0, .int k_1, .int k_2, .int k_3, .int k_4, .long k_5, .int k_6, .int k_7, .int k_8, .int k_9, .ref a_6, .ref a_7, .ref a_8, .ref a_9, .ref a_10, .ref a_11, .ref a_12, .ref a_13, .ref a_14, .ref a_15, .ref a_16, .ref a_17, .ref a_18, .int k_10, .int k_11, .int k_12, .int k_13, .int k_14, .int k_15, .ref a_19, .int k_16, .ref a_20])), (a_6, .inl (cy 1, 5, .inl (fun _ => 0)))] H) (hD : va_D A [(a_0, .inr (12, [.int 0, .ref a_1, .ref a_2, .ref a_3, .ref a_4, .ref a_5, .int k_0, .int k_1, .int k_2, .int k_3, .int k_4, .long k_5, .int k_6, .int k_7, .int k_8, .int k_9, .ref a_6, .ref a_7, .ref a_8, .ref a_9, .ref a_10, .ref a_11, .ref a_12, .ref a_13, .ref a_14, .ref a_15, .ref a_16, .ref a_17, .ref a_18, .int k_10, .int k_11, .int k_12, .int k_13, .int k_14, .int k_15, .ref a_19, .int k_16, .ref a_20])), (a_6, .inl (cy 1, 5, .inl (fun _ => 0)))]) hS
  refine lv_aload_n hx hb dX12_undo_5 rfl (lv_at hl 0 rfl) ?_
  refine mm_finir (va_runV (As := []) (rest := []) ⟨hx, hb, hml, hown, hts⟩ (K232_X12_isBook l G cy H.size a_0 0 a_1 a_2 a_3 a_4 a_5 k_0 k_1 k_2 k_3 k_4 k_5 k_6 k_7 k_8 k_9 a_6 a_7 a_8 a_9 a_10 a_11 a_12 a_13 a_14 a_15 a_16 a_17 a_18 k_10 k_11 k_12 k_13 k_14 k_15 a_19 k_16 a_20 ) (cwV 0 hts (mm_gV mm_w653 mm_w654 mm_w655 mm_w5 mm_w656) rfl rfl rfl hd_X12_isBook ⟨by rw [hRf]; exact Nat.le_of_ble_eq_true rfl, by rw [hRl]; exact Nat.le_of_ble_eq_true rfl⟩) (mm_preV hK hP hD [0, 1] rfl rfl 0 rfl rfl rfl) rfl rfl hl.1 rfl (lv_room (Nat.le_of_ble_eq_true rfl)) dX12_undo_6 ⟨by rw [hRc]; exact Nat.le_of_ble_eq_true rfl, by rw [hRs]; exact Nat.le_of_ble_eq_true rfl⟩) hP hD hS hA [0, 1] rfl (fun _ => rfl) ?_
  clear hP hD hS
  clear H locs
  intro v1 _u H locs hw hP hD hS
  subst hw
  refine lv_if_ne (tgt := 15) hx hb dX12_undo_9 (by decide) (fun c2 => ?_) (fun c2 => ?_)
  · have q3 := mm_neL (lo := 1) (mm_ne c2) mm_k0 mm_k0 (by decide) (by decide)
    exact mm_no q3 (by decide)
  · refine lv_bipush (v := (-2)) hx hb dX12_undo_12 (by decide) ?_
    subst hAe
    rw [hQ]
    exact W.iret (v := (-2)) hx hb hr (fun t ht hW => ⟨⟨(-2), (), rfl, rfl, by rw [ht]; exact hP, hK.warm hW, hD⟩, hS.F ht⟩) hS.2.2 dX12_undo_14

set_option maxHeartbeats 4000000 in
set_option maxRecDepth 100000 in
theorem K262_X11_anew (l : Launch) (G : va_G) (cy : Nat → ClassId) (sz : Nat) (a_0 : Nat) (a_1 : Nat) (a_2 : Nat) (a_3 : Nat) (a_4 : Nat) (a_5 : Nat) (a_6 : Nat) (a_7 : Nat) (a_8 : Nat) (a_9 : Nat) (a_10 : Nat) (a_11 : Nat) (a_24 : Nat) (a_25 : Nat) (k_0 : Int32) (k_1 : Int32) (k_2 : Int32) (k_3 : Int32) (k_4 : Int32) (k_5 : Int32) (k_6 : Int32) (a_26 : Nat) (a_27 : Nat) (a_28 : Nat) (a_29 : Nat) (a_30 : Nat) (a_31 : Nat) (a_32 : Nat) (a_33 : Nat) (a_34 : Nat) (a_35 : Nat)   : mm_CI l yX11_anew (mm_ws yX11_anew cX11_anew 3 (some .int)) ({ frames := 0, cells := 0, slots := 0, locals := 0 } : Room) G cy sz [(a_0, .inr (11, [.ref a_1, .ref a_2, .ref a_3, .ref a_4, .ref a_5, .ref a_6, .ref a_7, .ref a_8, .ref a_9, .ref a_10, .ref a_11])), (a_3, .inr (10, [.ref a_24, .ref a_25])), (a_24, .inr (0, [.int 0, .int k_0, .int k_1, .int k_2, .int k_3, .int k_4, .int k_5, .int k_6, .ref a_26, .ref a_27, .ref a_28, .ref a_29, .ref a_30, .ref a_31, .ref a_32, .ref a_33, .ref a_34, .ref a_35]))] [.ref a_0] (fun u : Unit => [(a_0, .inr (11, [.ref a_1, .ref a_2, .ref a_3, .ref a_4, .ref a_5, .ref a_6, .ref a_7, .ref a_8, .ref a_9, .ref a_10, .ref a_11])), (a_3, .inr (10, [.ref a_24, .ref a_25])), (a_24, .inr (0, [.int 0, .int k_0, .int k_1, .int k_2, .int k_3, .int k_4, .int k_5, .int k_6, .ref a_26, .ref a_27, .ref a_28, .ref a_29, .ref a_30, .ref a_31, .ref a_32, .ref a_33, .ref a_34, .ref a_35]))]) (fun (r : Int32) (u : Unit) => (-2) = r) 0 0 := by
  refine mm_begin (lv := [(0, .ref a_0)]) (by decide) (Nat.le_of_ble_eq_true rfl) rfl ?_
  intro p e s m below meth c A ls R args Q H locs hRe hQ hAe hx hb hr hlocks hml hown hnm hts hsz hA hS hP hK hD hl
  have hRf : R.frames = 0 := by rw [hRe]
  have hRl : R.locals = 0 := by rw [hRe]
  have hRc : R.cells = 0 := by rw [hRe]
  have hRs : R.slots = 0 := by rw [hRe]
  refine lv_aload_n hx hb dX11_anew_0 rfl (lv_at hl 0 rfl) ?_
  refine va_get (D := G) (ci := 11) (v := .ref a_3) (C := RX11) (T := TX11) (N := 11) hx hb hts (mm_i inlX11) hown hK.1 hP 0 rfl rfl 2 (by decide) (mm_h hts mm_w24) (fun _ h9 => h9) rfl dX11_anew_1 ?_
  refine va_get (D := G) (ci := 10) (v := .ref a_24) (C := RX10) (T := TX10) (N := 2) hx hb hts (mm_i inlX10) hown hK.1 hP 1 rfl rfl 0 (by decide) (mm_h hts mm_w199) (fun _ h9 => h9) rfl dX11_anew_4 ?_
  refine va_get (D := G) (ci := 0) (v := .int 0) (C := RX0) (T := TX0) (N := 18) hx hb hts (mm_i inlX0) hown hK.1 hP 2 rfl rfl 0 (by decide) (mm_h hts mm_w200) (fun _ h9 => h9) rfl dX11_anew_7 ?_
  refine lv_if_ne (tgt := 16) hx hb dX11_anew_10 (by decide) (fun c1 => ?_) (fun c1 => ?_)
  · have q2 := mm_neL (lo := 1) (mm_ne c1) mm_k0 mm_k0 (by decide) (by decide)
    exact mm_no q2 (by decide)
  · refine lv_bipush (v := (-2)) hx hb dX11_anew_13 (by decide) ?_
    subst hAe
    rw [hQ]
    exact W.iret (v := (-2)) hx hb hr (fun t ht hW => ⟨⟨(-2), (), rfl, rfl, by rw [ht]; exact hP, hK.warm hW, hD⟩, hS.F ht⟩) hS.2.2 dX11_anew_15

set_option maxHeartbeats 4000000 in
set_option maxRecDepth 100000 in
theorem K263_X12_anew (l : Launch) (G : va_G) (cy : Nat → ClassId) (sz : Nat) (a_0 : Nat) (a_1 : Nat) (a_2 : Nat) (a_3 : Nat) (a_4 : Nat) (a_5 : Nat) (k_0 : Int32) (k_1 : Int32) (k_2 : Int32) (k_3 : Int32) (k_4 : Int32) (k_5 : Int64) (k_6 : Int32) (k_7 : Int32) (k_8 : Int32) (k_9 : Int32) (a_6 : Nat) (a_7 : Nat) (a_8 : Nat) (a_9 : Nat) (a_10 : Nat) (a_11 : Nat) (a_12 : Nat) (a_13 : Nat) (a_14 : Nat) (a_15 : Nat) (a_16 : Nat) (a_17 : Nat) (a_18 : Nat) (k_10 : Int32) (k_11 : Int32) (k_12 : Int32) (k_13 : Int32) (k_14 : Int32) (k_15 : Int32) (a_19 : Nat) (k_16 : Int32) (a_20 : Nat)   : mm_CI l yX12_anew (mm_ws yX12_anew cX12_anew 2 (some .int)) ({ frames := 1, cells := 0, slots := 0, locals := 20 } : Room) G cy sz [(a_0, .inr (12, [.int 0, .ref a_1, .ref a_2, .ref a_3, .ref a_4, .ref a_5, .int k_0, .int k_1, .int k_2, .int k_3, .int k_4, .long k_5, .int k_6, .int k_7, .int k_8, .int k_9, .ref a_6, .ref a_7, .ref a_8, .ref a_9, .ref a_10, .ref a_11, .ref a_12, .ref a_13, .ref a_14, .ref a_15, .ref a_16, .ref a_17, .ref a_18, .int k_10, .int k_11, .int k_12, .int k_13, .int k_14, .int k_15, .ref a_19, .int k_16, .ref a_20])), (a_6, .inl (cy 1, 5, .inl (fun _ => 0)))] [.ref a_0] (fun u : Unit => [(a_0, .inr (12, [.int 0, .ref a_1, .ref a_2, .ref a_3, .ref a_4, .ref a_5, .int k_0, .int k_1, .int k_2, .int k_3, .int k_4, .long k_5, .int k_6, .int k_7, .int k_8, .int k_9, .ref a_6, .ref a_7, .ref a_8, .ref a_9, .ref a_10, .ref a_11, .ref a_12, .ref a_13, .ref a_14, .ref a_15, .ref a_16, .ref a_17, .ref a_18, .int k_10, .int k_11, .int k_12, .int k_13, .int k_14, .int k_15, .ref a_19, .int k_16, .ref a_20])), (a_6, .inl (cy 1, 5, .inl (fun _ => 0)))]) (fun (r : Int32) (u : Unit) => (-2) = r) 0 0 := by
  refine mm_begin (lv := [(0, .ref a_0)]) (by decide) (Nat.le_of_ble_eq_true rfl) rfl ?_
  intro p e s m below meth c A ls R args Q H locs hRe hQ hAe hx hb hr hlocks hml hown hnm hts hsz hA hS hP hK hD hl
  have hRf : R.frames = 1 := by rw [hRe]
  have hRl : R.locals = 20 := by rw [hRe]
  have hRc : R.cells = 0 := by rw [hRe]
  have hRs : R.slots = 0 := by rw [hRe]
  refine lv_aload_n hx hb dX12_anew_0 rfl (lv_at hl 0 rfl) ?_
  refine lv_iconst (v := 0) hx hb dX12_anew_1 (by decide) ?_
  refine va_put (D := G) (ci := 12) (v := .int 0) (ty := tyX12 0) (C := RX12) (T := TX12) (N := 38) hx hb hts (mm_i inlX12) tyX12 tyX12_ok nmX12 hown hK.1 hP hD hS 0 rfl rfl 0 (by decide) (mm_h hts mm_w177) (fun _ h9 => h9) rfl (tyX12_ok 0 (by decide)) rfl rfl (Nat.le_of_ble_eq_true rfl) dX12_anew_2 ?_
  clear hP hD hS
  clear H locs
  intro H locs (hP : va_P G vwCl [(a_0, .inr (12, [.int 0, .ref a_1, .ref a_2, .ref a_3, .ref a_4, .ref a_5, .int k_0, .int k_1, .int k_2, .int k_3, .int k_4, .long k_5, .int k_6, .int k_7, .int k_8, .int k_9, .ref a_6, .ref a_7, .ref a_8, .ref a_9, .ref a_10, .ref a_11, .ref a_12, .ref a_13, .ref a_14, .ref a_15, .ref a_16, .ref a_17, .ref a_18, .int k_10, .int k_11, .int k_12, .int k_13, .int k_14, .int k_15, .ref a_19, .int k_16, .ref a_20])), (a_6, .inl (cy 1, 5, .inl (fun _ => 0)))] H) (hD : va_D A [(a_0, .inr (12, [.int 0, .ref a_1, .ref a_2, .ref a_3, .ref a_4, .ref a_5, .int k_0, .int k_1, .int k_2, .int k_3, .int k_4, .long k_5, .int k_6, .int k_7, .int k_8, .int k_9, .ref a_6, .ref a_7, .ref a_8, .ref a_9, .ref a_10, .ref a_11, .ref a_12, .ref a_13, .ref a_14, .ref a_15, .ref a_16, .ref a_17, .ref a_18, .int k_10, .int k_11, .int k_12, .int k_13, .int k_14, .int k_15, .ref a_19, .int k_16, .ref a_20])), (a_6, .inl (cy 1, 5, .inl (fun _ => 0)))]) hS
  refine lv_aload_n hx hb dX12_anew_5 rfl (lv_at hl 0 rfl) ?_
  refine mm_finir (va_runV (As := []) (rest := []) ⟨hx, hb, hml, hown, hts⟩ (K232_X12_isBook l G cy H.size a_0 0 a_1 a_2 a_3 a_4 a_5 k_0 k_1 k_2 k_3 k_4 k_5 k_6 k_7 k_8 k_9 a_6 a_7 a_8 a_9 a_10 a_11 a_12 a_13 a_14 a_15 a_16 a_17 a_18 k_10 k_11 k_12 k_13 k_14 k_15 a_19 k_16 a_20 ) (cwV 0 hts (mm_gV mm_w653 mm_w654 mm_w655 mm_w5 mm_w656) rfl rfl rfl hd_X12_isBook ⟨by rw [hRf]; exact Nat.le_of_ble_eq_true rfl, by rw [hRl]; exact Nat.le_of_ble_eq_true rfl⟩) (mm_preV hK hP hD [0, 1] rfl rfl 0 rfl rfl rfl) rfl rfl hl.1 rfl (lv_room (Nat.le_of_ble_eq_true rfl)) dX12_anew_6 ⟨by rw [hRc]; exact Nat.le_of_ble_eq_true rfl, by rw [hRs]; exact Nat.le_of_ble_eq_true rfl⟩) hP hD hS hA [0, 1] rfl (fun _ => rfl) ?_
  clear hP hD hS
  clear H locs
  intro v1 _u H locs hw hP hD hS
  subst hw
  refine lv_if_ne (tgt := 15) hx hb dX12_anew_9 (by decide) (fun c2 => ?_) (fun c2 => ?_)
  · have q3 := mm_neL (lo := 1) (mm_ne c2) mm_k0 mm_k0 (by decide) (by decide)
    exact mm_no q3 (by decide)
  · refine lv_bipush (v := (-2)) hx hb dX12_anew_12 (by decide) ?_
    subst hAe
    rw [hQ]
    exact W.iret (v := (-2)) hx hb hr (fun t ht hW => ⟨⟨(-2), (), rfl, rfl, by rw [ht]; exact hP, hK.warm hW, hD⟩, hS.F ht⟩) hS.2.2 dX12_anew_14

set_option maxHeartbeats 4000000 in
set_option maxRecDepth 100000 in
theorem K264_X11_drawn (l : Launch) (G : va_G) (cy : Nat → ClassId) (sz : Nat) (a_0 : Nat) (i_0 : Int32) (i_1 : Int32) (a_1 : Nat) (a_2 : Nat) (a_3 : Nat) (a_4 : Nat) (a_5 : Nat) (a_6 : Nat) (a_7 : Nat) (a_8 : Nat) (a_9 : Nat) (a_10 : Nat) (a_11 : Nat) (a_24 : Nat) (a_25 : Nat) (k_0 : Int32) (k_1 : Int32) (k_2 : Int32) (k_3 : Int32) (k_4 : Int32) (k_5 : Int32) (k_6 : Int32) (a_26 : Nat) (a_27 : Nat) (a_28 : Nat) (a_29 : Nat) (a_30 : Nat) (a_31 : Nat) (a_32 : Nat) (a_33 : Nat) (a_34 : Nat) (a_35 : Nat)   : mm_CI l yX11_drawn (mm_ws yX11_drawn cX11_drawn 3 (some .int)) ({ frames := 0, cells := 0, slots := 0, locals := 0 } : Room) G cy sz [(a_0, .inr (11, [.ref a_1, .ref a_2, .ref a_3, .ref a_4, .ref a_5, .ref a_6, .ref a_7, .ref a_8, .ref a_9, .ref a_10, .ref a_11])), (a_3, .inr (10, [.ref a_24, .ref a_25])), (a_24, .inr (0, [.int 0, .int k_0, .int k_1, .int k_2, .int k_3, .int k_4, .int k_5, .int k_6, .ref a_26, .ref a_27, .ref a_28, .ref a_29, .ref a_30, .ref a_31, .ref a_32, .ref a_33, .ref a_34, .ref a_35]))] [.ref a_0, .int i_0, .int i_1] (fun u : Unit => [(a_0, .inr (11, [.ref a_1, .ref a_2, .ref a_3, .ref a_4, .ref a_5, .ref a_6, .ref a_7, .ref a_8, .ref a_9, .ref a_10, .ref a_11])), (a_3, .inr (10, [.ref a_24, .ref a_25])), (a_24, .inr (0, [.int 0, .int k_0, .int k_1, .int k_2, .int k_3, .int k_4, .int k_5, .int k_6, .ref a_26, .ref a_27, .ref a_28, .ref a_29, .ref a_30, .ref a_31, .ref a_32, .ref a_33, .ref a_34, .ref a_35]))]) (fun (r : Int32) (u : Unit) => (-2) = r) 0 0 := by
  refine mm_begin (lv := [(0, .ref a_0), (1, .int i_0), (2, .int i_1)]) (by decide) (Nat.le_of_ble_eq_true rfl) rfl ?_
  intro p e s m below meth c A ls R args Q H locs hRe hQ hAe hx hb hr hlocks hml hown hnm hts hsz hA hS hP hK hD hl
  have hRf : R.frames = 0 := by rw [hRe]
  have hRl : R.locals = 0 := by rw [hRe]
  have hRc : R.cells = 0 := by rw [hRe]
  have hRs : R.slots = 0 := by rw [hRe]
  refine lv_aload_n hx hb dX11_drawn_0 rfl (lv_at hl 0 rfl) ?_
  refine va_get (D := G) (ci := 11) (v := .ref a_3) (C := RX11) (T := TX11) (N := 11) hx hb hts (mm_i inlX11) hown hK.1 hP 0 rfl rfl 2 (by decide) (mm_h hts mm_w24) (fun _ h9 => h9) rfl dX11_drawn_1 ?_
  refine va_get (D := G) (ci := 10) (v := .ref a_24) (C := RX10) (T := TX10) (N := 2) hx hb hts (mm_i inlX10) hown hK.1 hP 1 rfl rfl 0 (by decide) (mm_h hts mm_w199) (fun _ h9 => h9) rfl dX11_drawn_4 ?_
  refine va_get (D := G) (ci := 0) (v := .int 0) (C := RX0) (T := TX0) (N := 18) hx hb hts (mm_i inlX0) hown hK.1 hP 2 rfl rfl 0 (by decide) (mm_h hts mm_w200) (fun _ h9 => h9) rfl dX11_drawn_7 ?_
  refine lv_if_eq (tgt := 27) hx hb dX11_drawn_10 (by decide) (fun c1 => ?_) (fun c1 => ?_)
  · refine lv_bipush (v := (-2)) hx hb dX11_drawn_27 (by decide) ?_
    subst hAe
    rw [hQ]
    exact W.iret (v := (-2)) hx hb hr (fun t ht hW => ⟨⟨(-2), (), rfl, rfl, by rw [ht]; exact hP, hK.warm hW, hD⟩, hS.F ht⟩) hS.2.2 dX11_drawn_29
  · have q2 := mm_neL (lo := 1) (mm_ne c1) mm_k0 mm_k0 (by decide) (by decide)
    exact mm_no q2 (by decide)

set_option maxHeartbeats 4000000 in
set_option maxRecDepth 100000 in
theorem K265_X12_drawn (l : Launch) (G : va_G) (cy : Nat → ClassId) (sz : Nat) (a_0 : Nat) (i_0 : Int32) (i_1 : Int32) (a_1 : Nat) (a_2 : Nat) (a_3 : Nat) (a_4 : Nat) (a_5 : Nat) (k_0 : Int32) (k_1 : Int32) (k_2 : Int32) (k_3 : Int32) (k_4 : Int32) (k_5 : Int64) (k_6 : Int32) (k_7 : Int32) (k_8 : Int32) (k_9 : Int32) (a_6 : Nat) (a_7 : Nat) (a_8 : Nat) (a_9 : Nat) (a_10 : Nat) (a_11 : Nat) (a_12 : Nat) (a_13 : Nat) (a_14 : Nat) (a_15 : Nat) (a_16 : Nat) (a_17 : Nat) (a_18 : Nat) (k_10 : Int32) (k_11 : Int32) (k_12 : Int32) (k_13 : Int32) (k_14 : Int32) (k_15 : Int32) (a_19 : Nat) (k_16 : Int32) (a_20 : Nat)   : mm_CI l yX12_drawn (mm_ws yX12_drawn cX12_drawn 3 (some .int)) ({ frames := 1, cells := 0, slots := 0, locals := 20 } : Room) G cy sz [(a_0, .inr (12, [.int 0, .ref a_1, .ref a_2, .ref a_3, .ref a_4, .ref a_5, .int k_0, .int k_1, .int k_2, .int k_3, .int k_4, .long k_5, .int k_6, .int k_7, .int k_8, .int k_9, .ref a_6, .ref a_7, .ref a_8, .ref a_9, .ref a_10, .ref a_11, .ref a_12, .ref a_13, .ref a_14, .ref a_15, .ref a_16, .ref a_17, .ref a_18, .int k_10, .int k_11, .int k_12, .int k_13, .int k_14, .int k_15, .ref a_19, .int k_16, .ref a_20])), (a_6, .inl (cy 1, 5, .inl (fun _ => 0)))] [.ref a_0, .int i_0, .int i_1] (fun u : Unit => [(a_0, .inr (12, [.int 0, .ref a_1, .ref a_2, .ref a_3, .ref a_4, .ref a_5, .int k_0, .int k_1, .int k_2, .int k_3, .int k_4, .long k_5, .int k_6, .int k_7, .int k_8, .int k_9, .ref a_6, .ref a_7, .ref a_8, .ref a_9, .ref a_10, .ref a_11, .ref a_12, .ref a_13, .ref a_14, .ref a_15, .ref a_16, .ref a_17, .ref a_18, .int k_10, .int k_11, .int k_12, .int k_13, .int k_14, .int k_15, .ref a_19, .int k_16, .ref a_20])), (a_6, .inl (cy 1, 5, .inl (fun _ => 0)))]) (fun (r : Int32) (u : Unit) => (-2) = r) 0 0 := by
  refine mm_begin (lv := [(0, .ref a_0), (1, .int i_0), (2, .int i_1)]) (by decide) (Nat.le_of_ble_eq_true rfl) rfl ?_
  intro p e s m below meth c A ls R args Q H locs hRe hQ hAe hx hb hr hlocks hml hown hnm hts hsz hA hS hP hK hD hl
  have hRf : R.frames = 1 := by rw [hRe]
  have hRl : R.locals = 20 := by rw [hRe]
  have hRc : R.cells = 0 := by rw [hRe]
  have hRs : R.slots = 0 := by rw [hRe]
  refine lv_aload_n hx hb dX12_drawn_0 rfl (lv_at hl 0 rfl) ?_
  refine lv_iconst (v := 0) hx hb dX12_drawn_1 (by decide) ?_
  refine va_put (D := G) (ci := 12) (v := .int 0) (ty := tyX12 0) (C := RX12) (T := TX12) (N := 38) hx hb hts (mm_i inlX12) tyX12 tyX12_ok nmX12 hown hK.1 hP hD hS 0 rfl rfl 0 (by decide) (mm_h hts mm_w177) (fun _ h9 => h9) rfl (tyX12_ok 0 (by decide)) rfl rfl (Nat.le_of_ble_eq_true rfl) dX12_drawn_2 ?_
  clear hP hD hS
  clear H locs
  intro H locs (hP : va_P G vwCl [(a_0, .inr (12, [.int 0, .ref a_1, .ref a_2, .ref a_3, .ref a_4, .ref a_5, .int k_0, .int k_1, .int k_2, .int k_3, .int k_4, .long k_5, .int k_6, .int k_7, .int k_8, .int k_9, .ref a_6, .ref a_7, .ref a_8, .ref a_9, .ref a_10, .ref a_11, .ref a_12, .ref a_13, .ref a_14, .ref a_15, .ref a_16, .ref a_17, .ref a_18, .int k_10, .int k_11, .int k_12, .int k_13, .int k_14, .int k_15, .ref a_19, .int k_16, .ref a_20])), (a_6, .inl (cy 1, 5, .inl (fun _ => 0)))] H) (hD : va_D A [(a_0, .inr (12, [.int 0, .ref a_1, .ref a_2, .ref a_3, .ref a_4, .ref a_5, .int k_0, .int k_1, .int k_2, .int k_3, .int k_4, .long k_5, .int k_6, .int k_7, .int k_8, .int k_9, .ref a_6, .ref a_7, .ref a_8, .ref a_9, .ref a_10, .ref a_11, .ref a_12, .ref a_13, .ref a_14, .ref a_15, .ref a_16, .ref a_17, .ref a_18, .int k_10, .int k_11, .int k_12, .int k_13, .int k_14, .int k_15, .ref a_19, .int k_16, .ref a_20])), (a_6, .inl (cy 1, 5, .inl (fun _ => 0)))]) hS
  refine lv_aload_n hx hb dX12_drawn_5 rfl (lv_at hl 0 rfl) ?_
  refine mm_finir (va_runV (As := []) (rest := []) ⟨hx, hb, hml, hown, hts⟩ (K232_X12_isBook l G cy H.size a_0 0 a_1 a_2 a_3 a_4 a_5 k_0 k_1 k_2 k_3 k_4 k_5 k_6 k_7 k_8 k_9 a_6 a_7 a_8 a_9 a_10 a_11 a_12 a_13 a_14 a_15 a_16 a_17 a_18 k_10 k_11 k_12 k_13 k_14 k_15 a_19 k_16 a_20 ) (cwV 0 hts (mm_gV mm_w653 mm_w654 mm_w655 mm_w5 mm_w656) rfl rfl rfl hd_X12_isBook ⟨by rw [hRf]; exact Nat.le_of_ble_eq_true rfl, by rw [hRl]; exact Nat.le_of_ble_eq_true rfl⟩) (mm_preV hK hP hD [0, 1] rfl rfl 0 rfl rfl rfl) rfl rfl hl.1 rfl (lv_room (Nat.le_of_ble_eq_true rfl)) dX12_drawn_6 ⟨by rw [hRc]; exact Nat.le_of_ble_eq_true rfl, by rw [hRs]; exact Nat.le_of_ble_eq_true rfl⟩) hP hD hS hA [0, 1] rfl (fun _ => rfl) ?_
  clear hP hD hS
  clear H locs
  intro v1 _u H locs hw hP hD hS
  subst hw
  refine lv_if_eq (tgt := 41) hx hb dX12_drawn_9 (by decide) (fun c2 => ?_) (fun c2 => ?_)
  · refine lv_bipush (v := (-2)) hx hb dX12_drawn_41 (by decide) ?_
    subst hAe
    rw [hQ]
    exact W.iret (v := (-2)) hx hb hr (fun t ht hW => ⟨⟨(-2), (), rfl, rfl, by rw [ht]; exact hP, hK.warm hW, hD⟩, hS.F ht⟩) hS.2.2 dX12_drawn_43
  · have q3 := mm_neL (lo := 1) (mm_ne c2) mm_k0 mm_k0 (by decide) (by decide)
    exact mm_no q3 (by decide)

set_option maxHeartbeats 4000000 in
set_option maxRecDepth 100000 in
theorem K266_X11_isSeed (l : Launch) (G : va_G) (cy : Nat → ClassId) (sz : Nat) (i_0 : Int32)   : mm_CI l yX11_isSeed (mm_ws yX11_isSeed cX11_isSeed 1 (some .boolean)) ({ frames := 0, cells := 0, slots := 0, locals := 0 } : Room) G cy sz [] [.int i_0] (fun u : Unit => []) (fun (r : Int32) (u : Unit) => ((0 = r ∧ mm_rg i_0 (-2147483648) (-1)) ∨ (0 = r ∧ mm_rg i_0 2000000001 2147483647) ∨ (1 = r ∧ mm_rg i_0 0 2000000000))) 0 0 := by
  refine mm_begin (lv := [(0, .int i_0)]) (by decide) (Nat.le_of_ble_eq_true rfl) rfl ?_
  intro p e s m below meth c A ls R args Q H locs hRe hQ hAe hx hb hr hlocks hml hown hnm hts hsz hA hS hP hK hD hl
  have hRf : R.frames = 0 := by rw [hRe]
  have hRl : R.locals = 0 := by rw [hRe]
  have hRc : R.cells = 0 := by rw [hRe]
  have hRs : R.slots = 0 := by rw [hRe]
  refine lv_iload_n hx hb dX11_isSeed_0 rfl (lv_at hl 0 rfl) ?_
  refine lv_if_lt (tgt := 15) hx hb dX11_isSeed_1 (by decide) (fun c1 => ?_) (fun c1 => ?_)
  · have q2 := mm_ltL (h := (-1)) (mm_lt c1) (mm_top i_0) mm_k0 (by decide)
    refine lv_iconst (v := 0) hx hb dX11_isSeed_15 (by decide) ?_
    subst hAe
    rw [hQ]
    exact W.zret (v := 0) hx hb hr rfl (fun t ht hW => ⟨⟨0, (), rfl, (Or.inl ⟨rfl, q2⟩), by rw [ht]; exact hP, hK.warm hW, hD⟩, hS.F ht⟩) hS.2.2 dX11_isSeed_16
  · have q3 := mm_leR (mm_nlt c1) mm_k0 (mm_top i_0)
    refine lv_iload_n hx hb dX11_isSeed_4 rfl (lv_at hl 0 rfl) ?_
    refine lv_ldcw (v := 2000000000) hx hb hown (mm_h hts mm_w1595) dX11_isSeed_5 ?_
    refine lv_icmp_gt (tgt := 15) hx hb dX11_isSeed_8 (by decide) (fun c4 => ?_) (fun c4 => ?_)
    · have q5 := mm_ltR (lo := 2000000001) (mm_lt c4) mm_k2000000000 q3 (by decide)
      refine lv_iconst (v := 0) hx hb dX11_isSeed_15 (by decide) ?_
      subst hAe
      rw [hQ]
      exact W.zret (v := 0) hx hb hr rfl (fun t ht hW => ⟨⟨0, (), rfl, (Or.inr (Or.inl ⟨rfl, q5⟩)), by rw [ht]; exact hP, hK.warm hW, hD⟩, hS.F ht⟩) hS.2.2 dX11_isSeed_16
    · have q6 := mm_leL (mm_nlt c4) q3 mm_k2000000000
      refine lv_iconst (v := 1) hx hb dX11_isSeed_11 (by decide) ?_
      refine lv_goto (tgt := 16) hx hb dX11_isSeed_12 (by decide) ?_
      subst hAe
      rw [hQ]
      exact W.zret (v := 1) hx hb hr rfl (fun t ht hW => ⟨⟨1, (), rfl, (Or.inr (Or.inr ⟨rfl, q6⟩)), by rw [ht]; exact hP, hK.warm hW, hD⟩, hS.F ht⟩) hS.2.2 dX11_isSeed_16

set_option maxHeartbeats 4000000 in
set_option maxRecDepth 100000 in
theorem K267_X11_luck (l : Launch) (G : va_G) (cy : Nat → ClassId) (sz : Nat) (a_0 : Nat) (i_0 : Int32) (i_1 : Int32) (i_2 : Int32) (i_3 : Int32) (i_4 : Int32) (a_1 : Nat) (a_2 : Nat) (a_3 : Nat) (a_4 : Nat) (a_5 : Nat) (a_6 : Nat) (a_7 : Nat) (a_8 : Nat) (a_9 : Nat) (a_10 : Nat) (a_11 : Nat) (a_24 : Nat) (a_25 : Nat) (k_0 : Int32) (k_1 : Int32) (k_2 : Int32) (k_3 : Int32) (k_4 : Int32) (k_5 : Int32) (k_6 : Int32) (a_26 : Nat) (a_27 : Nat) (a_28 : Nat) (a_29 : Nat) (a_30 : Nat) (a_31 : Nat) (a_32 : Nat) (a_33 : Nat) (a_34 : Nat) (a_35 : Nat)   : mm_CI l yX11_luck (mm_ws yX11_luck cX11_luck 8 (some .int)) ({ frames := 2, cells := 0, slots := 0, locals := 44 } : Room) G cy sz [(a_0, .inr (11, [.ref a_1, .ref a_2, .ref a_3, .ref a_4, .ref a_5, .ref a_6, .ref a_7, .ref a_8, .ref a_9, .ref a_10, .ref a_11])), (a_3, .inr (10, [.ref a_24, .ref a_25])), (a_24, .inr (0, [.int k_0, .int k_1, .int k_2, .int k_3, .int k_4, .int 0, .int k_5, .int k_6, .ref a_26, .ref a_27, .ref a_28, .ref a_29, .ref a_30, .ref a_31, .ref a_32, .ref a_33, .ref a_34, .ref a_35]))] [.ref a_0, .int i_0, .int i_1, .int i_2, .int i_3, .int i_4] (fun u : Unit => [(a_0, .inr (11, [.ref a_1, .ref a_2, .ref a_3, .ref a_4, .ref a_5, .ref a_6, .ref a_7, .ref a_8, .ref a_9, .ref a_10, .ref a_11])), (a_3, .inr (10, [.ref a_24, .ref a_25])), (a_24, .inr (0, [.int k_0, .int k_1, .int k_2, .int k_3, .int k_4, .int 0, .int k_5, .int k_6, .ref a_26, .ref a_27, .ref a_28, .ref a_29, .ref a_30, .ref a_31, .ref a_32, .ref a_33, .ref a_34, .ref a_35]))]) (fun (r : Int32) (u : Unit) => (-2) = r) 0 0 := by
  refine mm_begin (lv := [(0, .ref a_0), (1, .int i_0), (2, .int i_1), (3, .int i_2), (4, .int i_3), (5, .int i_4)]) (by decide) (Nat.le_of_ble_eq_true rfl) rfl ?_
  intro p e s m below meth c A ls R args Q H locs hRe hQ hAe hx hb hr hlocks hml hown hnm hts hsz hA hS hP hK hD hl
  have hRf : R.frames = 2 := by rw [hRe]
  have hRl : R.locals = 44 := by rw [hRe]
  have hRc : R.cells = 0 := by rw [hRe]
  have hRs : R.slots = 0 := by rw [hRe]
  refine lv_iload_n hx hb dX11_luck_0 rfl (lv_at hl 1 rfl) ?_
  refine mm_finir (va_runS (As := [.int i_0]) (rest := []) ⟨hx, hb, hml, hown, hts⟩ (K266_X11_isSeed l G cy H.size i_0 ) (va_cwS 1 hts (mm_gS mm_w1592 mm_w1593 mm_w2 mm_w1594) rfl rfl rfl hs_X11_isSeed ⟨by rw [hRf]; exact Nat.le_of_ble_eq_true rfl, by rw [hRl]; exact Nat.le_of_ble_eq_true rfl⟩) (mm_preS hK hP hD [] rfl rfl) rfl rfl hl.1 rfl (lv_room (Nat.le_of_ble_eq_true rfl)) dX11_luck_1 ⟨by rw [hRc]; exact Nat.le_of_ble_eq_true rfl, by rw [hRs]; exact Nat.le_of_ble_eq_true rfl⟩) hP hD hS hA [] rfl (fun _ => rfl) ?_
  clear hP hD hS
  clear H locs
  intro v1 _u H locs hw hP hD hS
  rcases hw with ⟨rfl, w2⟩ | ⟨rfl, w3⟩ | ⟨rfl, w4⟩
  · refine lv_if_eq (tgt := 30) hx hb dX11_luck_4 (by decide) (fun c5 => ?_) (fun c5 => ?_)
    · refine lv_bipush (v := (-2)) hx hb dX11_luck_30 (by decide) ?_
      subst hAe
      rw [hQ]
      exact W.iret (v := (-2)) hx hb hr (fun t ht hW => ⟨⟨(-2), (), rfl, rfl, by rw [ht]; exact hP, hK.warm hW, hD⟩, hS.F ht⟩) hS.2.2 dX11_luck_32
    · have q6 := mm_neL (lo := 1) (mm_ne c5) mm_k0 mm_k0 (by decide) (by decide)
      exact mm_no q6 (by decide)
  · refine lv_if_eq (tgt := 30) hx hb dX11_luck_4 (by decide) (fun c7 => ?_) (fun c7 => ?_)
    · refine lv_bipush (v := (-2)) hx hb dX11_luck_30 (by decide) ?_
      subst hAe
      rw [hQ]
      exact W.iret (v := (-2)) hx hb hr (fun t ht hW => ⟨⟨(-2), (), rfl, rfl, by rw [ht]; exact hP, hK.warm hW, hD⟩, hS.F ht⟩) hS.2.2 dX11_luck_32
    · have q8 := mm_neL (lo := 1) (mm_ne c7) mm_k0 mm_k0 (by decide) (by decide)
      exact mm_no q8 (by decide)
  · refine lv_if_eq (tgt := 30) hx hb dX11_luck_4 (by decide) (fun c9 => ?_) (fun c9 => ?_)
    · exact mm_eqN c9.symm mm_k0 mm_k1 (by decide)
    · refine lv_iload_n hx hb dX11_luck_7 rfl (lv_at hl 2 rfl) ?_
      refine lv_iconst (v := 1) hx hb dX11_luck_8 (by decide) ?_
      refine lv_icmp_lt (tgt := 30) hx hb dX11_luck_9 (by decide) (fun c10 => ?_) (fun c10 => ?_)
      · have q11 := mm_ltL (h := 0) (mm_lt c10) (mm_top i_1) mm_k1 (by decide)
        refine lv_bipush (v := (-2)) hx hb dX11_luck_30 (by decide) ?_
        subst hAe
        rw [hQ]
        exact W.iret (v := (-2)) hx hb hr (fun t ht hW => ⟨⟨(-2), (), rfl, rfl, by rw [ht]; exact hP, hK.warm hW, hD⟩, hS.F ht⟩) hS.2.2 dX11_luck_32
      · have q12 := mm_leR (mm_nlt c10) mm_k1 (mm_top i_1)
        refine lv_iload_n hx hb dX11_luck_12 rfl (lv_at hl 2 rfl) ?_
        refine lv_bipush (v := 20) hx hb dX11_luck_13 (by decide) ?_
        refine lv_icmp_gt (tgt := 30) hx hb dX11_luck_15 (by decide) (fun c13 => ?_) (fun c13 => ?_)
        · have q14 := mm_ltR (lo := 21) (mm_lt c13) mm_k20 q12 (by decide)
          refine lv_bipush (v := (-2)) hx hb dX11_luck_30 (by decide) ?_
          subst hAe
          rw [hQ]
          exact W.iret (v := (-2)) hx hb hr (fun t ht hW => ⟨⟨(-2), (), rfl, rfl, by rw [ht]; exact hP, hK.warm hW, hD⟩, hS.F ht⟩) hS.2.2 dX11_luck_32
        · have q15 := mm_leL (mm_nlt c13) q12 mm_k20
          refine lv_aload_n hx hb dX11_luck_18 rfl (lv_at hl 0 rfl) ?_
          refine lv_iload_n hx hb dX11_luck_19 rfl (lv_at hl 3 rfl) ?_
          refine lv_iload hx hb dX11_luck_20 (lv_at hl 4 rfl) ?_
          refine lv_iload hx hb dX11_luck_22 (lv_at hl 5 rfl) ?_
          refine mm_finir (va_runV (As := [.int i_2, .int i_3, .int i_4]) (rest := []) ⟨hx, hb, hml, hown, hts⟩ (K150_X11_isReading l G cy H.size a_0 i_2 i_3 i_4 a_1 a_2 a_3 a_4 a_5 a_6 a_7 a_8 a_9 a_10 a_11 a_24 a_25 k_0 k_1 k_2 k_3 k_4 k_5 k_6 a_26 a_27 a_28 a_29 a_30 a_31 a_32 a_33 a_34 a_35 ) (cwV 3 hts (mm_gV mm_w825 mm_w826 mm_w827 mm_w2 mm_w828) rfl rfl rfl hd_X11_isReading ⟨by rw [hRf]; exact Nat.le_of_ble_eq_true rfl, by rw [hRl]; exact Nat.le_of_ble_eq_true rfl⟩) (mm_preV hK hP hD [0, 1, 2] rfl rfl 0 rfl rfl rfl) rfl rfl hl.1 rfl (lv_room (Nat.le_of_ble_eq_true rfl)) dX11_luck_24 ⟨by rw [hRc]; exact Nat.le_of_ble_eq_true rfl, by rw [hRs]; exact Nat.le_of_ble_eq_true rfl⟩) hP hD hS hA [0, 1, 2] rfl (fun _ => rfl) ?_
          clear hP hD hS
          clear H locs
          intro v16 _u H locs hw hP hD hS
          subst hw
          refine lv_if_ne (tgt := 33) hx hb dX11_luck_27 (by decide) (fun c17 => ?_) (fun c17 => ?_)
          · have q18 := mm_neL (lo := 1) (mm_ne c17) mm_k0 mm_k0 (by decide) (by decide)
            exact mm_no q18 (by decide)
          · refine lv_bipush (v := (-2)) hx hb dX11_luck_30 (by decide) ?_
            subst hAe
            rw [hQ]
            exact W.iret (v := (-2)) hx hb hr (fun t ht hW => ⟨⟨(-2), (), rfl, rfl, by rw [ht]; exact hP, hK.warm hW, hD⟩, hS.F ht⟩) hS.2.2 dX11_luck_32

set_option maxHeartbeats 4000000 in
set_option maxRecDepth 100000 in
theorem K268_X12_in (l : Launch) (G : va_G) (cy : Nat → ClassId) (sz : Nat) (j_0 : Int64) (h0 : mm_rl j_0 (-2147483648) 2147483647)  : mm_CI l yX12_in (mm_ws yX12_in cX12_in 6 (some .boolean)) ({ frames := 0, cells := 0, slots := 0, locals := 0 } : Room) G cy sz [] [.long j_0, .long 0, .long 2000000000] (fun u : Unit => []) (fun (r : Int32) (u : Unit) => ((0 = r ∧ mm_rl j_0 (-2147483648) (-1)) ∨ (0 = r ∧ mm_rl j_0 2000000001 2147483647) ∨ (1 = r ∧ mm_rl j_0 0 2000000000))) 0 0 := by
  refine mm_begin (lv := [(0, .long j_0), (2, .long 0), (4, .long 2000000000)]) (by decide) (Nat.le_of_ble_eq_true rfl) rfl ?_
  intro p e s m below meth c A ls R args Q H locs hRe hQ hAe hx hb hr hlocks hml hown hnm hts hsz hA hS hP hK hD hl
  have hRf : R.frames = 0 := by rw [hRe]
  have hRl : R.locals = 0 := by rw [hRe]
  have hRc : R.cells = 0 := by rw [hRe]
  have hRs : R.slots = 0 := by rw [hRe]
  refine lv_lload_n hx hb dX12_in_0 rfl (lv_at hl 0 rfl) ?_
  refine lv_lload_n hx hb dX12_in_1 rfl (lv_at hl 1 rfl) ?_
  refine W.lcmp hx hb dX12_in_2 ?_
  refine lv_topi (fun v1 ev1 => ?_)
  refine lv_if_lt (tgt := 17) hx hb dX12_in_3 (by decide) (fun c2 => ?_) (fun c2 => ?_)
  · have q3 := mm_ltLl (h := (-1)) (mm_cmp_lt ev1 c2) h0 mm_kl0 (by decide)
    refine lv_iconst (v := 0) hx hb dX12_in_17 (by decide) ?_
    subst hAe
    rw [hQ]
    exact W.zret (v := 0) hx hb hr rfl (fun t ht hW => ⟨⟨0, (), rfl, (Or.inl ⟨rfl, q3⟩), by rw [ht]; exact hP, hK.warm hW, hD⟩, hS.F ht⟩) hS.2.2 dX12_in_18
  · have q4 := mm_leRl (mm_cmp_ge ev1 (mm_n_lt c2)) mm_kl0 h0
    refine lv_lload_n hx hb dX12_in_6 rfl (lv_at hl 0 rfl) ?_
    refine lv_lload hx hb dX12_in_7 (lv_at hl 2 rfl) ?_
    refine W.lcmp hx hb dX12_in_9 ?_
    refine lv_topi (fun v5 ev5 => ?_)
    refine lv_if_gt (tgt := 17) hx hb dX12_in_10 (by decide) (fun c6 => ?_) (fun c6 => ?_)
    · have q7 := mm_ltRl (lo := 2000000001) (mm_cmp_gt ev5 c6) mm_kl2000000000 q4 (by decide)
      refine lv_iconst (v := 0) hx hb dX12_in_17 (by decide) ?_
      subst hAe
      rw [hQ]
      exact W.zret (v := 0) hx hb hr rfl (fun t ht hW => ⟨⟨0, (), rfl, (Or.inr (Or.inl ⟨rfl, q7⟩)), by rw [ht]; exact hP, hK.warm hW, hD⟩, hS.F ht⟩) hS.2.2 dX12_in_18
    · have q8 := mm_leLl (mm_cmp_le ev5 (mm_n_gt c6)) q4 mm_kl2000000000
      refine lv_iconst (v := 1) hx hb dX12_in_13 (by decide) ?_
      refine lv_goto (tgt := 18) hx hb dX12_in_14 (by decide) ?_
      subst hAe
      rw [hQ]
      exact W.zret (v := 1) hx hb hr rfl (fun t ht hW => ⟨⟨1, (), rfl, (Or.inr (Or.inr ⟨rfl, q8⟩)), by rw [ht]; exact hP, hK.warm hW, hD⟩, hS.F ht⟩) hS.2.2 dX12_in_18

set_option maxHeartbeats 4000000 in
set_option maxRecDepth 100000 in
theorem K269_X12_isSeed (l : Launch) (G : va_G) (cy : Nat → ClassId) (sz : Nat) (i_0 : Int32)   : mm_CI l yX12_isSeed (mm_ws yX12_isSeed cX12_isSeed 1 (some .boolean)) ({ frames := 1, cells := 0, slots := 0, locals := 25 } : Room) G cy sz [] [.int i_0] (fun u : Unit => []) (fun (r : Int32) (u : Unit) => ((0 = r ∧ mm_rg i_0 (-2147483648) (-1)) ∨ (0 = r ∧ mm_rg i_0 2000000001 2147483647) ∨ (1 = r ∧ mm_rg i_0 0 2000000000))) 0 0 := by
  refine mm_begin (lv := [(0, .int i_0)]) (by decide) (Nat.le_of_ble_eq_true rfl) rfl ?_
  intro p e s m below meth c A ls R args Q H locs hRe hQ hAe hx hb hr hlocks hml hown hnm hts hsz hA hS hP hK hD hl
  have hRf : R.frames = 1 := by rw [hRe]
  have hRl : R.locals = 25 := by rw [hRe]
  have hRc : R.cells = 0 := by rw [hRe]
  have hRs : R.slots = 0 := by rw [hRe]
  refine lv_iload_n hx hb dX12_isSeed_0 rfl (lv_at hl 0 rfl) ?_
  obtain ⟨v1, ev1⟩ : ∃ y : Int64, y = i_0.toInt64 := ⟨_, rfl⟩
  refine lv_i2l hx hb dX12_isSeed_1 ev1.symm ?_
  have rv1 : mm_rl v1 (-2147483648) 2147483647 := mm_i2l ev1 (mm_top i_0)
  refine lv_lconst (v := 0) hx hb dX12_isSeed_2 (by decide) ?_
  refine lv_ldc2 (v := 2000000000) hx hb hown (mm_h hts mm_w1611) dX12_isSeed_3 ?_
  refine mm_finir (va_runS (As := [.long v1, .long 0, .long 2000000000]) (rest := []) ⟨hx, hb, hml, hown, hts⟩ (K268_X12_in l G cy H.size v1 rv1) (va_cwS 3 hts (mm_gS mm_w191 mm_w192 mm_w5 mm_w193) rfl rfl rfl hs_X12_in ⟨by rw [hRf]; exact Nat.le_of_ble_eq_true rfl, by rw [hRl]; exact Nat.le_of_ble_eq_true rfl⟩) (mm_preS hK hP hD [] rfl rfl) rfl rfl hl.1 rfl (lv_room (Nat.le_of_ble_eq_true rfl)) dX12_isSeed_6 ⟨by rw [hRc]; exact Nat.le_of_ble_eq_true rfl, by rw [hRs]; exact Nat.le_of_ble_eq_true rfl⟩) hP hD hS hA [] rfl (fun _ => rfl) ?_
  clear hP hD hS
  clear H locs
  intro v2 _u H locs hw hP hD hS
  rcases hw with ⟨rfl, w3⟩ | ⟨rfl, w4⟩ | ⟨rfl, w5⟩
  · have q6 := mm_meet (lo := (-2147483648)) (hi := (-1)) (mm_l2x ev1 w3) (mm_top i_0) (by decide)
    subst hAe
    rw [hQ]
    exact W.zret (v := 0) hx hb hr rfl (fun t ht hW => ⟨⟨0, (), rfl, (Or.inl ⟨rfl, q6⟩), by rw [ht]; exact hP, hK.warm hW, hD⟩, hS.F ht⟩) hS.2.2 dX12_isSeed_9
  · have q7 := mm_meet (lo := 2000000001) (hi := 2147483647) (mm_l2x ev1 w4) (mm_top i_0) (by decide)
    subst hAe
    rw [hQ]
    exact W.zret (v := 0) hx hb hr rfl (fun t ht hW => ⟨⟨0, (), rfl, (Or.inr (Or.inl ⟨rfl, q7⟩)), by rw [ht]; exact hP, hK.warm hW, hD⟩, hS.F ht⟩) hS.2.2 dX12_isSeed_9
  · have q8 := mm_meet (lo := 0) (hi := 2000000000) (mm_l2x ev1 w5) (mm_top i_0) (by decide)
    subst hAe
    rw [hQ]
    exact W.zret (v := 1) hx hb hr rfl (fun t ht hW => ⟨⟨1, (), rfl, (Or.inr (Or.inr ⟨rfl, q8⟩)), by rw [ht]; exact hP, hK.warm hW, hD⟩, hS.F ht⟩) hS.2.2 dX12_isSeed_9

set_option maxHeartbeats 4000000 in
set_option maxRecDepth 100000 in
theorem K270_X12_in (l : Launch) (G : va_G) (cy : Nat → ClassId) (sz : Nat) (j_0 : Int64) (h0 : mm_rl j_0 (-2147483648) 2147483647)  : mm_CI l yX12_in (mm_ws yX12_in cX12_in 6 (some .boolean)) ({ frames := 0, cells := 0, slots := 0, locals := 0 } : Room) G cy sz [] [.long j_0, .long 1, .long 20] (fun u : Unit => []) (fun (r : Int32) (u : Unit) => ((0 = r ∧ mm_rl j_0 (-2147483648) 0) ∨ (0 = r ∧ mm_rl j_0 21 2147483647) ∨ (1 = r ∧ mm_rl j_0 1 20))) 0 0 := by
  refine mm_begin (lv := [(0, .long j_0), (2, .long 1), (4, .long 20)]) (by decide) (Nat.le_of_ble_eq_true rfl) rfl ?_
  intro p e s m below meth c A ls R args Q H locs hRe hQ hAe hx hb hr hlocks hml hown hnm hts hsz hA hS hP hK hD hl
  have hRf : R.frames = 0 := by rw [hRe]
  have hRl : R.locals = 0 := by rw [hRe]
  have hRc : R.cells = 0 := by rw [hRe]
  have hRs : R.slots = 0 := by rw [hRe]
  refine lv_lload_n hx hb dX12_in_0 rfl (lv_at hl 0 rfl) ?_
  refine lv_lload_n hx hb dX12_in_1 rfl (lv_at hl 1 rfl) ?_
  refine W.lcmp hx hb dX12_in_2 ?_
  refine lv_topi (fun v1 ev1 => ?_)
  refine lv_if_lt (tgt := 17) hx hb dX12_in_3 (by decide) (fun c2 => ?_) (fun c2 => ?_)
  · have q3 := mm_ltLl (h := 0) (mm_cmp_lt ev1 c2) h0 mm_kl1 (by decide)
    refine lv_iconst (v := 0) hx hb dX12_in_17 (by decide) ?_
    subst hAe
    rw [hQ]
    exact W.zret (v := 0) hx hb hr rfl (fun t ht hW => ⟨⟨0, (), rfl, (Or.inl ⟨rfl, q3⟩), by rw [ht]; exact hP, hK.warm hW, hD⟩, hS.F ht⟩) hS.2.2 dX12_in_18
  · have q4 := mm_leRl (mm_cmp_ge ev1 (mm_n_lt c2)) mm_kl1 h0
    refine lv_lload_n hx hb dX12_in_6 rfl (lv_at hl 0 rfl) ?_
    refine lv_lload hx hb dX12_in_7 (lv_at hl 2 rfl) ?_
    refine W.lcmp hx hb dX12_in_9 ?_
    refine lv_topi (fun v5 ev5 => ?_)
    refine lv_if_gt (tgt := 17) hx hb dX12_in_10 (by decide) (fun c6 => ?_) (fun c6 => ?_)
    · have q7 := mm_ltRl (lo := 21) (mm_cmp_gt ev5 c6) mm_kl20 q4 (by decide)
      refine lv_iconst (v := 0) hx hb dX12_in_17 (by decide) ?_
      subst hAe
      rw [hQ]
      exact W.zret (v := 0) hx hb hr rfl (fun t ht hW => ⟨⟨0, (), rfl, (Or.inr (Or.inl ⟨rfl, q7⟩)), by rw [ht]; exact hP, hK.warm hW, hD⟩, hS.F ht⟩) hS.2.2 dX12_in_18
    · have q8 := mm_leLl (mm_cmp_le ev5 (mm_n_gt c6)) q4 mm_kl20
      refine lv_iconst (v := 1) hx hb dX12_in_13 (by decide) ?_
      refine lv_goto (tgt := 18) hx hb dX12_in_14 (by decide) ?_
      subst hAe
      rw [hQ]
      exact W.zret (v := 1) hx hb hr rfl (fun t ht hW => ⟨⟨1, (), rfl, (Or.inr (Or.inr ⟨rfl, q8⟩)), by rw [ht]; exact hP, hK.warm hW, hD⟩, hS.F ht⟩) hS.2.2 dX12_in_18

set_option maxHeartbeats 4000000 in
set_option maxRecDepth 100000 in
theorem K271_X12_luck (l : Launch) (G : va_G) (cy : Nat → ClassId) (sz : Nat) (a_0 : Nat) (i_0 : Int32) (i_1 : Int32) (i_2 : Int32) (i_3 : Int32) (i_4 : Int32) (a_1 : Nat) (a_2 : Nat) (a_3 : Nat) (a_4 : Nat) (a_5 : Nat) (k_0 : Int32) (k_1 : Int32) (k_2 : Int32) (k_3 : Int32) (k_4 : Int32) (k_5 : Int64) (k_6 : Int32) (k_7 : Int32) (k_8 : Int32) (k_9 : Int32) (a_6 : Nat) (a_7 : Nat) (a_8 : Nat) (a_9 : Nat) (a_10 : Nat) (a_11 : Nat) (a_12 : Nat) (a_13 : Nat) (a_14 : Nat) (a_15 : Nat) (a_16 : Nat) (a_17 : Nat) (a_18 : Nat) (k_10 : Int32) (k_11 : Int32) (k_12 : Int32) (k_13 : Int32) (k_14 : Int32) (k_15 : Int32) (a_19 : Nat) (k_16 : Int32) (a_20 : Nat)   : mm_CI l yX12_luck (mm_ws yX12_luck cX12_luck 8 (some .int)) ({ frames := 3, cells := 0, slots := 0, locals := 68 } : Room) G cy sz [(a_0, .inr (12, [.int 0, .ref a_1, .ref a_2, .ref a_3, .ref a_4, .ref a_5, .int k_0, .int k_1, .int k_2, .int k_3, .int k_4, .long k_5, .int k_6, .int k_7, .int k_8, .int k_9, .ref a_6, .ref a_7, .ref a_8, .ref a_9, .ref a_10, .ref a_11, .ref a_12, .ref a_13, .ref a_14, .ref a_15, .ref a_16, .ref a_17, .ref a_18, .int k_10, .int k_11, .int k_12, .int k_13, .int k_14, .int k_15, .ref a_19, .int k_16, .ref a_20])), (a_7, .inl (cy 1, 30, .inl (fun _ => 0)))] [.ref a_0, .int i_0, .int i_1, .int i_2, .int i_3, .int i_4] (fun u : Unit => [(a_0, .inr (12, [.int 0, .ref a_1, .ref a_2, .ref a_3, .ref a_4, .ref a_5, .int k_0, .int k_1, .int k_2, .int k_3, .int k_4, .long k_5, .int k_6, .int k_7, .int k_8, .int k_9, .ref a_6, .ref a_7, .ref a_8, .ref a_9, .ref a_10, .ref a_11, .ref a_12, .ref a_13, .ref a_14, .ref a_15, .ref a_16, .ref a_17, .ref a_18, .int k_10, .int k_11, .int k_12, .int k_13, .int k_14, .int k_15, .ref a_19, .int k_16, .ref a_20])), (a_7, .inl (cy 1, 30, .inl (fun _ => 0)))]) (fun (r : Int32) (u : Unit) => (-2) = r) 0 0 := by
  refine mm_begin (lv := [(0, .ref a_0), (1, .int i_0), (2, .int i_1), (3, .int i_2), (4, .int i_3), (5, .int i_4)]) (by decide) (Nat.le_of_ble_eq_true rfl) rfl ?_
  intro p e s m below meth c A ls R args Q H locs hRe hQ hAe hx hb hr hlocks hml hown hnm hts hsz hA hS hP hK hD hl
  have hRf : R.frames = 3 := by rw [hRe]
  have hRl : R.locals = 68 := by rw [hRe]
  have hRc : R.cells = 0 := by rw [hRe]
  have hRs : R.slots = 0 := by rw [hRe]
  refine lv_aload_n hx hb dX12_luck_0 rfl (lv_at hl 0 rfl) ?_
  refine lv_iconst (v := 0) hx hb dX12_luck_1 (by decide) ?_
  refine va_put (D := G) (ci := 12) (v := .int 0) (ty := tyX12 0) (C := RX12) (T := TX12) (N := 38) hx hb hts (mm_i inlX12) tyX12 tyX12_ok nmX12 hown hK.1 hP hD hS 0 rfl rfl 0 (by decide) (mm_h hts mm_w177) (fun _ h9 => h9) rfl (tyX12_ok 0 (by decide)) rfl rfl (Nat.le_of_ble_eq_true rfl) dX12_luck_2 ?_
  clear hP hD hS
  clear H locs
  intro H locs (hP : va_P G vwCl [(a_0, .inr (12, [.int 0, .ref a_1, .ref a_2, .ref a_3, .ref a_4, .ref a_5, .int k_0, .int k_1, .int k_2, .int k_3, .int k_4, .long k_5, .int k_6, .int k_7, .int k_8, .int k_9, .ref a_6, .ref a_7, .ref a_8, .ref a_9, .ref a_10, .ref a_11, .ref a_12, .ref a_13, .ref a_14, .ref a_15, .ref a_16, .ref a_17, .ref a_18, .int k_10, .int k_11, .int k_12, .int k_13, .int k_14, .int k_15, .ref a_19, .int k_16, .ref a_20])), (a_7, .inl (cy 1, 30, .inl (fun _ => 0)))] H) (hD : va_D A [(a_0, .inr (12, [.int 0, .ref a_1, .ref a_2, .ref a_3, .ref a_4, .ref a_5, .int k_0, .int k_1, .int k_2, .int k_3, .int k_4, .long k_5, .int k_6, .int k_7, .int k_8, .int k_9, .ref a_6, .ref a_7, .ref a_8, .ref a_9, .ref a_10, .ref a_11, .ref a_12, .ref a_13, .ref a_14, .ref a_15, .ref a_16, .ref a_17, .ref a_18, .int k_10, .int k_11, .int k_12, .int k_13, .int k_14, .int k_15, .ref a_19, .int k_16, .ref a_20])), (a_7, .inl (cy 1, 30, .inl (fun _ => 0)))]) hS
  refine lv_iload_n hx hb dX12_luck_5 rfl (lv_at hl 1 rfl) ?_
  refine mm_finir (va_runS (As := [.int i_0]) (rest := []) ⟨hx, hb, hml, hown, hts⟩ (K269_X12_isSeed l G cy H.size i_0 ) (va_cwS 1 hts (mm_gS mm_w1608 mm_w1609 mm_w5 mm_w1610) rfl rfl rfl hs_X12_isSeed ⟨by rw [hRf]; exact Nat.le_of_ble_eq_true rfl, by rw [hRl]; exact Nat.le_of_ble_eq_true rfl⟩) (mm_preS hK hP hD [] rfl rfl) rfl rfl hl.1 rfl (lv_room (Nat.le_of_ble_eq_true rfl)) dX12_luck_6 ⟨by rw [hRc]; exact Nat.le_of_ble_eq_true rfl, by rw [hRs]; exact Nat.le_of_ble_eq_true rfl⟩) hP hD hS hA [] rfl (fun _ => rfl) ?_
  clear hP hD hS
  clear H locs
  intro v1 _u H locs hw hP hD hS
  rcases hw with ⟨rfl, w2⟩ | ⟨rfl, w3⟩ | ⟨rfl, w4⟩
  · refine lv_if_eq (tgt := 44) hx hb dX12_luck_9 (by decide) (fun c5 => ?_) (fun c5 => ?_)
    · refine lv_bipush (v := (-2)) hx hb dX12_luck_44 (by decide) ?_
      subst hAe
      rw [hQ]
      exact W.iret (v := (-2)) hx hb hr (fun t ht hW => ⟨⟨(-2), (), rfl, rfl, by rw [ht]; exact hP, hK.warm hW, hD⟩, hS.F ht⟩) hS.2.2 dX12_luck_46
    · have q6 := mm_neL (lo := 1) (mm_ne c5) mm_k0 mm_k0 (by decide) (by decide)
      exact mm_no q6 (by decide)
  · refine lv_if_eq (tgt := 44) hx hb dX12_luck_9 (by decide) (fun c7 => ?_) (fun c7 => ?_)
    · refine lv_bipush (v := (-2)) hx hb dX12_luck_44 (by decide) ?_
      subst hAe
      rw [hQ]
      exact W.iret (v := (-2)) hx hb hr (fun t ht hW => ⟨⟨(-2), (), rfl, rfl, by rw [ht]; exact hP, hK.warm hW, hD⟩, hS.F ht⟩) hS.2.2 dX12_luck_46
    · have q8 := mm_neL (lo := 1) (mm_ne c7) mm_k0 mm_k0 (by decide) (by decide)
      exact mm_no q8 (by decide)
  · refine lv_if_eq (tgt := 44) hx hb dX12_luck_9 (by decide) (fun c9 => ?_) (fun c9 => ?_)
    · exact mm_eqN c9.symm mm_k0 mm_k1 (by decide)
    · refine lv_iload_n hx hb dX12_luck_12 rfl (lv_at hl 2 rfl) ?_
      obtain ⟨v10, ev10⟩ : ∃ y : Int64, y = i_1.toInt64 := ⟨_, rfl⟩
      refine lv_i2l hx hb dX12_luck_13 ev10.symm ?_
      have rv10 : mm_rl v10 (-2147483648) 2147483647 := mm_i2l ev10 (mm_top i_1)
      refine lv_lconst (v := 1) hx hb dX12_luck_14 (by decide) ?_
      refine lv_ldc2 (v := 20) hx hb hown (mm_h hts mm_w1628) dX12_luck_15 ?_
      refine mm_finir (va_runS (As := [.long v10, .long 1, .long 20]) (rest := []) ⟨hx, hb, hml, hown, hts⟩ (K270_X12_in l G cy H.size v10 rv10) (va_cwS 3 hts (mm_gS mm_w191 mm_w192 mm_w5 mm_w193) rfl rfl rfl hs_X12_in ⟨by rw [hRf]; exact Nat.le_of_ble_eq_true rfl, by rw [hRl]; exact Nat.le_of_ble_eq_true rfl⟩) (mm_preS hK hP hD [] rfl rfl) rfl rfl hl.1 rfl (lv_room (Nat.le_of_ble_eq_true rfl)) dX12_luck_18 ⟨by rw [hRc]; exact Nat.le_of_ble_eq_true rfl, by rw [hRs]; exact Nat.le_of_ble_eq_true rfl⟩) hP hD hS hA [] rfl (fun _ => rfl) ?_
      clear hP hD hS
      clear H locs
      intro v11 _u H locs hw hP hD hS
      rcases hw with ⟨rfl, w12⟩ | ⟨rfl, w13⟩ | ⟨rfl, w14⟩
      · have q15 := mm_meet (lo := (-2147483648)) (hi := 0) (mm_l2x ev10 w12) (mm_top i_1) (by decide)
        refine lv_if_eq (tgt := 44) hx hb dX12_luck_21 (by decide) (fun c16 => ?_) (fun c16 => ?_)
        · refine lv_bipush (v := (-2)) hx hb dX12_luck_44 (by decide) ?_
          subst hAe
          rw [hQ]
          exact W.iret (v := (-2)) hx hb hr (fun t ht hW => ⟨⟨(-2), (), rfl, rfl, by rw [ht]; exact hP, hK.warm hW, hD⟩, hS.F ht⟩) hS.2.2 dX12_luck_46
        · have q17 := mm_neL (lo := 1) (mm_ne c16) mm_k0 mm_k0 (by decide) (by decide)
          exact mm_no q17 (by decide)
      · have q18 := mm_meet (lo := 21) (hi := 2147483647) (mm_l2x ev10 w13) (mm_top i_1) (by decide)
        refine lv_if_eq (tgt := 44) hx hb dX12_luck_21 (by decide) (fun c19 => ?_) (fun c19 => ?_)
        · refine lv_bipush (v := (-2)) hx hb dX12_luck_44 (by decide) ?_
          subst hAe
          rw [hQ]
          exact W.iret (v := (-2)) hx hb hr (fun t ht hW => ⟨⟨(-2), (), rfl, rfl, by rw [ht]; exact hP, hK.warm hW, hD⟩, hS.F ht⟩) hS.2.2 dX12_luck_46
        · have q20 := mm_neL (lo := 1) (mm_ne c19) mm_k0 mm_k0 (by decide) (by decide)
          exact mm_no q20 (by decide)
      · have q21 := mm_meet (lo := 1) (hi := 20) (mm_l2x ev10 w14) (mm_top i_1) (by decide)
        refine lv_if_eq (tgt := 44) hx hb dX12_luck_21 (by decide) (fun c22 => ?_) (fun c22 => ?_)
        · exact mm_eqN c22.symm mm_k0 mm_k1 (by decide)
        · refine lv_aload_n hx hb dX12_luck_24 rfl (lv_at hl 0 rfl) ?_
          refine lv_iload_n hx hb dX12_luck_25 rfl (lv_at hl 3 rfl) ?_
          refine lv_iload hx hb dX12_luck_26 (lv_at hl 4 rfl) ?_
          refine mm_finir (va_runV (As := [.int i_2, .int i_3]) (rest := []) ⟨hx, hb, hml, hown, hts⟩ (K131_X12_isThen l G cy H.size a_0 i_2 i_3 0 a_1 a_2 a_3 a_4 a_5 k_0 k_1 k_2 k_3 k_4 k_5 k_6 k_7 k_8 k_9 a_6 a_7 a_8 a_9 a_10 a_11 a_12 a_13 a_14 a_15 a_16 a_17 a_18 k_10 k_11 k_12 k_13 k_14 k_15 a_19 k_16 a_20 ) (cwV 2 hts (mm_gV mm_w678 mm_w679 mm_w680 mm_w5 mm_w681) rfl rfl rfl hd_X12_isThen ⟨by rw [hRf]; exact Nat.le_of_ble_eq_true rfl, by rw [hRl]; exact Nat.le_of_ble_eq_true rfl⟩) (mm_preV hK hP hD [0, 1] rfl rfl 0 rfl rfl rfl) rfl rfl hl.1 rfl (lv_room (Nat.le_of_ble_eq_true rfl)) dX12_luck_28 ⟨by rw [hRc]; exact Nat.le_of_ble_eq_true rfl, by rw [hRs]; exact Nat.le_of_ble_eq_true rfl⟩) hP hD hS hA [0, 1] rfl (fun _ => rfl) ?_
          clear hP hD hS
          clear H locs
          intro v23 _u H locs hw hP hD hS
          subst hw
          refine lv_if_eq (tgt := 44) hx hb dX12_luck_31 (by decide) (fun c24 => ?_) (fun c24 => ?_)
          · refine lv_bipush (v := (-2)) hx hb dX12_luck_44 (by decide) ?_
            subst hAe
            rw [hQ]
            exact W.iret (v := (-2)) hx hb hr (fun t ht hW => ⟨⟨(-2), (), rfl, rfl, by rw [ht]; exact hP, hK.warm hW, hD⟩, hS.F ht⟩) hS.2.2 dX12_luck_46
          · have q25 := mm_neL (lo := 1) (mm_ne c24) mm_k0 mm_k0 (by decide) (by decide)
            exact mm_no q25 (by decide)

set_option maxHeartbeats 4000000 in
set_option maxRecDepth 100000 in
theorem K272_X11_rate (l : Launch) (G : va_G) (cy : Nat → ClassId) (sz : Nat) (a_0 : Nat) (i_0 : Int32) (i_1 : Int32) (a_1 : Nat) (a_2 : Nat) (a_3 : Nat) (a_4 : Nat) (a_5 : Nat) (a_6 : Nat) (a_7 : Nat) (a_8 : Nat) (a_9 : Nat) (a_10 : Nat) (a_11 : Nat) (a_24 : Nat) (a_25 : Nat) (k_0 : Int32) (k_1 : Int32) (k_2 : Int32) (k_3 : Int32) (k_4 : Int32) (k_5 : Int32) (k_6 : Int32) (a_26 : Nat) (a_27 : Nat) (a_28 : Nat) (a_29 : Nat) (a_30 : Nat) (a_31 : Nat) (a_32 : Nat) (a_33 : Nat) (a_34 : Nat) (a_35 : Nat)   : mm_CI l yX11_rate (mm_ws yX11_rate cX11_rate 4 (some .int)) ({ frames := 1, cells := 0, slots := 0, locals := 21 } : Room) G cy sz [(a_0, .inr (11, [.ref a_1, .ref a_2, .ref a_3, .ref a_4, .ref a_5, .ref a_6, .ref a_7, .ref a_8, .ref a_9, .ref a_10, .ref a_11])), (a_3, .inr (10, [.ref a_24, .ref a_25])), (a_24, .inr (0, [.int k_0, .int k_1, .int k_2, .int k_3, .int 0, .int k_4, .int k_5, .int k_6, .ref a_26, .ref a_27, .ref a_28, .ref a_29, .ref a_30, .ref a_31, .ref a_32, .ref a_33, .ref a_34, .ref a_35]))] [.ref a_0, .int i_0, .int i_1] (fun u : Unit => [(a_0, .inr (11, [.ref a_1, .ref a_2, .ref a_3, .ref a_4, .ref a_5, .ref a_6, .ref a_7, .ref a_8, .ref a_9, .ref a_10, .ref a_11])), (a_3, .inr (10, [.ref a_24, .ref a_25])), (a_24, .inr (0, [.int k_0, .int k_1, .int k_2, .int k_3, .int 0, .int k_4, .int k_5, .int k_6, .ref a_26, .ref a_27, .ref a_28, .ref a_29, .ref a_30, .ref a_31, .ref a_32, .ref a_33, .ref a_34, .ref a_35]))]) (fun (r : Int32) (u : Unit) => (-2) = r) 0 0 := by
  refine mm_begin (lv := [(0, .ref a_0), (1, .int i_0), (2, .int i_1)]) (by decide) (Nat.le_of_ble_eq_true rfl) rfl ?_
  intro p e s m below meth c A ls R args Q H locs hRe hQ hAe hx hb hr hlocks hml hown hnm hts hsz hA hS hP hK hD hl
  have hRf : R.frames = 1 := by rw [hRe]
  have hRl : R.locals = 21 := by rw [hRe]
  have hRc : R.cells = 0 := by rw [hRe]
  have hRs : R.slots = 0 := by rw [hRe]
  refine lv_aload_n hx hb dX11_rate_0 rfl (lv_at hl 0 rfl) ?_
  refine lv_iload_n hx hb dX11_rate_1 rfl (lv_at hl 1 rfl) ?_
  refine mm_finir (va_runV (As := [.int i_0]) (rest := []) ⟨hx, hb, hml, hown, hts⟩ (K107_X11_isSense l G cy H.size a_0 i_0 a_1 a_2 a_3 a_4 a_5 a_6 a_7 a_8 a_9 a_10 a_11 a_24 a_25 k_0 k_1 k_2 k_3 k_4 k_5 k_6 a_26 a_27 a_28 a_29 a_30 a_31 a_32 a_33 a_34 a_35 ) (cwV 1 hts (mm_gV mm_w576 mm_w577 mm_w578 mm_w2 mm_w579) rfl rfl rfl hd_X11_isSense ⟨by rw [hRf]; exact Nat.le_of_ble_eq_true rfl, by rw [hRl]; exact Nat.le_of_ble_eq_true rfl⟩) (mm_preV hK hP hD [0, 1, 2] rfl rfl 0 rfl rfl rfl) rfl rfl hl.1 rfl (lv_room (Nat.le_of_ble_eq_true rfl)) dX11_rate_2 ⟨by rw [hRc]; exact Nat.le_of_ble_eq_true rfl, by rw [hRs]; exact Nat.le_of_ble_eq_true rfl⟩) hP hD hS hA [0, 1, 2] rfl (fun _ => rfl) ?_
  clear hP hD hS
  clear H locs
  intro v1 _u H locs hw hP hD hS
  subst hw
  refine lv_if_eq (tgt := 34) hx hb dX11_rate_5 (by decide) (fun c2 => ?_) (fun c2 => ?_)
  · refine lv_bipush (v := (-2)) hx hb dX11_rate_34 (by decide) ?_
    subst hAe
    rw [hQ]
    exact W.iret (v := (-2)) hx hb hr (fun t ht hW => ⟨⟨(-2), (), rfl, rfl, by rw [ht]; exact hP, hK.warm hW, hD⟩, hS.F ht⟩) hS.2.2 dX11_rate_36
  · have q3 := mm_neL (lo := 1) (mm_ne c2) mm_k0 mm_k0 (by decide) (by decide)
    exact mm_no q3 (by decide)

set_option maxHeartbeats 4000000 in
set_option maxRecDepth 100000 in
theorem K273_X12_rate (l : Launch) (G : va_G) (cy : Nat → ClassId) (sz : Nat) (a_0 : Nat) (i_0 : Int32) (i_1 : Int32) (a_1 : Nat) (a_2 : Nat) (a_3 : Nat) (a_4 : Nat) (a_5 : Nat) (k_0 : Int32) (k_1 : Int32) (k_2 : Int32) (k_3 : Int32) (k_4 : Int32) (k_5 : Int64) (k_6 : Int32) (k_7 : Int32) (k_8 : Int32) (k_9 : Int32) (a_6 : Nat) (a_7 : Nat) (a_8 : Nat) (a_9 : Nat) (a_10 : Nat) (a_11 : Nat) (a_12 : Nat) (a_13 : Nat) (a_14 : Nat) (a_15 : Nat) (a_16 : Nat) (a_17 : Nat) (a_18 : Nat) (k_10 : Int32) (k_11 : Int32) (k_12 : Int32) (k_13 : Int32) (k_14 : Int32) (k_15 : Int32) (a_19 : Nat) (k_16 : Int32) (a_20 : Nat)   : mm_CI l yX12_rate (mm_ws yX12_rate cX12_rate 4 (some .int)) ({ frames := 1, cells := 0, slots := 0, locals := 25 } : Room) G cy sz [(a_0, .inr (12, [.int 0, .ref a_1, .ref a_2, .ref a_3, .ref a_4, .ref a_5, .int k_0, .int k_1, .int k_2, .int k_3, .int k_4, .long k_5, .int k_6, .int k_7, .int k_8, .int k_9, .ref a_6, .ref a_7, .ref a_8, .ref a_9, .ref a_10, .ref a_11, .ref a_12, .ref a_13, .ref a_14, .ref a_15, .ref a_16, .ref a_17, .ref a_18, .int k_10, .int k_11, .int k_12, .int k_13, .int k_14, .int k_15, .ref a_19, .int k_16, .ref a_20])), (a_7, .inl (cy 1, 30, .inl (fun _ => 0)))] [.ref a_0, .int i_0, .int i_1] (fun u : Unit => [(a_0, .inr (12, [.int 0, .ref a_1, .ref a_2, .ref a_3, .ref a_4, .ref a_5, .int k_0, .int k_1, .int k_2, .int k_3, .int k_4, .long k_5, .int k_6, .int k_7, .int k_8, .int k_9, .ref a_6, .ref a_7, .ref a_8, .ref a_9, .ref a_10, .ref a_11, .ref a_12, .ref a_13, .ref a_14, .ref a_15, .ref a_16, .ref a_17, .ref a_18, .int k_10, .int k_11, .int k_12, .int k_13, .int k_14, .int k_15, .ref a_19, .int k_16, .ref a_20])), (a_7, .inl (cy 1, 30, .inl (fun _ => 0)))]) (fun (r : Int32) (u : Unit) => (-2) = r) 0 0 := by
  refine mm_begin (lv := [(0, .ref a_0), (1, .int i_0), (2, .int i_1)]) (by decide) (Nat.le_of_ble_eq_true rfl) rfl ?_
  intro p e s m below meth c A ls R args Q H locs hRe hQ hAe hx hb hr hlocks hml hown hnm hts hsz hA hS hP hK hD hl
  have hRf : R.frames = 1 := by rw [hRe]
  have hRl : R.locals = 25 := by rw [hRe]
  have hRc : R.cells = 0 := by rw [hRe]
  have hRs : R.slots = 0 := by rw [hRe]
  refine lv_aload_n hx hb dX12_rate_0 rfl (lv_at hl 0 rfl) ?_
  refine lv_iconst (v := 0) hx hb dX12_rate_1 (by decide) ?_
  refine va_put (D := G) (ci := 12) (v := .int 0) (ty := tyX12 0) (C := RX12) (T := TX12) (N := 38) hx hb hts (mm_i inlX12) tyX12 tyX12_ok nmX12 hown hK.1 hP hD hS 0 rfl rfl 0 (by decide) (mm_h hts mm_w177) (fun _ h9 => h9) rfl (tyX12_ok 0 (by decide)) rfl rfl (Nat.le_of_ble_eq_true rfl) dX12_rate_2 ?_
  clear hP hD hS
  clear H locs
  intro H locs (hP : va_P G vwCl [(a_0, .inr (12, [.int 0, .ref a_1, .ref a_2, .ref a_3, .ref a_4, .ref a_5, .int k_0, .int k_1, .int k_2, .int k_3, .int k_4, .long k_5, .int k_6, .int k_7, .int k_8, .int k_9, .ref a_6, .ref a_7, .ref a_8, .ref a_9, .ref a_10, .ref a_11, .ref a_12, .ref a_13, .ref a_14, .ref a_15, .ref a_16, .ref a_17, .ref a_18, .int k_10, .int k_11, .int k_12, .int k_13, .int k_14, .int k_15, .ref a_19, .int k_16, .ref a_20])), (a_7, .inl (cy 1, 30, .inl (fun _ => 0)))] H) (hD : va_D A [(a_0, .inr (12, [.int 0, .ref a_1, .ref a_2, .ref a_3, .ref a_4, .ref a_5, .int k_0, .int k_1, .int k_2, .int k_3, .int k_4, .long k_5, .int k_6, .int k_7, .int k_8, .int k_9, .ref a_6, .ref a_7, .ref a_8, .ref a_9, .ref a_10, .ref a_11, .ref a_12, .ref a_13, .ref a_14, .ref a_15, .ref a_16, .ref a_17, .ref a_18, .int k_10, .int k_11, .int k_12, .int k_13, .int k_14, .int k_15, .ref a_19, .int k_16, .ref a_20])), (a_7, .inl (cy 1, 30, .inl (fun _ => 0)))]) hS
  refine lv_iload_n hx hb dX12_rate_5 rfl (lv_at hl 1 rfl) ?_
  obtain ⟨v1, ev1⟩ : ∃ y : Int64, y = i_0.toInt64 := ⟨_, rfl⟩
  refine lv_i2l hx hb dX12_rate_6 ev1.symm ?_
  have rv1 : mm_rl v1 (-2147483648) 2147483647 := mm_i2l ev1 (mm_top i_0)
  refine lv_lconst (v := 0) hx hb dX12_rate_7 (by decide) ?_
  refine lv_aload_n hx hb dX12_rate_8 rfl (lv_at hl 0 rfl) ?_
  refine mm_finir (va_runV (As := []) (rest := [.long 0, .long v1]) ⟨hx, hb, hml, hown, hts⟩ (K111_X12_senses l G cy H.size a_0 0 a_1 a_2 a_3 a_4 a_5 k_0 k_1 k_2 k_3 k_4 k_5 k_6 k_7 k_8 k_9 a_6 a_7 a_8 a_9 a_10 a_11 a_12 a_13 a_14 a_15 a_16 a_17 a_18 k_10 k_11 k_12 k_13 k_14 k_15 a_19 k_16 a_20 ) (cwV 0 hts (mm_gV mm_w588 mm_w589 mm_w590 mm_w5 mm_w591) rfl rfl rfl hd_X12_senses ⟨by rw [hRf]; exact Nat.le_of_ble_eq_true rfl, by rw [hRl]; exact Nat.le_of_ble_eq_true rfl⟩) (mm_preV hK hP hD [0, 1] rfl rfl 0 rfl rfl rfl) rfl rfl hl.1 rfl (lv_room (Nat.le_of_ble_eq_true rfl)) dX12_rate_9 ⟨by rw [hRc]; exact Nat.le_of_ble_eq_true rfl, by rw [hRs]; exact Nat.le_of_ble_eq_true rfl⟩) hP hD hS hA [0, 1] rfl (fun _ => rfl) ?_
  clear hP hD hS
  clear H locs
  intro v2 _u H locs hw hP hD hS
  subst hw
  refine lv_i2l (v := 0) hx hb dX12_rate_12 (by decide) ?_
  refine lv_lconst (v := 1) hx hb dX12_rate_13 (by decide) ?_
  refine lv_lsub hx hb dX12_rate_14 ?_
  refine lv_topl (fun v3 ev3 => ?_)
  obtain rfl : v3 = (-1) := ev3.trans (by decide)
  refine mm_finir (va_runS (As := [.long v1, .long 0, .long (-1)]) (rest := []) ⟨hx, hb, hml, hown, hts⟩ (K109_X12_in l G cy H.size v1 rv1) (va_cwS 3 hts (mm_gS mm_w191 mm_w192 mm_w5 mm_w193) rfl rfl rfl hs_X12_in ⟨by rw [hRf]; exact Nat.le_of_ble_eq_true rfl, by rw [hRl]; exact Nat.le_of_ble_eq_true rfl⟩) (mm_preS hK hP hD [] rfl rfl) rfl rfl hl.1 rfl (lv_room (Nat.le_of_ble_eq_true rfl)) dX12_rate_15 ⟨by rw [hRc]; exact Nat.le_of_ble_eq_true rfl, by rw [hRs]; exact Nat.le_of_ble_eq_true rfl⟩) hP hD hS hA [] rfl (fun _ => rfl) ?_
  clear hP hD hS
  clear H locs
  intro v4 _u H locs hw hP hD hS
  subst hw
  refine lv_if_eq (tgt := 45) hx hb dX12_rate_18 (by decide) (fun c5 => ?_) (fun c5 => ?_)
  · refine lv_bipush (v := (-2)) hx hb dX12_rate_45 (by decide) ?_
    subst hAe
    rw [hQ]
    exact W.iret (v := (-2)) hx hb hr (fun t ht hW => ⟨⟨(-2), (), rfl, rfl, by rw [ht]; exact hP, hK.warm hW, hD⟩, hS.F ht⟩) hS.2.2 dX12_rate_47
  · have q6 := mm_neL (lo := 1) (mm_ne c5) mm_k0 mm_k0 (by decide) (by decide)
    exact mm_no q6 (by decide)

set_option maxHeartbeats 4000000 in
set_option maxRecDepth 100000 in
theorem K274_X0_allRules (l : Launch) (G : va_G) (cy : Nat → ClassId) (sz : Nat) (a_0 : Nat) (k_0 : Int32) (k_1 : Int32) (k_2 : Int32) (k_3 : Int32) (k_4 : Int32) (k_5 : Int32) (k_6 : Int32) (a_26 : Nat) (a_27 : Nat) (a_28 : Nat) (a_29 : Nat) (a_30 : Nat) (a_31 : Nat) (a_32 : Nat) (a_33 : Nat) (a_34 : Nat) (a_35 : Nat)   : mm_CI l yX0_allRules (mm_ws yX0_allRules cX0_allRules 3 (some .int)) ({ frames := 0, cells := 0, slots := 0, locals := 0 } : Room) G cy sz [(a_0, .inr (0, [.int k_0, .int k_1, .int k_2, .int k_3, .int k_4, .int 0, .int k_5, .int k_6, .ref a_26, .ref a_27, .ref a_28, .ref a_29, .ref a_30, .ref a_31, .ref a_32, .ref a_33, .ref a_34, .ref a_35]))] [.ref a_0] (fun u : Unit => [(a_0, .inr (0, [.int k_0, .int k_1, .int k_2, .int k_3, .int k_4, .int 0, .int k_5, .int k_6, .ref a_26, .ref a_27, .ref a_28, .ref a_29, .ref a_30, .ref a_31, .ref a_32, .ref a_33, .ref a_34, .ref a_35]))]) (fun (r : Int32) (u : Unit) => 0 = r) 0 0 := by
  refine mm_begin (lv := [(0, .ref a_0)]) (by decide) (Nat.le_of_ble_eq_true rfl) rfl ?_
  intro p e s m below meth c A ls R args Q H locs hRe hQ hAe hx hb hr hlocks hml hown hnm hts hsz hA hS hP hK hD hl
  have hRf : R.frames = 0 := by rw [hRe]
  have hRl : R.locals = 0 := by rw [hRe]
  have hRc : R.cells = 0 := by rw [hRe]
  have hRs : R.slots = 0 := by rw [hRe]
  refine lv_iconst (v := 0) hx hb dX0_allRules_0 (by decide) ?_
  refine lv_istore_n (lv' := [(1, .int 0), (0, .ref a_0)]) hx hb dX0_allRules_1 rfl hl (by decide) rfl ?_
  clear hl
  clear ls
  intro ls hl
  refine lv_iconst (v := 0) hx hb dX0_allRules_2 (by decide) ?_
  refine lv_istore_n (lv' := [(2, .int 0), (1, .int 0), (0, .ref a_0)]) hx hb dX0_allRules_3 rfl hl (by decide) rfl ?_
  clear hl
  clear ls
  intro ls hl
  refine lv_iload_n hx hb dX0_allRules_4 rfl (lv_at hl 0 rfl) ?_
  refine lv_aload_n hx hb dX0_allRules_5 rfl (lv_at hl 2 rfl) ?_
  refine va_get (D := G) (ci := 0) (v := .int 0) (C := RX0) (T := TX0) (N := 18) hx hb hts (mm_i inlX0) hown hK.1 hP 0 rfl rfl 5 (by decide) (mm_h hts mm_w220) (fun _ h9 => h9) rfl dX0_allRules_6 ?_
  refine lv_icmp_ge (tgt := 27) hx hb dX0_allRules_9 (by decide) (fun c3 => ?_) (fun c3 => ?_)
  · refine lv_iload_n hx hb dX0_allRules_27 rfl (lv_at hl 1 rfl) ?_
    subst hAe
    rw [hQ]
    exact W.iret (v := 0) hx hb hr (fun t ht hW => ⟨⟨0, (), rfl, rfl, by rw [ht]; exact hP, hK.warm hW, hD⟩, hS.F ht⟩) hS.2.2 dX0_allRules_28
  · have q4 := mm_ltL (h := (-1)) (mm_nle c3) mm_k0 mm_k0 (by decide)
    exact mm_no q4 (by decide)

set_option maxHeartbeats 4000000 in
set_option maxRecDepth 100000 in
theorem K275_X11_rowsPresent (l : Launch) (G : va_G) (cy : Nat → ClassId) (sz : Nat) (a_0 : Nat) (a_1 : Nat) (a_2 : Nat) (a_3 : Nat) (a_4 : Nat) (a_5 : Nat) (a_6 : Nat) (a_7 : Nat) (a_8 : Nat) (a_9 : Nat) (a_10 : Nat) (a_11 : Nat) (a_78 : Nat) (a_79 : Nat) (a_80 : Nat) (a_81 : Nat) (k_0 : Int32) (k_1 : Int32) (a_82 : Nat) (k_2 : Int32) (k_3 : Int32) (a_83 : Nat) (k_4 : Int32) (k_5 : Int32) (a_84 : Nat) (k_6 : Int32) (k_7 : Int32) (a_85 : Nat)   : mm_CI l yX11_rowsPresent (mm_ws yX11_rowsPresent cX11_rowsPresent 3 (some .int)) ({ frames := 0, cells := 0, slots := 0, locals := 0 } : Room) G cy sz [(a_0, .inr (11, [.ref a_1, .ref a_2, .ref a_3, .ref a_4, .ref a_5, .ref a_6, .ref a_7, .ref a_8, .ref a_9, .ref a_10, .ref a_11])), (a_6, .inl (cy 6, 4, .inr (.inr (.inr (.inr (va_up (va_up (va_up (va_up (fun _ => none) 0 (some a_78)) 1 (some a_79)) 2 (some a_80)) 3 (some a_81))))))), (a_78, .inr (6, [.int 0, .int k_0, .int k_1, .ref a_82])), (a_79, .inr (6, [.int 0, .int k_2, .int k_3, .ref a_83])), (a_80, .inr (6, [.int 0, .int k_4, .int k_5, .ref a_84])), (a_81, .inr (6, [.int 0, .int k_6, .int k_7, .ref a_85]))] [.ref a_0] (fun u : Unit => [(a_0, .inr (11, [.ref a_1, .ref a_2, .ref a_3, .ref a_4, .ref a_5, .ref a_6, .ref a_7, .ref a_8, .ref a_9, .ref a_10, .ref a_11])), (a_6, .inl (cy 6, 4, .inr (.inr (.inr (.inr (va_up (va_up (va_up (va_up (fun _ => none) 0 (some a_78)) 1 (some a_79)) 2 (some a_80)) 3 (some a_81))))))), (a_78, .inr (6, [.int 0, .int k_0, .int k_1, .ref a_82])), (a_79, .inr (6, [.int 0, .int k_2, .int k_3, .ref a_83])), (a_80, .inr (6, [.int 0, .int k_4, .int k_5, .ref a_84])), (a_81, .inr (6, [.int 0, .int k_6, .int k_7, .ref a_85]))]) (fun (r : Int32) (u : Unit) => 0 = r) 0 0 := by
  refine mm_begin (lv := [(0, .ref a_0)]) (by decide) (Nat.le_of_ble_eq_true rfl) rfl ?_
  intro p e s m below meth c A ls R args Q H locs hRe hQ hAe hx hb hr hlocks hml hown hnm hts hsz hA hS hP hK hD hl
  have hRf : R.frames = 0 := by rw [hRe]
  have hRl : R.locals = 0 := by rw [hRe]
  have hRc : R.cells = 0 := by rw [hRe]
  have hRs : R.slots = 0 := by rw [hRe]
  refine lv_iconst (v := 0) hx hb dX11_rowsPresent_0 (by decide) ?_
  refine lv_istore_n (lv' := [(1, .int 0), (0, .ref a_0)]) hx hb dX11_rowsPresent_1 rfl hl (by decide) rfl ?_
  clear hl
  clear ls
  intro ls hl
  refine lv_iconst (v := 0) hx hb dX11_rowsPresent_2 (by decide) ?_
  refine lv_istore_n (lv' := [(2, .int 0), (1, .int 0), (0, .ref a_0)]) hx hb dX11_rowsPresent_3 rfl hl (by decide) rfl ?_
  clear hl
  clear ls
  intro ls hl
  refine lv_iload_n hx hb dX11_rowsPresent_4 rfl (lv_at hl 0 rfl) ?_
  refine lv_iconst (v := 4) hx hb dX11_rowsPresent_5 (by decide) ?_
  refine lv_icmp_ge (tgt := 30) hx hb dX11_rowsPresent_6 (by decide) (fun c1 => ?_) (fun c1 => ?_)
  · have q2 := mm_leL (mm_le c1) mm_k4 mm_k0
    exact mm_no q2 (by decide)
  · refine lv_aload_n hx hb dX11_rowsPresent_9 rfl (lv_at hl 2 rfl) ?_
    refine va_get (D := G) (ci := 11) (v := .ref a_6) (C := RX11) (T := TX11) (N := 11) hx hb hts (mm_i inlX11) hown hK.1 hP 0 rfl rfl 5 (by decide) (mm_h hts mm_w32) (fun _ h9 => h9) rfl dX11_rowsPresent_10 ?_
    refine lv_iload_n hx hb dX11_rowsPresent_13 rfl (lv_at hl 0 rfl) ?_
    refine va_aldq hx hb hK.1 hP 1 6 rfl rfl (mm_in mm_k0 (by decide)) dX11_rowsPresent_14 ?_
    refine W.eq (g2 := F0 m 15 ls [.ref a_78]) rfl ?_
    refine va_get (D := G) (ci := 6) (v := .int 0) (C := RX6) (T := TX6) (N := 4) hx hb hts (mm_i inlX6) hown hK.1 hP 2 rfl rfl 0 (by decide) (mm_h hts mm_w1239) (fun _ h9 => h9) rfl dX11_rowsPresent_15 ?_
    refine lv_if_eq (tgt := 24) hx hb dX11_rowsPresent_18 (by decide) (fun c3 => ?_) (fun c3 => ?_)
    · refine lv_iinc (v := 1) (lv' := [(2, .int 1), (1, .int 0), (0, .ref a_0)]) hx hb dX11_rowsPresent_24 hl (k := 0) rfl (by decide) (by decide) rfl ?_
      clear hl
      clear ls
      intro ls hl
      refine lv_goto (tgt := 4) hx hb dX11_rowsPresent_27 (by decide) ?_
      refine lv_iload_n hx hb dX11_rowsPresent_4 rfl (lv_at hl 0 rfl) ?_
      refine lv_iconst (v := 4) hx hb dX11_rowsPresent_5 (by decide) ?_
      refine lv_icmp_ge (tgt := 30) hx hb dX11_rowsPresent_6 (by decide) (fun c4 => ?_) (fun c4 => ?_)
      · have q5 := mm_leL (mm_le c4) mm_k4 mm_k1
        exact mm_no q5 (by decide)
      · refine lv_aload_n hx hb dX11_rowsPresent_9 rfl (lv_at hl 2 rfl) ?_
        refine va_get (D := G) (ci := 11) (v := .ref a_6) (C := RX11) (T := TX11) (N := 11) hx hb hts (mm_i inlX11) hown hK.1 hP 0 rfl rfl 5 (by decide) (mm_h hts mm_w32) (fun _ h9 => h9) rfl dX11_rowsPresent_10 ?_
        refine lv_iload_n hx hb dX11_rowsPresent_13 rfl (lv_at hl 0 rfl) ?_
        refine va_aldq hx hb hK.1 hP 1 6 rfl rfl (mm_in mm_k1 (by decide)) dX11_rowsPresent_14 ?_
        refine W.eq (g2 := F0 m 15 ls [.ref a_79]) rfl ?_
        refine va_get (D := G) (ci := 6) (v := .int 0) (C := RX6) (T := TX6) (N := 4) hx hb hts (mm_i inlX6) hown hK.1 hP 3 rfl rfl 0 (by decide) (mm_h hts mm_w1239) (fun _ h9 => h9) rfl dX11_rowsPresent_15 ?_
        refine lv_if_eq (tgt := 24) hx hb dX11_rowsPresent_18 (by decide) (fun c6 => ?_) (fun c6 => ?_)
        · refine lv_iinc (v := 2) (lv' := [(2, .int 2), (1, .int 0), (0, .ref a_0)]) hx hb dX11_rowsPresent_24 hl (k := 0) rfl (by decide) (by decide) rfl ?_
          clear hl
          clear ls
          intro ls hl
          refine lv_goto (tgt := 4) hx hb dX11_rowsPresent_27 (by decide) ?_
          refine lv_iload_n hx hb dX11_rowsPresent_4 rfl (lv_at hl 0 rfl) ?_
          refine lv_iconst (v := 4) hx hb dX11_rowsPresent_5 (by decide) ?_
          refine lv_icmp_ge (tgt := 30) hx hb dX11_rowsPresent_6 (by decide) (fun c7 => ?_) (fun c7 => ?_)
          · have q8 := mm_leL (mm_le c7) mm_k4 mm_k2
            exact mm_no q8 (by decide)
          · refine lv_aload_n hx hb dX11_rowsPresent_9 rfl (lv_at hl 2 rfl) ?_
            refine va_get (D := G) (ci := 11) (v := .ref a_6) (C := RX11) (T := TX11) (N := 11) hx hb hts (mm_i inlX11) hown hK.1 hP 0 rfl rfl 5 (by decide) (mm_h hts mm_w32) (fun _ h9 => h9) rfl dX11_rowsPresent_10 ?_
            refine lv_iload_n hx hb dX11_rowsPresent_13 rfl (lv_at hl 0 rfl) ?_
            refine va_aldq hx hb hK.1 hP 1 6 rfl rfl (mm_in mm_k2 (by decide)) dX11_rowsPresent_14 ?_
            refine W.eq (g2 := F0 m 15 ls [.ref a_80]) rfl ?_
            refine va_get (D := G) (ci := 6) (v := .int 0) (C := RX6) (T := TX6) (N := 4) hx hb hts (mm_i inlX6) hown hK.1 hP 4 rfl rfl 0 (by decide) (mm_h hts mm_w1239) (fun _ h9 => h9) rfl dX11_rowsPresent_15 ?_
            refine lv_if_eq (tgt := 24) hx hb dX11_rowsPresent_18 (by decide) (fun c9 => ?_) (fun c9 => ?_)
            · refine lv_iinc (v := 3) (lv' := [(2, .int 3), (1, .int 0), (0, .ref a_0)]) hx hb dX11_rowsPresent_24 hl (k := 0) rfl (by decide) (by decide) rfl ?_
              clear hl
              clear ls
              intro ls hl
              refine lv_goto (tgt := 4) hx hb dX11_rowsPresent_27 (by decide) ?_
              refine lv_iload_n hx hb dX11_rowsPresent_4 rfl (lv_at hl 0 rfl) ?_
              refine lv_iconst (v := 4) hx hb dX11_rowsPresent_5 (by decide) ?_
              refine lv_icmp_ge (tgt := 30) hx hb dX11_rowsPresent_6 (by decide) (fun c10 => ?_) (fun c10 => ?_)
              · have q11 := mm_leL (mm_le c10) mm_k4 mm_k3
                exact mm_no q11 (by decide)
              · refine lv_aload_n hx hb dX11_rowsPresent_9 rfl (lv_at hl 2 rfl) ?_
                refine va_get (D := G) (ci := 11) (v := .ref a_6) (C := RX11) (T := TX11) (N := 11) hx hb hts (mm_i inlX11) hown hK.1 hP 0 rfl rfl 5 (by decide) (mm_h hts mm_w32) (fun _ h9 => h9) rfl dX11_rowsPresent_10 ?_
                refine lv_iload_n hx hb dX11_rowsPresent_13 rfl (lv_at hl 0 rfl) ?_
                refine va_aldq hx hb hK.1 hP 1 6 rfl rfl (mm_in mm_k3 (by decide)) dX11_rowsPresent_14 ?_
                refine W.eq (g2 := F0 m 15 ls [.ref a_81]) rfl ?_
                refine va_get (D := G) (ci := 6) (v := .int 0) (C := RX6) (T := TX6) (N := 4) hx hb hts (mm_i inlX6) hown hK.1 hP 5 rfl rfl 0 (by decide) (mm_h hts mm_w1239) (fun _ h9 => h9) rfl dX11_rowsPresent_15 ?_
                refine lv_if_eq (tgt := 24) hx hb dX11_rowsPresent_18 (by decide) (fun c12 => ?_) (fun c12 => ?_)
                · refine lv_iinc (v := 4) (lv' := [(2, .int 4), (1, .int 0), (0, .ref a_0)]) hx hb dX11_rowsPresent_24 hl (k := 0) rfl (by decide) (by decide) rfl ?_
                  clear hl
                  clear ls
                  intro ls hl
                  refine lv_goto (tgt := 4) hx hb dX11_rowsPresent_27 (by decide) ?_
                  refine lv_iload_n hx hb dX11_rowsPresent_4 rfl (lv_at hl 0 rfl) ?_
                  refine lv_iconst (v := 4) hx hb dX11_rowsPresent_5 (by decide) ?_
                  refine lv_icmp_ge (tgt := 30) hx hb dX11_rowsPresent_6 (by decide) (fun c13 => ?_) (fun c13 => ?_)
                  · refine lv_iload_n hx hb dX11_rowsPresent_30 rfl (lv_at hl 1 rfl) ?_
                    subst hAe
                    rw [hQ]
                    exact W.iret (v := 0) hx hb hr (fun t ht hW => ⟨⟨0, (), rfl, rfl, by rw [ht]; exact hP, hK.warm hW, hD⟩, hS.F ht⟩) hS.2.2 dX11_rowsPresent_31
                  · have q14 := mm_ltL (h := 3) (mm_nle c13) mm_k4 mm_k4 (by decide)
                    exact mm_no q14 (by decide)
                · have q15 := mm_neL (lo := 1) (mm_ne c12) mm_k0 mm_k0 (by decide) (by decide)
                  exact mm_no q15 (by decide)
            · have q16 := mm_neL (lo := 1) (mm_ne c9) mm_k0 mm_k0 (by decide) (by decide)
              exact mm_no q16 (by decide)
        · have q17 := mm_neL (lo := 1) (mm_ne c6) mm_k0 mm_k0 (by decide) (by decide)
          exact mm_no q17 (by decide)
    · have q18 := mm_neL (lo := 1) (mm_ne c3) mm_k0 mm_k0 (by decide) (by decide)
      exact mm_no q18 (by decide)

set_option maxHeartbeats 4000000 in
set_option maxRecDepth 100000 in
theorem K277_X0_allRules (l : Launch) (G : va_G) (cy : Nat → ClassId) (sz : Nat) (a_0 : Nat) (k_0 : Int32) (k_1 : Int32) (k_2 : Int32) (i_0 : Int32) (k_3 : Int32) (k_4 : Int32) (k_5 : Int32) (a_15 : Nat) (a_16 : Nat) (a_17 : Nat) (a_18 : Nat) (a_19 : Nat) (a_20 : Nat) (a_21 : Nat) (a_22 : Nat) (a_23 : Nat) (a_24 : Nat)   : mm_CI l yX0_allRules (mm_ws yX0_allRules cX0_allRules 3 (some .int)) ({ frames := 0, cells := 0, slots := 0, locals := 0 } : Room) G cy sz [(a_0, .inr (0, [.int k_0, .int k_1, .int k_2, .int i_0, .int k_3, .int 0, .int k_4, .int k_5, .ref a_15, .ref a_16, .ref a_17, .ref a_18, .ref a_19, .ref a_20, .ref a_21, .ref a_22, .ref a_23, .ref a_24]))] [.ref a_0] (fun u : Unit => [(a_0, .inr (0, [.int k_0, .int k_1, .int k_2, .int i_0, .int k_3, .int 0, .int k_4, .int k_5, .ref a_15, .ref a_16, .ref a_17, .ref a_18, .ref a_19, .ref a_20, .ref a_21, .ref a_22, .ref a_23, .ref a_24]))]) (fun (r : Int32) (u : Unit) => 0 = r) 0 0 := by
  refine mm_begin (lv := [(0, .ref a_0)]) (by decide) (Nat.le_of_ble_eq_true rfl) rfl ?_
  intro p e s m below meth c A ls R args Q H locs hRe hQ hAe hx hb hr hlocks hml hown hnm hts hsz hA hS hP hK hD hl
  have hRf : R.frames = 0 := by rw [hRe]
  have hRl : R.locals = 0 := by rw [hRe]
  have hRc : R.cells = 0 := by rw [hRe]
  have hRs : R.slots = 0 := by rw [hRe]
  refine lv_iconst (v := 0) hx hb dX0_allRules_0 (by decide) ?_
  refine lv_istore_n (lv' := [(1, .int 0), (0, .ref a_0)]) hx hb dX0_allRules_1 rfl hl (by decide) rfl ?_
  clear hl
  clear ls
  intro ls hl
  refine lv_iconst (v := 0) hx hb dX0_allRules_2 (by decide) ?_
  refine lv_istore_n (lv' := [(2, .int 0), (1, .int 0), (0, .ref a_0)]) hx hb dX0_allRules_3 rfl hl (by decide) rfl ?_
  clear hl
  clear ls
  intro ls hl
  refine lv_iload_n hx hb dX0_allRules_4 rfl (lv_at hl 0 rfl) ?_
  refine lv_aload_n hx hb dX0_allRules_5 rfl (lv_at hl 2 rfl) ?_
  refine va_get (D := G) (ci := 0) (v := .int 0) (C := RX0) (T := TX0) (N := 18) hx hb hts (mm_i inlX0) hown hK.1 hP 0 rfl rfl 5 (by decide) (mm_h hts mm_w220) (fun _ h9 => h9) rfl dX0_allRules_6 ?_
  refine lv_icmp_ge (tgt := 27) hx hb dX0_allRules_9 (by decide) (fun c3 => ?_) (fun c3 => ?_)
  · refine lv_iload_n hx hb dX0_allRules_27 rfl (lv_at hl 1 rfl) ?_
    subst hAe
    rw [hQ]
    exact W.iret (v := 0) hx hb hr (fun t ht hW => ⟨⟨0, (), rfl, rfl, by rw [ht]; exact hP, hK.warm hW, hD⟩, hS.F ht⟩) hS.2.2 dX0_allRules_28
  · have q4 := mm_ltL (h := (-1)) (mm_nle c3) mm_k0 mm_k0 (by decide)
    exact mm_no q4 (by decide)

set_option maxHeartbeats 4000000 in
set_option maxRecDepth 100000 in
theorem K278_X11_rowsPresent (l : Launch) (G : va_G) (cy : Nat → ClassId) (sz : Nat) (a_0 : Nat) (a_1 : Nat) (a_2 : Nat) (a_3 : Nat) (a_4 : Nat) (a_5 : Nat) (a_6 : Nat) (a_7 : Nat) (a_8 : Nat) (a_9 : Nat) (a_10 : Nat) (a_11 : Nat) (a_25 : Nat) (a_26 : Nat) (a_27 : Nat) (a_28 : Nat) (i_1 : Int32) (i_2 : Int32) (a_29 : Nat) (i_3 : Int32) (i_4 : Int32) (a_30 : Nat) (i_5 : Int32) (i_6 : Int32) (a_31 : Nat) (i_7 : Int32) (i_8 : Int32) (a_32 : Nat)   : mm_CI l yX11_rowsPresent (mm_ws yX11_rowsPresent cX11_rowsPresent 3 (some .int)) ({ frames := 0, cells := 0, slots := 0, locals := 0 } : Room) G cy sz [(a_0, .inr (11, [.ref a_1, .ref a_2, .ref a_3, .ref a_4, .ref a_5, .ref a_6, .ref a_7, .ref a_8, .ref a_9, .ref a_10, .ref a_11])), (a_6, .inl (cy 6, 4, .inr (.inr (.inr (.inr (va_up (va_up (va_up (va_up (fun _ => none) 0 (some a_25)) 1 (some a_26)) 2 (some a_27)) 3 (some a_28))))))), (a_25, .inr (6, [.int 0, .int i_1, .int i_2, .ref a_29])), (a_26, .inr (6, [.int 0, .int i_3, .int i_4, .ref a_30])), (a_27, .inr (6, [.int 0, .int i_5, .int i_6, .ref a_31])), (a_28, .inr (6, [.int 0, .int i_7, .int i_8, .ref a_32]))] [.ref a_0] (fun u : Unit => [(a_0, .inr (11, [.ref a_1, .ref a_2, .ref a_3, .ref a_4, .ref a_5, .ref a_6, .ref a_7, .ref a_8, .ref a_9, .ref a_10, .ref a_11])), (a_6, .inl (cy 6, 4, .inr (.inr (.inr (.inr (va_up (va_up (va_up (va_up (fun _ => none) 0 (some a_25)) 1 (some a_26)) 2 (some a_27)) 3 (some a_28))))))), (a_25, .inr (6, [.int 0, .int i_1, .int i_2, .ref a_29])), (a_26, .inr (6, [.int 0, .int i_3, .int i_4, .ref a_30])), (a_27, .inr (6, [.int 0, .int i_5, .int i_6, .ref a_31])), (a_28, .inr (6, [.int 0, .int i_7, .int i_8, .ref a_32]))]) (fun (r : Int32) (u : Unit) => 0 = r) 0 0 := by
  refine mm_begin (lv := [(0, .ref a_0)]) (by decide) (Nat.le_of_ble_eq_true rfl) rfl ?_
  intro p e s m below meth c A ls R args Q H locs hRe hQ hAe hx hb hr hlocks hml hown hnm hts hsz hA hS hP hK hD hl
  have hRf : R.frames = 0 := by rw [hRe]
  have hRl : R.locals = 0 := by rw [hRe]
  have hRc : R.cells = 0 := by rw [hRe]
  have hRs : R.slots = 0 := by rw [hRe]
  refine lv_iconst (v := 0) hx hb dX11_rowsPresent_0 (by decide) ?_
  refine lv_istore_n (lv' := [(1, .int 0), (0, .ref a_0)]) hx hb dX11_rowsPresent_1 rfl hl (by decide) rfl ?_
  clear hl
  clear ls
  intro ls hl
  refine lv_iconst (v := 0) hx hb dX11_rowsPresent_2 (by decide) ?_
  refine lv_istore_n (lv' := [(2, .int 0), (1, .int 0), (0, .ref a_0)]) hx hb dX11_rowsPresent_3 rfl hl (by decide) rfl ?_
  clear hl
  clear ls
  intro ls hl
  refine lv_iload_n hx hb dX11_rowsPresent_4 rfl (lv_at hl 0 rfl) ?_
  refine lv_iconst (v := 4) hx hb dX11_rowsPresent_5 (by decide) ?_
  refine lv_icmp_ge (tgt := 30) hx hb dX11_rowsPresent_6 (by decide) (fun c1 => ?_) (fun c1 => ?_)
  · have q2 := mm_leL (mm_le c1) mm_k4 mm_k0
    exact mm_no q2 (by decide)
  · refine lv_aload_n hx hb dX11_rowsPresent_9 rfl (lv_at hl 2 rfl) ?_
    refine va_get (D := G) (ci := 11) (v := .ref a_6) (C := RX11) (T := TX11) (N := 11) hx hb hts (mm_i inlX11) hown hK.1 hP 0 rfl rfl 5 (by decide) (mm_h hts mm_w32) (fun _ h9 => h9) rfl dX11_rowsPresent_10 ?_
    refine lv_iload_n hx hb dX11_rowsPresent_13 rfl (lv_at hl 0 rfl) ?_
    refine va_aldq hx hb hK.1 hP 1 6 rfl rfl (mm_in mm_k0 (by decide)) dX11_rowsPresent_14 ?_
    refine W.eq (g2 := F0 m 15 ls [.ref a_25]) rfl ?_
    refine va_get (D := G) (ci := 6) (v := .int 0) (C := RX6) (T := TX6) (N := 4) hx hb hts (mm_i inlX6) hown hK.1 hP 2 rfl rfl 0 (by decide) (mm_h hts mm_w1239) (fun _ h9 => h9) rfl dX11_rowsPresent_15 ?_
    refine lv_if_eq (tgt := 24) hx hb dX11_rowsPresent_18 (by decide) (fun c3 => ?_) (fun c3 => ?_)
    · refine lv_iinc (v := 1) (lv' := [(2, .int 1), (1, .int 0), (0, .ref a_0)]) hx hb dX11_rowsPresent_24 hl (k := 0) rfl (by decide) (by decide) rfl ?_
      clear hl
      clear ls
      intro ls hl
      refine lv_goto (tgt := 4) hx hb dX11_rowsPresent_27 (by decide) ?_
      refine lv_iload_n hx hb dX11_rowsPresent_4 rfl (lv_at hl 0 rfl) ?_
      refine lv_iconst (v := 4) hx hb dX11_rowsPresent_5 (by decide) ?_
      refine lv_icmp_ge (tgt := 30) hx hb dX11_rowsPresent_6 (by decide) (fun c4 => ?_) (fun c4 => ?_)
      · have q5 := mm_leL (mm_le c4) mm_k4 mm_k1
        exact mm_no q5 (by decide)
      · refine lv_aload_n hx hb dX11_rowsPresent_9 rfl (lv_at hl 2 rfl) ?_
        refine va_get (D := G) (ci := 11) (v := .ref a_6) (C := RX11) (T := TX11) (N := 11) hx hb hts (mm_i inlX11) hown hK.1 hP 0 rfl rfl 5 (by decide) (mm_h hts mm_w32) (fun _ h9 => h9) rfl dX11_rowsPresent_10 ?_
        refine lv_iload_n hx hb dX11_rowsPresent_13 rfl (lv_at hl 0 rfl) ?_
        refine va_aldq hx hb hK.1 hP 1 6 rfl rfl (mm_in mm_k1 (by decide)) dX11_rowsPresent_14 ?_
        refine W.eq (g2 := F0 m 15 ls [.ref a_26]) rfl ?_
        refine va_get (D := G) (ci := 6) (v := .int 0) (C := RX6) (T := TX6) (N := 4) hx hb hts (mm_i inlX6) hown hK.1 hP 3 rfl rfl 0 (by decide) (mm_h hts mm_w1239) (fun _ h9 => h9) rfl dX11_rowsPresent_15 ?_
        refine lv_if_eq (tgt := 24) hx hb dX11_rowsPresent_18 (by decide) (fun c6 => ?_) (fun c6 => ?_)
        · refine lv_iinc (v := 2) (lv' := [(2, .int 2), (1, .int 0), (0, .ref a_0)]) hx hb dX11_rowsPresent_24 hl (k := 0) rfl (by decide) (by decide) rfl ?_
          clear hl
          clear ls
          intro ls hl
          refine lv_goto (tgt := 4) hx hb dX11_rowsPresent_27 (by decide) ?_
          refine lv_iload_n hx hb dX11_rowsPresent_4 rfl (lv_at hl 0 rfl) ?_
          refine lv_iconst (v := 4) hx hb dX11_rowsPresent_5 (by decide) ?_
          refine lv_icmp_ge (tgt := 30) hx hb dX11_rowsPresent_6 (by decide) (fun c7 => ?_) (fun c7 => ?_)
          · have q8 := mm_leL (mm_le c7) mm_k4 mm_k2
            exact mm_no q8 (by decide)
          · refine lv_aload_n hx hb dX11_rowsPresent_9 rfl (lv_at hl 2 rfl) ?_
            refine va_get (D := G) (ci := 11) (v := .ref a_6) (C := RX11) (T := TX11) (N := 11) hx hb hts (mm_i inlX11) hown hK.1 hP 0 rfl rfl 5 (by decide) (mm_h hts mm_w32) (fun _ h9 => h9) rfl dX11_rowsPresent_10 ?_
            refine lv_iload_n hx hb dX11_rowsPresent_13 rfl (lv_at hl 0 rfl) ?_
            refine va_aldq hx hb hK.1 hP 1 6 rfl rfl (mm_in mm_k2 (by decide)) dX11_rowsPresent_14 ?_
            refine W.eq (g2 := F0 m 15 ls [.ref a_27]) rfl ?_
            refine va_get (D := G) (ci := 6) (v := .int 0) (C := RX6) (T := TX6) (N := 4) hx hb hts (mm_i inlX6) hown hK.1 hP 4 rfl rfl 0 (by decide) (mm_h hts mm_w1239) (fun _ h9 => h9) rfl dX11_rowsPresent_15 ?_
            refine lv_if_eq (tgt := 24) hx hb dX11_rowsPresent_18 (by decide) (fun c9 => ?_) (fun c9 => ?_)
            · refine lv_iinc (v := 3) (lv' := [(2, .int 3), (1, .int 0), (0, .ref a_0)]) hx hb dX11_rowsPresent_24 hl (k := 0) rfl (by decide) (by decide) rfl ?_
              clear hl
              clear ls
              intro ls hl
              refine lv_goto (tgt := 4) hx hb dX11_rowsPresent_27 (by decide) ?_
              refine lv_iload_n hx hb dX11_rowsPresent_4 rfl (lv_at hl 0 rfl) ?_
              refine lv_iconst (v := 4) hx hb dX11_rowsPresent_5 (by decide) ?_
              refine lv_icmp_ge (tgt := 30) hx hb dX11_rowsPresent_6 (by decide) (fun c10 => ?_) (fun c10 => ?_)
              · have q11 := mm_leL (mm_le c10) mm_k4 mm_k3
                exact mm_no q11 (by decide)
              · refine lv_aload_n hx hb dX11_rowsPresent_9 rfl (lv_at hl 2 rfl) ?_
                refine va_get (D := G) (ci := 11) (v := .ref a_6) (C := RX11) (T := TX11) (N := 11) hx hb hts (mm_i inlX11) hown hK.1 hP 0 rfl rfl 5 (by decide) (mm_h hts mm_w32) (fun _ h9 => h9) rfl dX11_rowsPresent_10 ?_
                refine lv_iload_n hx hb dX11_rowsPresent_13 rfl (lv_at hl 0 rfl) ?_
                refine va_aldq hx hb hK.1 hP 1 6 rfl rfl (mm_in mm_k3 (by decide)) dX11_rowsPresent_14 ?_
                refine W.eq (g2 := F0 m 15 ls [.ref a_28]) rfl ?_
                refine va_get (D := G) (ci := 6) (v := .int 0) (C := RX6) (T := TX6) (N := 4) hx hb hts (mm_i inlX6) hown hK.1 hP 5 rfl rfl 0 (by decide) (mm_h hts mm_w1239) (fun _ h9 => h9) rfl dX11_rowsPresent_15 ?_
                refine lv_if_eq (tgt := 24) hx hb dX11_rowsPresent_18 (by decide) (fun c12 => ?_) (fun c12 => ?_)
                · refine lv_iinc (v := 4) (lv' := [(2, .int 4), (1, .int 0), (0, .ref a_0)]) hx hb dX11_rowsPresent_24 hl (k := 0) rfl (by decide) (by decide) rfl ?_
                  clear hl
                  clear ls
                  intro ls hl
                  refine lv_goto (tgt := 4) hx hb dX11_rowsPresent_27 (by decide) ?_
                  refine lv_iload_n hx hb dX11_rowsPresent_4 rfl (lv_at hl 0 rfl) ?_
                  refine lv_iconst (v := 4) hx hb dX11_rowsPresent_5 (by decide) ?_
                  refine lv_icmp_ge (tgt := 30) hx hb dX11_rowsPresent_6 (by decide) (fun c13 => ?_) (fun c13 => ?_)
                  · refine lv_iload_n hx hb dX11_rowsPresent_30 rfl (lv_at hl 1 rfl) ?_
                    subst hAe
                    rw [hQ]
                    exact W.iret (v := 0) hx hb hr (fun t ht hW => ⟨⟨0, (), rfl, rfl, by rw [ht]; exact hP, hK.warm hW, hD⟩, hS.F ht⟩) hS.2.2 dX11_rowsPresent_31
                  · have q14 := mm_ltL (h := 3) (mm_nle c13) mm_k4 mm_k4 (by decide)
                    exact mm_no q14 (by decide)
                · have q15 := mm_neL (lo := 1) (mm_ne c12) mm_k0 mm_k0 (by decide) (by decide)
                  exact mm_no q15 (by decide)
            · have q16 := mm_neL (lo := 1) (mm_ne c9) mm_k0 mm_k0 (by decide) (by decide)
              exact mm_no q16 (by decide)
        · have q17 := mm_neL (lo := 1) (mm_ne c6) mm_k0 mm_k0 (by decide) (by decide)
          exact mm_no q17 (by decide)
    · have q18 := mm_neL (lo := 1) (mm_ne c3) mm_k0 mm_k0 (by decide) (by decide)
      exact mm_no q18 (by decide)

set_option maxHeartbeats 4000000 in
set_option maxRecDepth 100000 in
theorem K276_X11_count (l : Launch) (G : va_G) (cy : Nat → ClassId) (sz : Nat) (a_0 : Nat) (i_0 : Int32) (a_1 : Nat) (a_2 : Nat) (a_3 : Nat) (a_4 : Nat) (a_5 : Nat) (a_6 : Nat) (a_7 : Nat) (a_8 : Nat) (a_9 : Nat) (a_10 : Nat) (a_11 : Nat) (a_12 : Nat) (a_24 : Nat) (a_25 : Nat) (k_0 : Int32) (a_26 : Nat) (a_27 : Nat) (a_28 : Nat) (a_29 : Nat) (a_30 : Nat) (a_31 : Nat) (a_32 : Nat) (a_33 : Nat) (a_34 : Nat) (a_35 : Nat) (a_78 : Nat) (a_79 : Nat) (a_80 : Nat) (a_81 : Nat) (k_1 : Int32) (k_2 : Int32) (a_82 : Nat) (k_3 : Int32) (k_4 : Int32) (a_83 : Nat) (k_5 : Int32) (k_6 : Int32) (a_84 : Nat) (k_7 : Int32) (k_8 : Int32) (a_85 : Nat)   : mm_CI l yX11_count (mm_ws yX11_count cX11_count 2 (some .int)) ({ frames := 1, cells := 0, slots := 0, locals := 22 } : Room) G cy sz [(a_0, .inr (11, [.ref a_1, .ref a_2, .ref a_3, .ref a_4, .ref a_5, .ref a_6, .ref a_7, .ref a_8, .ref a_9, .ref a_10, .ref a_11])), (a_1, .inr (9, [.ref a_12, .int 0])), (a_3, .inr (10, [.ref a_24, .ref a_25])), (a_24, .inr (0, [.int 0, .int 0, .int 0, .int k_0, .int 0, .int 0, .int 0, .int 0, .ref a_26, .ref a_27, .ref a_28, .ref a_29, .ref a_30, .ref a_31, .ref a_32, .ref a_33, .ref a_34, .ref a_35])), (a_6, .inl (cy 6, 4, .inr (.inr (.inr (.inr (va_up (va_up (va_up (va_up (fun _ => none) 0 (some a_78)) 1 (some a_79)) 2 (some a_80)) 3 (some a_81))))))), (a_78, .inr (6, [.int 0, .int k_1, .int k_2, .ref a_82])), (a_79, .inr (6, [.int 0, .int k_3, .int k_4, .ref a_83])), (a_80, .inr (6, [.int 0, .int k_5, .int k_6, .ref a_84])), (a_81, .inr (6, [.int 0, .int k_7, .int k_8, .ref a_85]))] [.ref a_0, .int i_0] (fun u : Unit => [(a_0, .inr (11, [.ref a_1, .ref a_2, .ref a_3, .ref a_4, .ref a_5, .ref a_6, .ref a_7, .ref a_8, .ref a_9, .ref a_10, .ref a_11])), (a_1, .inr (9, [.ref a_12, .int 0])), (a_3, .inr (10, [.ref a_24, .ref a_25])), (a_24, .inr (0, [.int 0, .int 0, .int 0, .int k_0, .int 0, .int 0, .int 0, .int 0, .ref a_26, .ref a_27, .ref a_28, .ref a_29, .ref a_30, .ref a_31, .ref a_32, .ref a_33, .ref a_34, .ref a_35])), (a_6, .inl (cy 6, 4, .inr (.inr (.inr (.inr (va_up (va_up (va_up (va_up (fun _ => none) 0 (some a_78)) 1 (some a_79)) 2 (some a_80)) 3 (some a_81))))))), (a_78, .inr (6, [.int 0, .int k_1, .int k_2, .ref a_82])), (a_79, .inr (6, [.int 0, .int k_3, .int k_4, .ref a_83])), (a_80, .inr (6, [.int 0, .int k_5, .int k_6, .ref a_84])), (a_81, .inr (6, [.int 0, .int k_7, .int k_8, .ref a_85]))]) (fun (r : Int32) (u : Unit) => (((-1) = r ∧ mm_rg i_0 (-2147483648) (-1)) ∨ ((-1) = r ∧ mm_rg i_0 10 2147483647) ∨ (0 = r ∧ mm_rg i_0 0 9))) 0 0 := by
  refine mm_begin (lv := [(0, .ref a_0), (1, .int i_0)]) (by decide) (Nat.le_of_ble_eq_true rfl) rfl ?_
  intro p e s m below meth c A ls R args Q H locs hRe hQ hAe hx hb hr hlocks hml hown hnm hts hsz hA hS hP hK hD hl
  have hRf : R.frames = 1 := by rw [hRe]
  have hRl : R.locals = 22 := by rw [hRe]
  have hRc : R.cells = 0 := by rw [hRe]
  have hRs : R.slots = 0 := by rw [hRe]
  refine lv_iload_n hx hb dX11_count_0 rfl (lv_at hl 1 rfl) ?_
  rcases mm_out i_0 0 9 with c1 | c1 | c1
  · have q2 : mm_rg i_0 (-2147483648) (-1) := ⟨((mm_top i_0)).1, by omega⟩
    refine lv_tableOut (tgt := 157) hx hb dX11_count_1 (Or.inl c1) (by decide) ?_
    refine lv_iconst (v := (-1)) hx hb dX11_count_157 (by decide) ?_
    subst hAe
    rw [hQ]
    exact W.iret (v := (-1)) hx hb hr (fun t ht hW => ⟨⟨(-1), (), rfl, (Or.inl ⟨rfl, q2⟩), by rw [ht]; exact hP, hK.warm hW, hD⟩, hS.F ht⟩) hS.2.2 dX11_count_158
  · have q3 : mm_rg i_0 10 2147483647 := ⟨by omega, ((mm_top i_0)).2⟩
    refine lv_tableOut (tgt := 157) hx hb dX11_count_1 (Or.inr c1) (by decide) ?_
    refine lv_iconst (v := (-1)) hx hb dX11_count_157 (by decide) ?_
    subst hAe
    rw [hQ]
    exact W.iret (v := (-1)) hx hb hr (fun t ht hW => ⟨⟨(-1), (), rfl, (Or.inr (Or.inl ⟨rfl, q3⟩)), by rw [ht]; exact hP, hK.warm hW, hD⟩, hS.F ht⟩) hS.2.2 dX11_count_158
  · have c4 := mm_cases10 c1
    rcases c4 with rfl | rfl | rfl | rfl | rfl | rfl | rfl | rfl | rfl | rfl
    · refine lv_tableIn (tgt := 56) hx hb dX11_count_1 (by decide) (by decide) rfl (by decide) ?_
      refine lv_aload_n hx hb dX11_count_56 rfl (lv_at hl 0 rfl) ?_
      refine va_get (D := G) (ci := 11) (v := .ref a_3) (C := RX11) (T := TX11) (N := 11) hx hb hts (mm_i inlX11) hown hK.1 hP 0 rfl rfl 2 (by decide) (mm_h hts mm_w24) (fun _ h9 => h9) rfl dX11_count_57 ?_
      refine va_get (D := G) (ci := 10) (v := .ref a_24) (C := RX10) (T := TX10) (N := 2) hx hb hts (mm_i inlX10) hown hK.1 hP 2 rfl rfl 0 (by decide) (mm_h hts mm_w199) (fun _ h9 => h9) rfl dX11_count_60 ?_
      refine va_get (D := G) (ci := 0) (v := .int 0) (C := RX0) (T := TX0) (N := 18) hx hb hts (mm_i inlX0) hown hK.1 hP 3 rfl rfl 1 (by decide) (mm_h hts mm_w1641) (fun _ h9 => h9) rfl dX11_count_63 ?_
      subst hAe
      rw [hQ]
      exact W.iret (v := 0) hx hb hr (fun t ht hW => ⟨⟨0, (), rfl, (Or.inr (Or.inr ⟨rfl, (mm_wk mm_k0 (by decide))⟩)), by rw [ht]; exact hP, hK.warm hW, hD⟩, hS.F ht⟩) hS.2.2 dX11_count_66
    · refine lv_tableIn (tgt := 67) hx hb dX11_count_1 (by decide) (by decide) rfl (by decide) ?_
      refine lv_aload_n hx hb dX11_count_67 rfl (lv_at hl 0 rfl) ?_
      refine va_get (D := G) (ci := 11) (v := .ref a_3) (C := RX11) (T := TX11) (N := 11) hx hb hts (mm_i inlX11) hown hK.1 hP 0 rfl rfl 2 (by decide) (mm_h hts mm_w24) (fun _ h9 => h9) rfl dX11_count_68 ?_
      refine va_get (D := G) (ci := 10) (v := .ref a_24) (C := RX10) (T := TX10) (N := 2) hx hb hts (mm_i inlX10) hown hK.1 hP 2 rfl rfl 0 (by decide) (mm_h hts mm_w199) (fun _ h9 => h9) rfl dX11_count_71 ?_
      refine va_get (D := G) (ci := 0) (v := .int 0) (C := RX0) (T := TX0) (N := 18) hx hb hts (mm_i inlX0) hown hK.1 hP 3 rfl rfl 2 (by decide) (mm_h hts mm_w1642) (fun _ h9 => h9) rfl dX11_count_74 ?_
      subst hAe
      rw [hQ]
      exact W.iret (v := 0) hx hb hr (fun t ht hW => ⟨⟨0, (), rfl, (Or.inr (Or.inr ⟨rfl, (mm_wk mm_k1 (by decide))⟩)), by rw [ht]; exact hP, hK.warm hW, hD⟩, hS.F ht⟩) hS.2.2 dX11_count_77
    · refine lv_tableIn (tgt := 78) hx hb dX11_count_1 (by decide) (by decide) rfl (by decide) ?_
      refine lv_aload_n hx hb dX11_count_78 rfl (lv_at hl 0 rfl) ?_
      refine va_get (D := G) (ci := 11) (v := .ref a_3) (C := RX11) (T := TX11) (N := 11) hx hb hts (mm_i inlX11) hown hK.1 hP 0 rfl rfl 2 (by decide) (mm_h hts mm_w24) (fun _ h9 => h9) rfl dX11_count_79 ?_
      refine va_get (D := G) (ci := 10) (v := .ref a_24) (C := RX10) (T := TX10) (N := 2) hx hb hts (mm_i inlX10) hown hK.1 hP 2 rfl rfl 0 (by decide) (mm_h hts mm_w199) (fun _ h9 => h9) rfl dX11_count_82 ?_
      refine va_get (D := G) (ci := 0) (v := .int 0) (C := RX0) (T := TX0) (N := 18) hx hb hts (mm_i inlX0) hown hK.1 hP 3 rfl rfl 4 (by decide) (mm_h hts mm_w580) (fun _ h9 => h9) rfl dX11_count_85 ?_
      subst hAe
      rw [hQ]
      exact W.iret (v := 0) hx hb hr (fun t ht hW => ⟨⟨0, (), rfl, (Or.inr (Or.inr ⟨rfl, (mm_wk mm_k2 (by decide))⟩)), by rw [ht]; exact hP, hK.warm hW, hD⟩, hS.F ht⟩) hS.2.2 dX11_count_88
    · refine lv_tableIn (tgt := 89) hx hb dX11_count_1 (by decide) (by decide) rfl (by decide) ?_
      refine lv_aload_n hx hb dX11_count_89 rfl (lv_at hl 0 rfl) ?_
      refine va_get (D := G) (ci := 11) (v := .ref a_3) (C := RX11) (T := TX11) (N := 11) hx hb hts (mm_i inlX11) hown hK.1 hP 0 rfl rfl 2 (by decide) (mm_h hts mm_w24) (fun _ h9 => h9) rfl dX11_count_90 ?_
      refine va_get (D := G) (ci := 10) (v := .ref a_24) (C := RX10) (T := TX10) (N := 2) hx hb hts (mm_i inlX10) hown hK.1 hP 2 rfl rfl 0 (by decide) (mm_h hts mm_w199) (fun _ h9 => h9) rfl dX11_count_93 ?_
      refine va_get (D := G) (ci := 0) (v := .int 0) (C := RX0) (T := TX0) (N := 18) hx hb hts (mm_i inlX0) hown hK.1 hP 3 rfl rfl 5 (by decide) (mm_h hts mm_w630) (fun _ h9 => h9) rfl dX11_count_96 ?_
      subst hAe
      rw [hQ]
      exact W.iret (v := 0) hx hb hr (fun t ht hW => ⟨⟨0, (), rfl, (Or.inr (Or.inr ⟨rfl, (mm_wk mm_k3 (by decide))⟩)), by rw [ht]; exact hP, hK.warm hW, hD⟩, hS.F ht⟩) hS.2.2 dX11_count_99
    · refine lv_tableIn (tgt := 100) hx hb dX11_count_1 (by decide) (by decide) rfl (by decide) ?_
      refine lv_aload_n hx hb dX11_count_100 rfl (lv_at hl 0 rfl) ?_
      refine va_get (D := G) (ci := 11) (v := .ref a_3) (C := RX11) (T := TX11) (N := 11) hx hb hts (mm_i inlX11) hown hK.1 hP 0 rfl rfl 2 (by decide) (mm_h hts mm_w24) (fun _ h9 => h9) rfl dX11_count_101 ?_
      refine va_get (D := G) (ci := 10) (v := .ref a_24) (C := RX10) (T := TX10) (N := 2) hx hb hts (mm_i inlX10) hown hK.1 hP 2 rfl rfl 0 (by decide) (mm_h hts mm_w199) (fun _ h9 => h9) rfl dX11_count_104 ?_
      refine mm_finir (va_runV (As := []) (rest := []) ⟨hx, hb, hml, hown, hts⟩ (K277_X0_allRules l G cy H.size a_24 0 0 0 k_0 0 0 0 a_26 a_27 a_28 a_29 a_30 a_31 a_32 a_33 a_34 a_35 ) (cwV 0 hts (mm_gV mm_w1643 mm_w1644 mm_w1645 mm_w28 mm_w1646) rfl rfl rfl hd_X0_allRules ⟨by rw [hRf]; exact Nat.le_of_ble_eq_true rfl, by rw [hRl]; exact Nat.le_of_ble_eq_true rfl⟩) (mm_preV hK hP hD [3] rfl rfl 3 rfl rfl rfl) rfl rfl hl.1 rfl (lv_room (Nat.le_of_ble_eq_true rfl)) dX11_count_107 ⟨by rw [hRc]; exact Nat.le_of_ble_eq_true rfl, by rw [hRs]; exact Nat.le_of_ble_eq_true rfl⟩) hP hD hS hA [3] rfl (fun _ => rfl) ?_
      clear hP hD hS
      clear H locs
      intro v5 _u H locs hw hP hD hS
      subst hw
      subst hAe
      rw [hQ]
      exact W.iret (v := 0) hx hb hr (fun t ht hW => ⟨⟨0, (), rfl, (Or.inr (Or.inr ⟨rfl, (mm_wk mm_k4 (by decide))⟩)), by rw [ht]; exact hP, hK.warm hW, hD⟩, hS.F ht⟩) hS.2.2 dX11_count_110
    · refine lv_tableIn (tgt := 111) hx hb dX11_count_1 (by decide) (by decide) rfl (by decide) ?_
      refine lv_aload_n hx hb dX11_count_111 rfl (lv_at hl 0 rfl) ?_
      refine va_get (D := G) (ci := 11) (v := .ref a_3) (C := RX11) (T := TX11) (N := 11) hx hb hts (mm_i inlX11) hown hK.1 hP 0 rfl rfl 2 (by decide) (mm_h hts mm_w24) (fun _ h9 => h9) rfl dX11_count_112 ?_
      refine va_get (D := G) (ci := 10) (v := .ref a_24) (C := RX10) (T := TX10) (N := 2) hx hb hts (mm_i inlX10) hown hK.1 hP 2 rfl rfl 0 (by decide) (mm_h hts mm_w199) (fun _ h9 => h9) rfl dX11_count_115 ?_
      refine va_get (D := G) (ci := 0) (v := .int 0) (C := RX0) (T := TX0) (N := 18) hx hb hts (mm_i inlX0) hown hK.1 hP 3 rfl rfl 6 (by decide) (mm_h hts mm_w604) (fun _ h9 => h9) rfl dX11_count_118 ?_
      subst hAe
      rw [hQ]
      exact W.iret (v := 0) hx hb hr (fun t ht hW => ⟨⟨0, (), rfl, (Or.inr (Or.inr ⟨rfl, (mm_wk mm_k5 (by decide))⟩)), by rw [ht]; exact hP, hK.warm hW, hD⟩, hS.F ht⟩) hS.2.2 dX11_count_121
    · refine lv_tableIn (tgt := 122) hx hb dX11_count_1 (by decide) (by decide) rfl (by decide) ?_
      refine lv_aload_n hx hb dX11_count_122 rfl (lv_at hl 0 rfl) ?_
      refine va_get (D := G) (ci := 11) (v := .ref a_3) (C := RX11) (T := TX11) (N := 11) hx hb hts (mm_i inlX11) hown hK.1 hP 0 rfl rfl 2 (by decide) (mm_h hts mm_w24) (fun _ h9 => h9) rfl dX11_count_123 ?_
      refine va_get (D := G) (ci := 10) (v := .ref a_24) (C := RX10) (T := TX10) (N := 2) hx hb hts (mm_i inlX10) hown hK.1 hP 2 rfl rfl 0 (by decide) (mm_h hts mm_w199) (fun _ h9 => h9) rfl dX11_count_126 ?_
      refine va_get (D := G) (ci := 0) (v := .int 0) (C := RX0) (T := TX0) (N := 18) hx hb hts (mm_i inlX0) hown hK.1 hP 3 rfl rfl 7 (by decide) (mm_h hts mm_w1540) (fun _ h9 => h9) rfl dX11_count_129 ?_
      subst hAe
      rw [hQ]
      exact W.iret (v := 0) hx hb hr (fun t ht hW => ⟨⟨0, (), rfl, (Or.inr (Or.inr ⟨rfl, (mm_wk mm_k6 (by decide))⟩)), by rw [ht]; exact hP, hK.warm hW, hD⟩, hS.F ht⟩) hS.2.2 dX11_count_132
    · refine lv_tableIn (tgt := 133) hx hb dX11_count_1 (by decide) (by decide) rfl (by decide) ?_
      refine lv_aload_n hx hb dX11_count_133 rfl (lv_at hl 0 rfl) ?_
      refine va_get (D := G) (ci := 11) (v := .ref a_3) (C := RX11) (T := TX11) (N := 11) hx hb hts (mm_i inlX11) hown hK.1 hP 0 rfl rfl 2 (by decide) (mm_h hts mm_w24) (fun _ h9 => h9) rfl dX11_count_134 ?_
      refine va_get (D := G) (ci := 10) (v := .ref a_24) (C := RX10) (T := TX10) (N := 2) hx hb hts (mm_i inlX10) hown hK.1 hP 2 rfl rfl 0 (by decide) (mm_h hts mm_w199) (fun _ h9 => h9) rfl dX11_count_137 ?_
      refine va_get (D := G) (ci := 0) (v := .int 0) (C := RX0) (T := TX0) (N := 18) hx hb hts (mm_i inlX0) hown hK.1 hP 3 rfl rfl 0 (by decide) (mm_h hts mm_w200) (fun _ h9 => h9) rfl dX11_count_140 ?_
      subst hAe
      rw [hQ]
      exact W.iret (v := 0) hx hb hr (fun t ht hW => ⟨⟨0, (), rfl, (Or.inr (Or.inr ⟨rfl, (mm_wk mm_k7 (by decide))⟩)), by rw [ht]; exact hP, hK.warm hW, hD⟩, hS.F ht⟩) hS.2.2 dX11_count_143
    · refine lv_tableIn (tgt := 144) hx hb dX11_count_1 (by decide) (by decide) rfl (by decide) ?_
      refine lv_aload_n hx hb dX11_count_144 rfl (lv_at hl 0 rfl) ?_
      refine va_get (D := G) (ci := 11) (v := .ref a_1) (C := RX11) (T := TX11) (N := 11) hx hb hts (mm_i inlX11) hown hK.1 hP 0 rfl rfl 0 (by decide) (mm_h hts mm_w16) (fun _ h9 => h9) rfl dX11_count_145 ?_
      refine va_get (D := G) (ci := 9) (v := .int 0) (C := RX9) (T := TX9) (N := 2) hx hb hts (mm_i inlX9) hown hK.1 hP 1 rfl rfl 1 (by decide) (mm_h hts mm_w167) (fun _ h9 => h9) rfl dX11_count_148 ?_
      subst hAe
      rw [hQ]
      exact W.iret (v := 0) hx hb hr (fun t ht hW => ⟨⟨0, (), rfl, (Or.inr (Or.inr ⟨rfl, (mm_wk mm_k8 (by decide))⟩)), by rw [ht]; exact hP, hK.warm hW, hD⟩, hS.F ht⟩) hS.2.2 dX11_count_151
    · refine lv_tableIn (tgt := 152) hx hb dX11_count_1 (by decide) (by decide) rfl (by decide) ?_
      refine lv_aload_n hx hb dX11_count_152 rfl (lv_at hl 0 rfl) ?_
      refine mm_finir (va_runV (As := []) (rest := []) ⟨hx, hb, hml, hown, hts⟩ (K278_X11_rowsPresent l G cy H.size a_0 a_1 a_2 a_3 a_4 a_5 a_6 a_7 a_8 a_9 a_10 a_11 a_78 a_79 a_80 a_81 k_1 k_2 a_82 k_3 k_4 a_83 k_5 k_6 a_84 k_7 k_8 a_85 ) (cwV 0 hts (mm_gV mm_w1647 mm_w1648 mm_w1649 mm_w2 mm_w1650) rfl rfl rfl hd_X11_rowsPresent ⟨by rw [hRf]; exact Nat.le_of_ble_eq_true rfl, by rw [hRl]; exact Nat.le_of_ble_eq_true rfl⟩) (mm_preV hK hP hD [0, 4, 5, 6, 7, 8] rfl rfl 0 rfl rfl rfl) rfl rfl hl.1 rfl (lv_room (Nat.le_of_ble_eq_true rfl)) dX11_count_153 ⟨by rw [hRc]; exact Nat.le_of_ble_eq_true rfl, by rw [hRs]; exact Nat.le_of_ble_eq_true rfl⟩) hP hD hS hA [0, 4, 5, 6, 7, 8] rfl (fun _ => rfl) ?_
      clear hP hD hS
      clear H locs
      intro v6 _u H locs hw hP hD hS
      subst hw
      subst hAe
      rw [hQ]
      exact W.iret (v := 0) hx hb hr (fun t ht hW => ⟨⟨0, (), rfl, (Or.inr (Or.inr ⟨rfl, (mm_wk mm_k9 (by decide))⟩)), by rw [ht]; exact hP, hK.warm hW, hD⟩, hS.F ht⟩) hS.2.2 dX11_count_156

set_option maxHeartbeats 4000000 in
set_option maxRecDepth 100000 in
theorem K280_X12_senses (l : Launch) (G : va_G) (cy : Nat → ClassId) (sz : Nat) (a_0 : Nat) (k_0 : Int32) (a_1 : Nat) (a_2 : Nat) (a_3 : Nat) (a_4 : Nat) (a_5 : Nat) (k_1 : Int32) (i_0 : Int32) (i_1 : Int32) (i_2 : Int32) (i_3 : Int32) (j_0 : Int64) (i_4 : Int32) (i_5 : Int32) (i_6 : Int32) (i_7 : Int32) (a_6 : Nat) (a_7 : Nat) (a_8 : Nat) (a_9 : Nat) (a_10 : Nat) (a_11 : Nat) (a_12 : Nat) (a_13 : Nat) (a_14 : Nat) (a_15 : Nat) (a_16 : Nat) (a_17 : Nat) (a_18 : Nat) (i_8 : Int32) (i_9 : Int32) (i_10 : Int32) (i_11 : Int32) (i_12 : Int32) (i_13 : Int32) (a_19 : Nat) (i_14 : Int32) (a_20 : Nat)   : mm_CI l yX12_senses (mm_ws yX12_senses cX12_senses 1 (some .int)) ({ frames := 0, cells := 0, slots := 0, locals := 0 } : Room) G cy sz [(a_0, .inr (12, [.int k_0, .ref a_1, .ref a_2, .ref a_3, .ref a_4, .ref a_5, .int k_1, .int i_0, .int i_1, .int i_2, .int i_3, .long j_0, .int i_4, .int i_5, .int i_6, .int i_7, .ref a_6, .ref a_7, .ref a_8, .ref a_9, .ref a_10, .ref a_11, .ref a_12, .ref a_13, .ref a_14, .ref a_15, .ref a_16, .ref a_17, .ref a_18, .int i_8, .int i_9, .int i_10, .int i_11, .int i_12, .int i_13, .ref a_19, .int i_14, .ref a_20])), (a_7, .inl (cy 1, 30, .inl (fun _ => 0)))] [.ref a_0] (fun u : Unit => [(a_0, .inr (12, [.int k_0, .ref a_1, .ref a_2, .ref a_3, .ref a_4, .ref a_5, .int k_1, .int i_0, .int i_1, .int i_2, .int i_3, .long j_0, .int i_4, .int i_5, .int i_6, .int i_7, .ref a_6, .ref a_7, .ref a_8, .ref a_9, .ref a_10, .ref a_11, .ref a_12, .ref a_13, .ref a_14, .ref a_15, .ref a_16, .ref a_17, .ref a_18, .int i_8, .int i_9, .int i_10, .int i_11, .int i_12, .int i_13, .ref a_19, .int i_14, .ref a_20])), (a_7, .inl (cy 1, 30, .inl (fun _ => 0)))]) (fun (r : Int32) (u : Unit) => 0 = r) 0 0 := by
  refine mm_begin (lv := [(0, .ref a_0)]) (by decide) (Nat.le_of_ble_eq_true rfl) rfl ?_
  intro p e s m below meth c A ls R args Q H locs hRe hQ hAe hx hb hr hlocks hml hown hnm hts hsz hA hS hP hK hD hl
  have hRf : R.frames = 0 := by rw [hRe]
  have hRl : R.locals = 0 := by rw [hRe]
  have hRc : R.cells = 0 := by rw [hRe]
  have hRs : R.slots = 0 := by rw [hRe]
  refine lv_aload_n hx hb dX12_senses_0 rfl (lv_at hl 0 rfl) ?_
  refine va_get (D := G) (ci := 12) (v := .ref a_7) (C := RX12) (T := TX12) (N := 38) hx hb hts (mm_i inlX12) hown hK.1 hP 0 rfl rfl 17 (by decide) (mm_h hts mm_w149) (fun _ h9 => h9) rfl dX12_senses_1 ?_
  refine lv_iconst (v := 2) hx hb dX12_senses_4 (by decide) ?_
  refine va_iald hx hb hK.1 hP 1 1 rfl rfl (mm_in mm_k2 (by decide)) dX12_senses_5 ?_
  refine lv_topi (fun v1 ev1 => ?_)
  obtain rfl : v1 = 0 := ev1
  subst hAe
  rw [hQ]
  exact W.iret (v := 0) hx hb hr (fun t ht hW => ⟨⟨0, (), rfl, rfl, by rw [ht]; exact hP, hK.warm hW, hD⟩, hS.F ht⟩) hS.2.2 dX12_senses_6

set_option maxHeartbeats 4000000 in
set_option maxRecDepth 100000 in
theorem K281_X12_texts (l : Launch) (G : va_G) (cy : Nat → ClassId) (sz : Nat) (a_0 : Nat) (k_0 : Int32) (a_1 : Nat) (a_2 : Nat) (a_3 : Nat) (a_4 : Nat) (a_5 : Nat) (k_1 : Int32) (i_0 : Int32) (i_1 : Int32) (i_2 : Int32) (i_3 : Int32) (j_0 : Int64) (i_4 : Int32) (i_5 : Int32) (i_6 : Int32) (i_7 : Int32) (a_6 : Nat) (a_7 : Nat) (a_8 : Nat) (a_9 : Nat) (a_10 : Nat) (a_11 : Nat) (a_12 : Nat) (a_13 : Nat) (a_14 : Nat) (a_15 : Nat) (a_16 : Nat) (a_17 : Nat) (a_18 : Nat) (i_8 : Int32) (i_9 : Int32) (i_10 : Int32) (i_11 : Int32) (i_12 : Int32) (i_13 : Int32) (a_19 : Nat) (i_14 : Int32) (a_20 : Nat)   : mm_CI l yX12_texts (mm_ws yX12_texts cX12_texts 1 (some .int)) ({ frames := 0, cells := 0, slots := 0, locals := 0 } : Room) G cy sz [(a_0, .inr (12, [.int k_0, .ref a_1, .ref a_2, .ref a_3, .ref a_4, .ref a_5, .int k_1, .int i_0, .int i_1, .int i_2, .int i_3, .long j_0, .int i_4, .int i_5, .int i_6, .int i_7, .ref a_6, .ref a_7, .ref a_8, .ref a_9, .ref a_10, .ref a_11, .ref a_12, .ref a_13, .ref a_14, .ref a_15, .ref a_16, .ref a_17, .ref a_18, .int i_8, .int i_9, .int i_10, .int i_11, .int i_12, .int i_13, .ref a_19, .int i_14, .ref a_20])), (a_7, .inl (cy 1, 30, .inl (fun _ => 0)))] [.ref a_0] (fun u : Unit => [(a_0, .inr (12, [.int k_0, .ref a_1, .ref a_2, .ref a_3, .ref a_4, .ref a_5, .int k_1, .int i_0, .int i_1, .int i_2, .int i_3, .long j_0, .int i_4, .int i_5, .int i_6, .int i_7, .ref a_6, .ref a_7, .ref a_8, .ref a_9, .ref a_10, .ref a_11, .ref a_12, .ref a_13, .ref a_14, .ref a_15, .ref a_16, .ref a_17, .ref a_18, .int i_8, .int i_9, .int i_10, .int i_11, .int i_12, .int i_13, .ref a_19, .int i_14, .ref a_20])), (a_7, .inl (cy 1, 30, .inl (fun _ => 0)))]) (fun (r : Int32) (u : Unit) => 0 = r) 0 0 := by
  refine mm_begin (lv := [(0, .ref a_0)]) (by decide) (Nat.le_of_ble_eq_true rfl) rfl ?_
  intro p e s m below meth c A ls R args Q H locs hRe hQ hAe hx hb hr hlocks hml hown hnm hts hsz hA hS hP hK hD hl
  have hRf : R.frames = 0 := by rw [hRe]
  have hRl : R.locals = 0 := by rw [hRe]
  have hRc : R.cells = 0 := by rw [hRe]
  have hRs : R.slots = 0 := by rw [hRe]
  refine lv_aload_n hx hb dX12_texts_0 rfl (lv_at hl 0 rfl) ?_
  refine va_get (D := G) (ci := 12) (v := .ref a_7) (C := RX12) (T := TX12) (N := 38) hx hb hts (mm_i inlX12) hown hK.1 hP 0 rfl rfl 17 (by decide) (mm_h hts mm_w149) (fun _ h9 => h9) rfl dX12_texts_1 ?_
  refine lv_iconst (v := 4) hx hb dX12_texts_4 (by decide) ?_
  refine va_iald hx hb hK.1 hP 1 1 rfl rfl (mm_in mm_k4 (by decide)) dX12_texts_5 ?_
  refine lv_topi (fun v1 ev1 => ?_)
  obtain rfl : v1 = 0 := ev1
  subst hAe
  rw [hQ]
  exact W.iret (v := 0) hx hb hr (fun t ht hW => ⟨⟨0, (), rfl, rfl, by rw [ht]; exact hP, hK.warm hW, hD⟩, hS.F ht⟩) hS.2.2 dX12_texts_6

set_option maxHeartbeats 4000000 in
set_option maxRecDepth 100000 in
theorem K279_X12_count (l : Launch) (G : va_G) (cy : Nat → ClassId) (sz : Nat) (a_0 : Nat) (i_0 : Int32) (a_1 : Nat) (a_2 : Nat) (a_3 : Nat) (a_4 : Nat) (a_5 : Nat) (k_0 : Int32) (k_1 : Int32) (k_2 : Int32) (k_3 : Int32) (k_4 : Int64) (k_5 : Int32) (k_6 : Int32) (k_7 : Int32) (k_8 : Int32) (a_6 : Nat) (a_7 : Nat) (a_8 : Nat) (a_9 : Nat) (a_10 : Nat) (a_11 : Nat) (a_12 : Nat) (a_13 : Nat) (a_14 : Nat) (a_15 : Nat) (a_16 : Nat) (a_17 : Nat) (a_18 : Nat) (k_9 : Int32) (k_10 : Int32) (k_11 : Int32) (k_12 : Int32) (k_13 : Int32) (k_14 : Int32) (a_19 : Nat) (k_15 : Int32) (a_20 : Nat)   : mm_CI l yX12_count (mm_ws yX12_count cX12_count 4 (some .int)) ({ frames := 1, cells := 0, slots := 0, locals := 20 } : Room) G cy sz [(a_0, .inr (12, [.int 0, .ref a_1, .ref a_2, .ref a_3, .ref a_4, .ref a_5, .int 0, .int k_0, .int k_1, .int k_2, .int k_3, .long k_4, .int k_5, .int k_6, .int k_7, .int k_8, .ref a_6, .ref a_7, .ref a_8, .ref a_9, .ref a_10, .ref a_11, .ref a_12, .ref a_13, .ref a_14, .ref a_15, .ref a_16, .ref a_17, .ref a_18, .int k_9, .int k_10, .int k_11, .int k_12, .int k_13, .int k_14, .ref a_19, .int k_15, .ref a_20])), (a_1, .inl (cy 1, 4, .inl (fun _ => (-1)))), (a_6, .inl (cy 1, 5, .inl (fun _ => 0))), (a_7, .inl (cy 1, 30, .inl (fun _ => 0)))] [.ref a_0, .int i_0] (fun u : Unit => [(a_0, .inr (12, [.int 0, .ref a_1, .ref a_2, .ref a_3, .ref a_4, .ref a_5, .int 0, .int k_0, .int k_1, .int k_2, .int k_3, .long k_4, .int k_5, .int k_6, .int k_7, .int k_8, .ref a_6, .ref a_7, .ref a_8, .ref a_9, .ref a_10, .ref a_11, .ref a_12, .ref a_13, .ref a_14, .ref a_15, .ref a_16, .ref a_17, .ref a_18, .int k_9, .int k_10, .int k_11, .int k_12, .int k_13, .int k_14, .ref a_19, .int k_15, .ref a_20])), (a_1, .inl (cy 1, 4, .inl (fun _ => (-1)))), (a_6, .inl (cy 1, 5, .inl (fun _ => 0))), (a_7, .inl (cy 1, 30, .inl (fun _ => 0)))]) (fun (r : Int32) (u : Unit) => (((-1) = r ∧ mm_rg i_0 (-2147483648) (-1)) ∨ ((-1) = r ∧ mm_rg i_0 10 2147483647) ∨ (0 = r ∧ mm_rg i_0 0 9))) 0 0 := by
  refine mm_begin (lv := [(0, .ref a_0), (1, .int i_0)]) (by decide) (Nat.le_of_ble_eq_true rfl) rfl ?_
  intro p e s m below meth c A ls R args Q H locs hRe hQ hAe hx hb hr hlocks hml hown hnm hts hsz hA hS hP hK hD hl
  have hRf : R.frames = 1 := by rw [hRe]
  have hRl : R.locals = 20 := by rw [hRe]
  have hRc : R.cells = 0 := by rw [hRe]
  have hRs : R.slots = 0 := by rw [hRe]
  refine lv_aload_n hx hb dX12_count_0 rfl (lv_at hl 0 rfl) ?_
  refine lv_iconst (v := 0) hx hb dX12_count_1 (by decide) ?_
  refine va_put (D := G) (ci := 12) (v := .int 0) (ty := tyX12 0) (C := RX12) (T := TX12) (N := 38) hx hb hts (mm_i inlX12) tyX12 tyX12_ok nmX12 hown hK.1 hP hD hS 0 rfl rfl 0 (by decide) (mm_h hts mm_w177) (fun _ h9 => h9) rfl (tyX12_ok 0 (by decide)) rfl rfl (Nat.le_of_ble_eq_true rfl) dX12_count_2 ?_
  clear hP hD hS
  clear H locs
  intro H locs (hP : va_P G vwCl [(a_0, .inr (12, [.int 0, .ref a_1, .ref a_2, .ref a_3, .ref a_4, .ref a_5, .int 0, .int k_0, .int k_1, .int k_2, .int k_3, .long k_4, .int k_5, .int k_6, .int k_7, .int k_8, .ref a_6, .ref a_7, .ref a_8, .ref a_9, .ref a_10, .ref a_11, .ref a_12, .ref a_13, .ref a_14, .ref a_15, .ref a_16, .ref a_17, .ref a_18, .int k_9, .int k_10, .int k_11, .int k_12, .int k_13, .int k_14, .ref a_19, .int k_15, .ref a_20])), (a_1, .inl (cy 1, 4, .inl (fun _ => (-1)))), (a_6, .inl (cy 1, 5, .inl (fun _ => 0))), (a_7, .inl (cy 1, 30, .inl (fun _ => 0)))] H) (hD : va_D A [(a_0, .inr (12, [.int 0, .ref a_1, .ref a_2, .ref a_3, .ref a_4, .ref a_5, .int 0, .int k_0, .int k_1, .int k_2, .int k_3, .long k_4, .int k_5, .int k_6, .int k_7, .int k_8, .ref a_6, .ref a_7, .ref a_8, .ref a_9, .ref a_10, .ref a_11, .ref a_12, .ref a_13, .ref a_14, .ref a_15, .ref a_16, .ref a_17, .ref a_18, .int k_9, .int k_10, .int k_11, .int k_12, .int k_13, .int k_14, .ref a_19, .int k_15, .ref a_20])), (a_1, .inl (cy 1, 4, .inl (fun _ => (-1)))), (a_6, .inl (cy 1, 5, .inl (fun _ => 0))), (a_7, .inl (cy 1, 30, .inl (fun _ => 0)))]) hS
  refine lv_iconst (v := 0) hx hb dX12_count_5 (by decide) ?_
  refine lv_istore_n (lv' := [(2, .int 0), (0, .ref a_0), (1, .int i_0)]) hx hb dX12_count_6 rfl hl (by decide) rfl ?_
  clear hl
  clear ls
  intro ls hl
  refine lv_iload_n hx hb dX12_count_7 rfl (lv_at hl 2 rfl) ?_
  rcases mm_out i_0 0 9 with c1 | c1 | c1
  · have q2 : mm_rg i_0 (-2147483648) (-1) := ⟨((mm_top i_0)).1, by omega⟩
    refine lv_tableOut (tgt := 176) hx hb dX12_count_8 (Or.inl c1) (by decide) ?_
    refine lv_iconst (v := (-1)) hx hb dX12_count_176 (by decide) ?_
    subst hAe
    rw [hQ]
    exact W.iret (v := (-1)) hx hb hr (fun t ht hW => ⟨⟨(-1), (), rfl, (Or.inl ⟨rfl, q2⟩), by rw [ht]; exact hP, hK.warm hW, hD⟩, hS.F ht⟩) hS.2.2 dX12_count_177
  · have q3 : mm_rg i_0 10 2147483647 := ⟨by omega, ((mm_top i_0)).2⟩
    refine lv_tableOut (tgt := 176) hx hb dX12_count_8 (Or.inr c1) (by decide) ?_
    refine lv_iconst (v := (-1)) hx hb dX12_count_176 (by decide) ?_
    subst hAe
    rw [hQ]
    exact W.iret (v := (-1)) hx hb hr (fun t ht hW => ⟨⟨(-1), (), rfl, (Or.inr (Or.inl ⟨rfl, q3⟩)), by rw [ht]; exact hP, hK.warm hW, hD⟩, hS.F ht⟩) hS.2.2 dX12_count_177
  · have c4 := mm_cases10 c1
    rcases c4 with rfl | rfl | rfl | rfl | rfl | rfl | rfl | rfl | rfl | rfl
    · refine lv_tableIn (tgt := 64) hx hb dX12_count_8 (by decide) (by decide) rfl (by decide) ?_
      refine lv_aload_n hx hb dX12_count_64 rfl (lv_at hl 1 rfl) ?_
      refine va_get (D := G) (ci := 12) (v := .ref a_7) (C := RX12) (T := TX12) (N := 38) hx hb hts (mm_i inlX12) hown hK.1 hP 0 rfl rfl 17 (by decide) (mm_h hts mm_w149) (fun _ h9 => h9) rfl dX12_count_65 ?_
      refine lv_iconst (v := 0) hx hb dX12_count_68 (by decide) ?_
      refine va_iald hx hb hK.1 hP 3 1 rfl rfl (mm_in mm_k0 (by decide)) dX12_count_69 ?_
      refine lv_topi (fun v5 ev5 => ?_)
      obtain rfl : v5 = 0 := ev5
      subst hAe
      rw [hQ]
      exact W.iret (v := 0) hx hb hr (fun t ht hW => ⟨⟨0, (), rfl, (Or.inr (Or.inr ⟨rfl, (mm_wk mm_k0 (by decide))⟩)), by rw [ht]; exact hP, hK.warm hW, hD⟩, hS.F ht⟩) hS.2.2 dX12_count_70
    · refine lv_tableIn (tgt := 71) hx hb dX12_count_8 (by decide) (by decide) rfl (by decide) ?_
      refine lv_aload_n hx hb dX12_count_71 rfl (lv_at hl 1 rfl) ?_
      refine va_get (D := G) (ci := 12) (v := .ref a_7) (C := RX12) (T := TX12) (N := 38) hx hb hts (mm_i inlX12) hown hK.1 hP 0 rfl rfl 17 (by decide) (mm_h hts mm_w149) (fun _ h9 => h9) rfl dX12_count_72 ?_
      refine lv_iconst (v := 1) hx hb dX12_count_75 (by decide) ?_
      refine va_iald hx hb hK.1 hP 3 1 rfl rfl (mm_in mm_k1 (by decide)) dX12_count_76 ?_
      refine lv_topi (fun v6 ev6 => ?_)
      obtain rfl : v6 = 0 := ev6
      subst hAe
      rw [hQ]
      exact W.iret (v := 0) hx hb hr (fun t ht hW => ⟨⟨0, (), rfl, (Or.inr (Or.inr ⟨rfl, (mm_wk mm_k1 (by decide))⟩)), by rw [ht]; exact hP, hK.warm hW, hD⟩, hS.F ht⟩) hS.2.2 dX12_count_77
    · refine lv_tableIn (tgt := 78) hx hb dX12_count_8 (by decide) (by decide) rfl (by decide) ?_
      refine lv_aload_n hx hb dX12_count_78 rfl (lv_at hl 1 rfl) ?_
      refine mm_finir (va_runV (As := []) (rest := []) ⟨hx, hb, hml, hown, hts⟩ (K280_X12_senses l G cy H.size a_0 0 a_1 a_2 a_3 a_4 a_5 0 k_0 k_1 k_2 k_3 k_4 k_5 k_6 k_7 k_8 a_6 a_7 a_8 a_9 a_10 a_11 a_12 a_13 a_14 a_15 a_16 a_17 a_18 k_9 k_10 k_11 k_12 k_13 k_14 a_19 k_15 a_20 ) (cwV 0 hts (mm_gV mm_w588 mm_w589 mm_w590 mm_w5 mm_w591) rfl rfl rfl hd_X12_senses ⟨by rw [hRf]; exact Nat.le_of_ble_eq_true rfl, by rw [hRl]; exact Nat.le_of_ble_eq_true rfl⟩) (mm_preV hK hP hD [0, 3] rfl rfl 0 rfl rfl rfl) rfl rfl hl.1 rfl (lv_room (Nat.le_of_ble_eq_true rfl)) dX12_count_79 ⟨by rw [hRc]; exact Nat.le_of_ble_eq_true rfl, by rw [hRs]; exact Nat.le_of_ble_eq_true rfl⟩) hP hD hS hA [0, 3] rfl (fun _ => rfl) ?_
      clear hP hD hS
      clear H locs
      intro v7 _u H locs hw hP hD hS
      subst hw
      subst hAe
      rw [hQ]
      exact W.iret (v := 0) hx hb hr (fun t ht hW => ⟨⟨0, (), rfl, (Or.inr (Or.inr ⟨rfl, (mm_wk mm_k2 (by decide))⟩)), by rw [ht]; exact hP, hK.warm hW, hD⟩, hS.F ht⟩) hS.2.2 dX12_count_82
    · refine lv_tableIn (tgt := 83) hx hb dX12_count_8 (by decide) (by decide) rfl (by decide) ?_
      refine lv_aload_n hx hb dX12_count_83 rfl (lv_at hl 1 rfl) ?_
      refine va_get (D := G) (ci := 12) (v := .ref a_7) (C := RX12) (T := TX12) (N := 38) hx hb hts (mm_i inlX12) hown hK.1 hP 0 rfl rfl 17 (by decide) (mm_h hts mm_w149) (fun _ h9 => h9) rfl dX12_count_84 ?_
      refine lv_iconst (v := 3) hx hb dX12_count_87 (by decide) ?_
      refine va_iald hx hb hK.1 hP 3 1 rfl rfl (mm_in mm_k3 (by decide)) dX12_count_88 ?_
      refine lv_topi (fun v8 ev8 => ?_)
      obtain rfl : v8 = 0 := ev8
      subst hAe
      rw [hQ]
      exact W.iret (v := 0) hx hb hr (fun t ht hW => ⟨⟨0, (), rfl, (Or.inr (Or.inr ⟨rfl, (mm_wk mm_k3 (by decide))⟩)), by rw [ht]; exact hP, hK.warm hW, hD⟩, hS.F ht⟩) hS.2.2 dX12_count_89
    · refine lv_tableIn (tgt := 90) hx hb dX12_count_8 (by decide) (by decide) rfl (by decide) ?_
      refine lv_iconst (v := 0) hx hb dX12_count_90 (by decide) ?_
      refine lv_istore_n (lv' := [(3, .int 0), (2, .int 0), (0, .ref a_0), (1, .int 4)]) hx hb dX12_count_91 rfl hl (by decide) rfl ?_
      clear hl
      clear ls
      intro ls hl
      refine lv_iload_n hx hb dX12_count_92 rfl (lv_at hl 0 rfl) ?_
      refine lv_aload_n hx hb dX12_count_93 rfl (lv_at hl 2 rfl) ?_
      refine va_get (D := G) (ci := 12) (v := .ref a_7) (C := RX12) (T := TX12) (N := 38) hx hb hts (mm_i inlX12) hown hK.1 hP 0 rfl rfl 17 (by decide) (mm_h hts mm_w149) (fun _ h9 => h9) rfl dX12_count_94 ?_
      refine lv_iconst (v := 3) hx hb dX12_count_97 (by decide) ?_
      refine va_iald hx hb hK.1 hP 3 1 rfl rfl (mm_in mm_k3 (by decide)) dX12_count_98 ?_
      refine lv_topi (fun v9 ev9 => ?_)
      obtain rfl : v9 = 0 := ev9
      refine lv_icmp_ge (tgt := 117) hx hb dX12_count_99 (by decide) (fun c10 => ?_) (fun c10 => ?_)
      · refine lv_iload_n hx hb dX12_count_117 rfl (lv_at hl 1 rfl) ?_
        subst hAe
        rw [hQ]
        exact W.iret (v := 0) hx hb hr (fun t ht hW => ⟨⟨0, (), rfl, (Or.inr (Or.inr ⟨rfl, (mm_wk mm_k4 (by decide))⟩)), by rw [ht]; exact hP, hK.warm hW, hD⟩, hS.F ht⟩) hS.2.2 dX12_count_118
      · have q11 := mm_ltL (h := (-1)) (mm_nle c10) mm_k0 mm_k0 (by decide)
        exact mm_no q11 (by decide)
    · refine lv_tableIn (tgt := 119) hx hb dX12_count_8 (by decide) (by decide) rfl (by decide) ?_
      refine lv_aload_n hx hb dX12_count_119 rfl (lv_at hl 1 rfl) ?_
      refine mm_finir (va_runV (As := []) (rest := []) ⟨hx, hb, hml, hown, hts⟩ (K281_X12_texts l G cy H.size a_0 0 a_1 a_2 a_3 a_4 a_5 0 k_0 k_1 k_2 k_3 k_4 k_5 k_6 k_7 k_8 a_6 a_7 a_8 a_9 a_10 a_11 a_12 a_13 a_14 a_15 a_16 a_17 a_18 k_9 k_10 k_11 k_12 k_13 k_14 a_19 k_15 a_20 ) (cwV 0 hts (mm_gV mm_w617 mm_w618 mm_w619 mm_w5 mm_w620) rfl rfl rfl hd_X12_texts ⟨by rw [hRf]; exact Nat.le_of_ble_eq_true rfl, by rw [hRl]; exact Nat.le_of_ble_eq_true rfl⟩) (mm_preV hK hP hD [0, 3] rfl rfl 0 rfl rfl rfl) rfl rfl hl.1 rfl (lv_room (Nat.le_of_ble_eq_true rfl)) dX12_count_120 ⟨by rw [hRc]; exact Nat.le_of_ble_eq_true rfl, by rw [hRs]; exact Nat.le_of_ble_eq_true rfl⟩) hP hD hS hA [0, 3] rfl (fun _ => rfl) ?_
      clear hP hD hS
      clear H locs
      intro v12 _u H locs hw hP hD hS
      subst hw
      subst hAe
      rw [hQ]
      exact W.iret (v := 0) hx hb hr (fun t ht hW => ⟨⟨0, (), rfl, (Or.inr (Or.inr ⟨rfl, (mm_wk mm_k5 (by decide))⟩)), by rw [ht]; exact hP, hK.warm hW, hD⟩, hS.F ht⟩) hS.2.2 dX12_count_123
    · refine lv_tableIn (tgt := 124) hx hb dX12_count_8 (by decide) (by decide) rfl (by decide) ?_
      refine lv_aload_n hx hb dX12_count_124 rfl (lv_at hl 1 rfl) ?_
      refine va_get (D := G) (ci := 12) (v := .ref a_7) (C := RX12) (T := TX12) (N := 38) hx hb hts (mm_i inlX12) hown hK.1 hP 0 rfl rfl 17 (by decide) (mm_h hts mm_w149) (fun _ h9 => h9) rfl dX12_count_125 ?_
      refine lv_iconst (v := 5) hx hb dX12_count_128 (by decide) ?_
      refine va_iald hx hb hK.1 hP 3 1 rfl rfl (mm_in mm_k5 (by decide)) dX12_count_129 ?_
      refine lv_topi (fun v13 ev13 => ?_)
      obtain rfl : v13 = 0 := ev13
      subst hAe
      rw [hQ]
      exact W.iret (v := 0) hx hb hr (fun t ht hW => ⟨⟨0, (), rfl, (Or.inr (Or.inr ⟨rfl, (mm_wk mm_k6 (by decide))⟩)), by rw [ht]; exact hP, hK.warm hW, hD⟩, hS.F ht⟩) hS.2.2 dX12_count_130
    · refine lv_tableIn (tgt := 131) hx hb dX12_count_8 (by decide) (by decide) rfl (by decide) ?_
      refine lv_aload_n hx hb dX12_count_131 rfl (lv_at hl 1 rfl) ?_
      refine va_get (D := G) (ci := 12) (v := .ref a_6) (C := RX12) (T := TX12) (N := 38) hx hb hts (mm_i inlX12) hown hK.1 hP 0 rfl rfl 16 (by decide) (mm_h hts mm_w148) (fun _ h9 => h9) rfl dX12_count_132 ?_
      refine lv_iconst (v := 0) hx hb dX12_count_135 (by decide) ?_
      refine va_iald hx hb hK.1 hP 2 1 rfl rfl (mm_in mm_k0 (by decide)) dX12_count_136 ?_
      refine lv_topi (fun v14 ev14 => ?_)
      obtain rfl : v14 = 0 := ev14
      subst hAe
      rw [hQ]
      exact W.iret (v := 0) hx hb hr (fun t ht hW => ⟨⟨0, (), rfl, (Or.inr (Or.inr ⟨rfl, (mm_wk mm_k7 (by decide))⟩)), by rw [ht]; exact hP, hK.warm hW, hD⟩, hS.F ht⟩) hS.2.2 dX12_count_137
    · refine lv_tableIn (tgt := 138) hx hb dX12_count_8 (by decide) (by decide) rfl (by decide) ?_
      refine lv_aload_n hx hb dX12_count_138 rfl (lv_at hl 1 rfl) ?_
      refine va_get (D := G) (ci := 12) (v := .int 0) (C := RX12) (T := TX12) (N := 38) hx hb hts (mm_i inlX12) hown hK.1 hP 0 rfl rfl 6 (by decide) (mm_h hts mm_w178) (fun _ h9 => h9) rfl dX12_count_139 ?_
      subst hAe
      rw [hQ]
      exact W.iret (v := 0) hx hb hr (fun t ht hW => ⟨⟨0, (), rfl, (Or.inr (Or.inr ⟨rfl, (mm_wk mm_k8 (by decide))⟩)), by rw [ht]; exact hP, hK.warm hW, hD⟩, hS.F ht⟩) hS.2.2 dX12_count_142
    · refine lv_tableIn (tgt := 143) hx hb dX12_count_8 (by decide) (by decide) rfl (by decide) ?_
      refine lv_iconst (v := 0) hx hb dX12_count_143 (by decide) ?_
      refine lv_istore_n (lv' := [(3, .int 0), (2, .int 0), (0, .ref a_0), (1, .int 9)]) hx hb dX12_count_144 rfl hl (by decide) rfl ?_
      clear hl
      clear ls
      intro ls hl
      refine lv_iload_n hx hb dX12_count_145 rfl (lv_at hl 0 rfl) ?_
      refine lv_iconst (v := 4) hx hb dX12_count_146 (by decide) ?_
      refine lv_icmp_ge (tgt := 174) hx hb dX12_count_147 (by decide) (fun c15 => ?_) (fun c15 => ?_)
      · have q16 := mm_leL (mm_le c15) mm_k4 mm_k0
        exact mm_no q16 (by decide)
      · refine lv_iload_n hx hb dX12_count_150 rfl (lv_at hl 1 rfl) ?_
        refine lv_aload_n hx hb dX12_count_151 rfl (lv_at hl 2 rfl) ?_
        refine va_get (D := G) (ci := 12) (v := .ref a_1) (C := RX12) (T := TX12) (N := 38) hx hb hts (mm_i inlX12) hown hK.1 hP 0 rfl rfl 1 (by decide) (mm_h hts mm_w142) (fun _ h9 => h9) rfl dX12_count_152 ?_
        refine lv_iload_n hx hb dX12_count_155 rfl (lv_at hl 0 rfl) ?_
        refine va_iald hx hb hK.1 hP 1 1 rfl rfl (mm_in mm_k0 (by decide)) dX12_count_156 ?_
        refine lv_topi (fun v17 ev17 => ?_)
        obtain rfl : v17 = (-1) := ev17
        refine lv_iconst (v := (-1)) hx hb dX12_count_157 (by decide) ?_
        refine lv_icmp_ne (tgt := 165) hx hb dX12_count_158 (by decide) (fun c18 => ?_) (fun c18 => ?_)
        · have q19 := mm_neL (lo := 0) (mm_ne c18) mm_km1 mm_km1 (by decide) (by decide)
          exact mm_no q19 (by decide)
        · refine lv_iconst (v := 0) hx hb dX12_count_161 (by decide) ?_
          refine lv_goto (tgt := 166) hx hb dX12_count_162 (by decide) ?_
          refine lv_iadd hx hb dX12_count_166 ?_
          refine lv_topi (fun v20 ev20 => ?_)
          obtain rfl : v20 = 0 := ev20.trans (by decide)
          refine lv_istore_n (lv' := [(2, .int 0), (3, .int 0), (0, .ref a_0), (1, .int 9)]) hx hb dX12_count_167 rfl hl (by decide) rfl ?_
          clear hl
          clear ls
          intro ls hl
          refine lv_iinc (v := 1) (lv' := [(3, .int 1), (2, .int 0), (0, .ref a_0), (1, .int 9)]) hx hb dX12_count_168 hl (k := 1) rfl (by decide) (by decide) rfl ?_
          clear hl
          clear ls
          intro ls hl
          refine lv_goto (tgt := 145) hx hb dX12_count_171 (by decide) ?_
          refine lv_iload_n hx hb dX12_count_145 rfl (lv_at hl 0 rfl) ?_
          refine lv_iconst (v := 4) hx hb dX12_count_146 (by decide) ?_
          refine lv_icmp_ge (tgt := 174) hx hb dX12_count_147 (by decide) (fun c21 => ?_) (fun c21 => ?_)
          · have q22 := mm_leL (mm_le c21) mm_k4 mm_k1
            exact mm_no q22 (by decide)
          · refine lv_iload_n hx hb dX12_count_150 rfl (lv_at hl 1 rfl) ?_
            refine lv_aload_n hx hb dX12_count_151 rfl (lv_at hl 2 rfl) ?_
            refine va_get (D := G) (ci := 12) (v := .ref a_1) (C := RX12) (T := TX12) (N := 38) hx hb hts (mm_i inlX12) hown hK.1 hP 0 rfl rfl 1 (by decide) (mm_h hts mm_w142) (fun _ h9 => h9) rfl dX12_count_152 ?_
            refine lv_iload_n hx hb dX12_count_155 rfl (lv_at hl 0 rfl) ?_
            refine va_iald hx hb hK.1 hP 1 1 rfl rfl (mm_in mm_k1 (by decide)) dX12_count_156 ?_
            refine lv_topi (fun v23 ev23 => ?_)
            obtain rfl : v23 = (-1) := ev23
            refine lv_iconst (v := (-1)) hx hb dX12_count_157 (by decide) ?_
            refine lv_icmp_ne (tgt := 165) hx hb dX12_count_158 (by decide) (fun c24 => ?_) (fun c24 => ?_)
            · have q25 := mm_neL (lo := 0) (mm_ne c24) mm_km1 mm_km1 (by decide) (by decide)
              exact mm_no q25 (by decide)
            · refine lv_iconst (v := 0) hx hb dX12_count_161 (by decide) ?_
              refine lv_goto (tgt := 166) hx hb dX12_count_162 (by decide) ?_
              refine lv_iadd hx hb dX12_count_166 ?_
              refine lv_topi (fun v26 ev26 => ?_)
              obtain rfl : v26 = 0 := ev26.trans (by decide)
              refine lv_istore_n (lv' := [(2, .int 0), (3, .int 1), (0, .ref a_0), (1, .int 9)]) hx hb dX12_count_167 rfl hl (by decide) rfl ?_
              clear hl
              clear ls
              intro ls hl
              refine lv_iinc (v := 2) (lv' := [(3, .int 2), (2, .int 0), (0, .ref a_0), (1, .int 9)]) hx hb dX12_count_168 hl (k := 1) rfl (by decide) (by decide) rfl ?_
              clear hl
              clear ls
              intro ls hl
              refine lv_goto (tgt := 145) hx hb dX12_count_171 (by decide) ?_
              refine lv_iload_n hx hb dX12_count_145 rfl (lv_at hl 0 rfl) ?_
              refine lv_iconst (v := 4) hx hb dX12_count_146 (by decide) ?_
              refine lv_icmp_ge (tgt := 174) hx hb dX12_count_147 (by decide) (fun c27 => ?_) (fun c27 => ?_)
              · have q28 := mm_leL (mm_le c27) mm_k4 mm_k2
                exact mm_no q28 (by decide)
              · refine lv_iload_n hx hb dX12_count_150 rfl (lv_at hl 1 rfl) ?_
                refine lv_aload_n hx hb dX12_count_151 rfl (lv_at hl 2 rfl) ?_
                refine va_get (D := G) (ci := 12) (v := .ref a_1) (C := RX12) (T := TX12) (N := 38) hx hb hts (mm_i inlX12) hown hK.1 hP 0 rfl rfl 1 (by decide) (mm_h hts mm_w142) (fun _ h9 => h9) rfl dX12_count_152 ?_
                refine lv_iload_n hx hb dX12_count_155 rfl (lv_at hl 0 rfl) ?_
                refine va_iald hx hb hK.1 hP 1 1 rfl rfl (mm_in mm_k2 (by decide)) dX12_count_156 ?_
                refine lv_topi (fun v29 ev29 => ?_)
                obtain rfl : v29 = (-1) := ev29
                refine lv_iconst (v := (-1)) hx hb dX12_count_157 (by decide) ?_
                refine lv_icmp_ne (tgt := 165) hx hb dX12_count_158 (by decide) (fun c30 => ?_) (fun c30 => ?_)
                · have q31 := mm_neL (lo := 0) (mm_ne c30) mm_km1 mm_km1 (by decide) (by decide)
                  exact mm_no q31 (by decide)
                · refine lv_iconst (v := 0) hx hb dX12_count_161 (by decide) ?_
                  refine lv_goto (tgt := 166) hx hb dX12_count_162 (by decide) ?_
                  refine lv_iadd hx hb dX12_count_166 ?_
                  refine lv_topi (fun v32 ev32 => ?_)
                  obtain rfl : v32 = 0 := ev32.trans (by decide)
                  refine lv_istore_n (lv' := [(2, .int 0), (3, .int 2), (0, .ref a_0), (1, .int 9)]) hx hb dX12_count_167 rfl hl (by decide) rfl ?_
                  clear hl
                  clear ls
                  intro ls hl
                  refine lv_iinc (v := 3) (lv' := [(3, .int 3), (2, .int 0), (0, .ref a_0), (1, .int 9)]) hx hb dX12_count_168 hl (k := 1) rfl (by decide) (by decide) rfl ?_
                  clear hl
                  clear ls
                  intro ls hl
                  refine lv_goto (tgt := 145) hx hb dX12_count_171 (by decide) ?_
                  refine lv_iload_n hx hb dX12_count_145 rfl (lv_at hl 0 rfl) ?_
                  refine lv_iconst (v := 4) hx hb dX12_count_146 (by decide) ?_
                  refine lv_icmp_ge (tgt := 174) hx hb dX12_count_147 (by decide) (fun c33 => ?_) (fun c33 => ?_)
                  · have q34 := mm_leL (mm_le c33) mm_k4 mm_k3
                    exact mm_no q34 (by decide)
                  · refine lv_iload_n hx hb dX12_count_150 rfl (lv_at hl 1 rfl) ?_
                    refine lv_aload_n hx hb dX12_count_151 rfl (lv_at hl 2 rfl) ?_
                    refine va_get (D := G) (ci := 12) (v := .ref a_1) (C := RX12) (T := TX12) (N := 38) hx hb hts (mm_i inlX12) hown hK.1 hP 0 rfl rfl 1 (by decide) (mm_h hts mm_w142) (fun _ h9 => h9) rfl dX12_count_152 ?_
                    refine lv_iload_n hx hb dX12_count_155 rfl (lv_at hl 0 rfl) ?_
                    refine va_iald hx hb hK.1 hP 1 1 rfl rfl (mm_in mm_k3 (by decide)) dX12_count_156 ?_
                    refine lv_topi (fun v35 ev35 => ?_)
                    obtain rfl : v35 = (-1) := ev35
                    refine lv_iconst (v := (-1)) hx hb dX12_count_157 (by decide) ?_
                    refine lv_icmp_ne (tgt := 165) hx hb dX12_count_158 (by decide) (fun c36 => ?_) (fun c36 => ?_)
                    · have q37 := mm_neL (lo := 0) (mm_ne c36) mm_km1 mm_km1 (by decide) (by decide)
                      exact mm_no q37 (by decide)
                    · refine lv_iconst (v := 0) hx hb dX12_count_161 (by decide) ?_
                      refine lv_goto (tgt := 166) hx hb dX12_count_162 (by decide) ?_
                      refine lv_iadd hx hb dX12_count_166 ?_
                      refine lv_topi (fun v38 ev38 => ?_)
                      obtain rfl : v38 = 0 := ev38.trans (by decide)
                      refine lv_istore_n (lv' := [(2, .int 0), (3, .int 3), (0, .ref a_0), (1, .int 9)]) hx hb dX12_count_167 rfl hl (by decide) rfl ?_
                      clear hl
                      clear ls
                      intro ls hl
                      refine lv_iinc (v := 4) (lv' := [(3, .int 4), (2, .int 0), (0, .ref a_0), (1, .int 9)]) hx hb dX12_count_168 hl (k := 1) rfl (by decide) (by decide) rfl ?_
                      clear hl
                      clear ls
                      intro ls hl
                      refine lv_goto (tgt := 145) hx hb dX12_count_171 (by decide) ?_
                      refine lv_iload_n hx hb dX12_count_145 rfl (lv_at hl 0 rfl) ?_
                      refine lv_iconst (v := 4) hx hb dX12_count_146 (by decide) ?_
                      refine lv_icmp_ge (tgt := 174) hx hb dX12_count_147 (by decide) (fun c39 => ?_) (fun c39 => ?_)
                      · refine lv_iload_n hx hb dX12_count_174 rfl (lv_at hl 1 rfl) ?_
                        subst hAe
                        rw [hQ]
                        exact W.iret (v := 0) hx hb hr (fun t ht hW => ⟨⟨0, (), rfl, (Or.inr (Or.inr ⟨rfl, (mm_wk mm_k9 (by decide))⟩)), by rw [ht]; exact hP, hK.warm hW, hD⟩, hS.F ht⟩) hS.2.2 dX12_count_175
                      · have q40 := mm_ltL (h := 3) (mm_nle c39) mm_k4 mm_k4 (by decide)
                        exact mm_no q40 (by decide)

set_option maxHeartbeats 4000000 in
set_option maxRecDepth 100000 in
theorem K282_X0_copyRow (l : Launch) (G : va_G) (cy : Nat → ClassId) (sz : Nat) (a_0 : Nat) (a_1 : Nat)   : mm_CV l yX0_copyRow (mm_ws yX0_copyRow cX0_copyRow 2 (none)) ({ frames := 1, cells := 0, slots := 0, locals := 64 } : Room) G cy sz [(a_0, .inl (cy 1, 3, .inl (fun _ => 0))), (a_1, .inl (cy 1, 3, .inl (fun _ => 0)))] [.ref a_0, .ref a_1] (fun u : (Nat → Int32) => [(a_0, .inl (cy 1, 3, .inl (fun _ => 0))), (a_1, .inl (cy 1, 3, .inl u))]) (fun u : (Nat → Int32) => mm_ar u 0 0) 0 0 := by
  refine mm_begin (lv := [(0, .ref a_0), (1, .ref a_1)]) (by decide) (Nat.le_of_ble_eq_true rfl) rfl ?_
  intro p e s m below meth c A ls R args Q H locs hRe hQ hAe hx hb hr hlocks hml hown hnm hts hsz hA hS hP hK hD hl
  have hRf : R.frames = 1 := by rw [hRe]
  have hRl : R.locals = 64 := by rw [hRe]
  have hRc : R.cells = 0 := by rw [hRe]
  have hRs : R.slots = 0 := by rw [hRe]
  refine lv_aload_n hx hb dX0_copyRow_0 rfl (lv_at hl 0 rfl) ?_
  refine lv_iconst (v := 0) hx hb dX0_copyRow_1 (by decide) ?_
  refine lv_aload_n hx hb dX0_copyRow_2 rfl (lv_at hl 1 rfl) ?_
  refine lv_iconst (v := 0) hx hb dX0_copyRow_3 (by decide) ?_
  refine lv_aload_n hx hb dX0_copyRow_4 rfl (lv_at hl 0 rfl) ?_
  refine va_alen (v := 3) hx hb hK.1 hP 0 1 rfl rfl rfl dX0_copyRow_5 ?_
  refine lv_aload_n hx hb dX0_copyRow_6 rfl (lv_at hl 1 rfl) ?_
  refine va_alen (v := 3) hx hb hK.1 hP 1 1 rfl rfl rfl dX0_copyRow_7 ?_
  refine va_mmin hx hb (by rw [hml]; exact hl.1.symm) hown (mm_h hts mm_w384) (mm_h hts mm_w385) (mm_h hts mm_w346) (mm_h hts mm_w386) (by rw [hRf]; exact Nat.le_of_ble_eq_true rfl) (by rw [hRl]; exact Nat.le_of_ble_eq_true rfl) (by rw [hRc]; exact Nat.le_of_ble_eq_true rfl) (by rw [hRs]; exact Nat.le_of_ble_eq_true rfl) dX0_copyRow_8 ?_
  refine lv_topi (fun v1 ev1 => ?_)
  obtain rfl : v1 = 3 := ev1.trans (by decide)
  refine va_copyi hx hb (by rw [hml]; exact hl.1.symm) hown (mm_h hts mm_w387) (mm_h hts mm_w388) (mm_h hts mm_w389) (mm_h hts mm_w390) hK.1 hP hD hS 0 1 1 1 rfl rfl rfl rfl rfl (by decide) (by decide) (by decide) (by decide) (by decide) (fun _ _ => rfl) (by rw [hRf]; exact Nat.le_of_ble_eq_true rfl) (by rw [hRl]; exact Nat.le_of_ble_eq_true rfl) dX0_copyRow_11 ?_
  clear hP hD hS
  clear H locs
  obtain ⟨g2, eg2⟩ : ∃ z : Nat → Int32, z = va_cpy (fun _ => 0) (fun _ => 0) (0 : Int32).toNatClampNeg (0 : Int32).toNatClampNeg (3 : Int32).toNatClampNeg := ⟨_, rfl⟩
  rw [← eg2]
  intro H locs (hP : va_P G vwCl [(a_0, .inl (cy 1, 3, .inl (fun _ => 0))), (a_1, .inl (cy 1, 3, .inl g2))] H) (hD : va_D A [(a_0, .inl (cy 1, 3, .inl (fun _ => 0))), (a_1, .inl (cy 1, 3, .inl g2))]) hS
  have rg2 : mm_ar g2 0 0 := by rw [eg2]; exact mm_ar_cpy (mm_ar_wk (mm_ar_c mm_k0) (by decide)) (mm_ar_wk (mm_ar_c mm_k0) (by decide)) _ _ _
  subst hAe
  rw [hQ]
  exact W.vret hx hb hr (fun t ht hW => ⟨⟨g2, rfl, rg2, by rw [ht]; exact hP, hK.warm hW, hD⟩, hS.F ht⟩) hS.2.2 dX0_copyRow_14

set_option maxHeartbeats 4000000 in
set_option maxRecDepth 100000 in
theorem K283_X0_copyRow (l : Launch) (G : va_G) (cy : Nat → ClassId) (sz : Nat) (a_0 : Nat) (a_1 : Nat)   : mm_CV l yX0_copyRow (mm_ws yX0_copyRow cX0_copyRow 2 (none)) ({ frames := 1, cells := 0, slots := 0, locals := 64 } : Room) G cy sz [(a_0, .inl (cy 1, 6, .inl (fun _ => 0))), (a_1, .inl (cy 1, 6, .inl (fun _ => 0)))] [.ref a_0, .ref a_1] (fun u : (Nat → Int32) => [(a_0, .inl (cy 1, 6, .inl (fun _ => 0))), (a_1, .inl (cy 1, 6, .inl u))]) (fun u : (Nat → Int32) => mm_ar u 0 0) 0 0 := by
  refine mm_begin (lv := [(0, .ref a_0), (1, .ref a_1)]) (by decide) (Nat.le_of_ble_eq_true rfl) rfl ?_
  intro p e s m below meth c A ls R args Q H locs hRe hQ hAe hx hb hr hlocks hml hown hnm hts hsz hA hS hP hK hD hl
  have hRf : R.frames = 1 := by rw [hRe]
  have hRl : R.locals = 64 := by rw [hRe]
  have hRc : R.cells = 0 := by rw [hRe]
  have hRs : R.slots = 0 := by rw [hRe]
  refine lv_aload_n hx hb dX0_copyRow_0 rfl (lv_at hl 0 rfl) ?_
  refine lv_iconst (v := 0) hx hb dX0_copyRow_1 (by decide) ?_
  refine lv_aload_n hx hb dX0_copyRow_2 rfl (lv_at hl 1 rfl) ?_
  refine lv_iconst (v := 0) hx hb dX0_copyRow_3 (by decide) ?_
  refine lv_aload_n hx hb dX0_copyRow_4 rfl (lv_at hl 0 rfl) ?_
  refine va_alen (v := 6) hx hb hK.1 hP 0 1 rfl rfl rfl dX0_copyRow_5 ?_
  refine lv_aload_n hx hb dX0_copyRow_6 rfl (lv_at hl 1 rfl) ?_
  refine va_alen (v := 6) hx hb hK.1 hP 1 1 rfl rfl rfl dX0_copyRow_7 ?_
  refine va_mmin hx hb (by rw [hml]; exact hl.1.symm) hown (mm_h hts mm_w384) (mm_h hts mm_w385) (mm_h hts mm_w346) (mm_h hts mm_w386) (by rw [hRf]; exact Nat.le_of_ble_eq_true rfl) (by rw [hRl]; exact Nat.le_of_ble_eq_true rfl) (by rw [hRc]; exact Nat.le_of_ble_eq_true rfl) (by rw [hRs]; exact Nat.le_of_ble_eq_true rfl) dX0_copyRow_8 ?_
  refine lv_topi (fun v1 ev1 => ?_)
  obtain rfl : v1 = 6 := ev1.trans (by decide)
  refine va_copyi hx hb (by rw [hml]; exact hl.1.symm) hown (mm_h hts mm_w387) (mm_h hts mm_w388) (mm_h hts mm_w389) (mm_h hts mm_w390) hK.1 hP hD hS 0 1 1 1 rfl rfl rfl rfl rfl (by decide) (by decide) (by decide) (by decide) (by decide) (fun _ _ => rfl) (by rw [hRf]; exact Nat.le_of_ble_eq_true rfl) (by rw [hRl]; exact Nat.le_of_ble_eq_true rfl) dX0_copyRow_11 ?_
  clear hP hD hS
  clear H locs
  obtain ⟨g2, eg2⟩ : ∃ z : Nat → Int32, z = va_cpy (fun _ => 0) (fun _ => 0) (0 : Int32).toNatClampNeg (0 : Int32).toNatClampNeg (6 : Int32).toNatClampNeg := ⟨_, rfl⟩
  rw [← eg2]
  intro H locs (hP : va_P G vwCl [(a_0, .inl (cy 1, 6, .inl (fun _ => 0))), (a_1, .inl (cy 1, 6, .inl g2))] H) (hD : va_D A [(a_0, .inl (cy 1, 6, .inl (fun _ => 0))), (a_1, .inl (cy 1, 6, .inl g2))]) hS
  have rg2 : mm_ar g2 0 0 := by rw [eg2]; exact mm_ar_cpy (mm_ar_wk (mm_ar_c mm_k0) (by decide)) (mm_ar_wk (mm_ar_c mm_k0) (by decide)) _ _ _
  subst hAe
  rw [hQ]
  exact W.vret hx hb hr (fun t ht hW => ⟨⟨g2, rfl, rg2, by rw [ht]; exact hP, hK.warm hW, hD⟩, hS.F ht⟩) hS.2.2 dX0_copyRow_14

set_option maxHeartbeats 4000000 in
set_option maxRecDepth 100000 in
theorem K284_X0_copyFrom (l : Launch) (G : va_G) (cy : Nat → ClassId) (sz : Nat) (a_0 : Nat) (a_1 : Nat) (a_27 : Nat) (a_28 : Nat) (a_29 : Nat) (a_30 : Nat) (a_31 : Nat) (a_32 : Nat) (a_33 : Nat) (a_34 : Nat) (a_35 : Nat) (a_36 : Nat) (a_48 : Nat) (a_49 : Nat) (a_50 : Nat) (a_51 : Nat) (a_52 : Nat) (a_53 : Nat) (a_54 : Nat) (a_55 : Nat) (a_56 : Nat) (a_57 : Nat)   : mm_CV l yX0_copyFrom (mm_ws yX0_copyFrom cX0_copyFrom 2 (none)) ({ frames := 2, cells := 0, slots := 0, locals := 85 } : Room) G cy sz [(a_1, .inr (0, [.int 0, .int 0, .int 0, .int 0, .int 0, .int 0, .int 0, .int 0, .ref a_27, .ref a_28, .ref a_29, .ref a_30, .ref a_31, .ref a_32, .ref a_33, .ref a_34, .ref a_35, .ref a_36])), (a_27, .inl (cy 1, 9, .inl (fun _ => 0))), (a_28, .inl (cy 1, 9, .inl (fun _ => 0))), (a_29, .inl (cy 1, 3, .inl (fun _ => 0))), (a_30, .inl (cy 1, 210, .inl (fun _ => 0))), (a_31, .inl (cy 1, 6, .inl (fun _ => 0))), (a_32, .inl (cy 1, 48, .inl (fun _ => 0))), (a_33, .inl (cy 1, 30, .inl (fun _ => 0))), (a_34, .inl (cy 1, 30, .inl (fun _ => 0))), (a_35, .inl (cy 1, 30, .inl (fun _ => 0))), (a_36, .inl (cy 1, 30, .inl (fun _ => 0))), (a_0, .inr (0, [.int 0, .int 0, .int 0, .int 0, .int 0, .int 0, .int 0, .int 0, .ref a_48, .ref a_49, .ref a_50, .ref a_51, .ref a_52, .ref a_53, .ref a_54, .ref a_55, .ref a_56, .ref a_57])), (a_48, .inl (cy 1, 9, .inl (fun _ => 0))), (a_49, .inl (cy 1, 9, .inl (fun _ => 0))), (a_50, .inl (cy 1, 3, .inl (fun _ => 0))), (a_51, .inl (cy 1, 210, .inl (fun _ => 0))), (a_52, .inl (cy 1, 6, .inl (fun _ => 0))), (a_53, .inl (cy 1, 48, .inl (fun _ => 0))), (a_54, .inl (cy 1, 30, .inl (fun _ => 0))), (a_55, .inl (cy 1, 30, .inl (fun _ => 0))), (a_56, .inl (cy 1, 30, .inl (fun _ => 0))), (a_57, .inl (cy 1, 30, .inl (fun _ => 0)))] [.ref a_0, .ref a_1] (fun u : (Nat → Int32) × (Nat → Int32) × (Nat → Int32) × (Nat → Int32) × (Nat → Int32) × (Nat → Int32) × (Nat → Int32) × (Nat → Int32) × (Nat → Int32) × (Nat → Int32) => [(a_1, .inr (0, [.int 0, .int 0, .int 0, .int 0, .int 0, .int 0, .int 0, .int 0, .ref a_27, .ref a_28, .ref a_29, .ref a_30, .ref a_31, .ref a_32, .ref a_33, .ref a_34, .ref a_35, .ref a_36])), (a_27, .inl (cy 1, 9, .inl (fun _ => 0))), (a_28, .inl (cy 1, 9, .inl (fun _ => 0))), (a_29, .inl (cy 1, 3, .inl (fun _ => 0))), (a_30, .inl (cy 1, 210, .inl (fun _ => 0))), (a_31, .inl (cy 1, 6, .inl (fun _ => 0))), (a_32, .inl (cy 1, 48, .inl (fun _ => 0))), (a_33, .inl (cy 1, 30, .inl (fun _ => 0))), (a_34, .inl (cy 1, 30, .inl (fun _ => 0))), (a_35, .inl (cy 1, 30, .inl (fun _ => 0))), (a_36, .inl (cy 1, 30, .inl (fun _ => 0))), (a_0, .inr (0, [.int 0, .int 0, .int 0, .int 0, .int 0, .int 0, .int 0, .int 0, .ref a_48, .ref a_49, .ref a_50, .ref a_51, .ref a_52, .ref a_53, .ref a_54, .ref a_55, .ref a_56, .ref a_57])), (a_48, .inl (cy 1, 9, .inl u.1)), (a_49, .inl (cy 1, 9, .inl u.2.1)), (a_50, .inl (cy 1, 3, .inl u.2.2.1)), (a_51, .inl (cy 1, 210, .inl u.2.2.2.1)), (a_52, .inl (cy 1, 6, .inl u.2.2.2.2.1)), (a_53, .inl (cy 1, 48, .inl u.2.2.2.2.2.1)), (a_54, .inl (cy 1, 30, .inl u.2.2.2.2.2.2.1)), (a_55, .inl (cy 1, 30, .inl u.2.2.2.2.2.2.2.1)), (a_56, .inl (cy 1, 30, .inl u.2.2.2.2.2.2.2.2.1)), (a_57, .inl (cy 1, 30, .inl u.2.2.2.2.2.2.2.2.2))]) (fun u : (Nat → Int32) × (Nat → Int32) × (Nat → Int32) × (Nat → Int32) × (Nat → Int32) × (Nat → Int32) × (Nat → Int32) × (Nat → Int32) × (Nat → Int32) × (Nat → Int32) => mm_ar u.1 0 0 ∧ mm_ar u.2.1 0 0 ∧ mm_ar u.2.2.1 0 0 ∧ mm_ar u.2.2.2.1 0 0 ∧ mm_ar u.2.2.2.2.1 0 0 ∧ mm_ar u.2.2.2.2.2.1 0 0 ∧ mm_ar u.2.2.2.2.2.2.1 0 0 ∧ mm_ar u.2.2.2.2.2.2.2.1 0 0 ∧ mm_ar u.2.2.2.2.2.2.2.2.1 0 0 ∧ mm_ar u.2.2.2.2.2.2.2.2.2 0 0) 0 0 := by
  refine mm_begin (lv := [(0, .ref a_0), (1, .ref a_1)]) (by decide) (Nat.le_of_ble_eq_true rfl) rfl ?_
  intro p e s m below meth c A ls R args Q H locs hRe hQ hAe hx hb hr hlocks hml hown hnm hts hsz hA hS hP hK hD hl
  have hRf : R.frames = 2 := by rw [hRe]
  have hRl : R.locals = 85 := by rw [hRe]
  have hRc : R.cells = 0 := by rw [hRe]
  have hRs : R.slots = 0 := by rw [hRe]
  refine lv_aload_n hx hb dX0_copyFrom_0 rfl (lv_at hl 0 rfl) ?_
  refine lv_aload_n hx hb dX0_copyFrom_1 rfl (lv_at hl 1 rfl) ?_
  refine va_get (D := G) (ci := 0) (v := .int 0) (C := RX0) (T := TX0) (N := 18) hx hb hts (mm_i inlX0) hown hK.1 hP 0 rfl rfl 0 (by decide) (mm_h hts mm_w215) (fun _ h9 => h9) rfl dX0_copyFrom_2 ?_
  refine va_put (D := G) (ci := 0) (v := .int 0) (ty := tyX0 0) (C := RX0) (T := TX0) (N := 18) hx hb hts (mm_i inlX0) tyX0 tyX0_ok nmX0 hown hK.1 hP hD hS 11 rfl rfl 0 (by decide) (mm_h hts mm_w215) (fun _ h9 => h9) rfl (tyX0_ok 0 (by decide)) rfl rfl (Nat.le_of_ble_eq_true rfl) dX0_copyFrom_5 ?_
  clear hP hD hS
  clear H locs
  intro H locs (hP : va_P G vwCl [(a_1, .inr (0, [.int 0, .int 0, .int 0, .int 0, .int 0, .int 0, .int 0, .int 0, .ref a_27, .ref a_28, .ref a_29, .ref a_30, .ref a_31, .ref a_32, .ref a_33, .ref a_34, .ref a_35, .ref a_36])), (a_27, .inl (cy 1, 9, .inl (fun _ => 0))), (a_28, .inl (cy 1, 9, .inl (fun _ => 0))), (a_29, .inl (cy 1, 3, .inl (fun _ => 0))), (a_30, .inl (cy 1, 210, .inl (fun _ => 0))), (a_31, .inl (cy 1, 6, .inl (fun _ => 0))), (a_32, .inl (cy 1, 48, .inl (fun _ => 0))), (a_33, .inl (cy 1, 30, .inl (fun _ => 0))), (a_34, .inl (cy 1, 30, .inl (fun _ => 0))), (a_35, .inl (cy 1, 30, .inl (fun _ => 0))), (a_36, .inl (cy 1, 30, .inl (fun _ => 0))), (a_0, .inr (0, [.int 0, .int 0, .int 0, .int 0, .int 0, .int 0, .int 0, .int 0, .ref a_48, .ref a_49, .ref a_50, .ref a_51, .ref a_52, .ref a_53, .ref a_54, .ref a_55, .ref a_56, .ref a_57])), (a_48, .inl (cy 1, 9, .inl (fun _ => 0))), (a_49, .inl (cy 1, 9, .inl (fun _ => 0))), (a_50, .inl (cy 1, 3, .inl (fun _ => 0))), (a_51, .inl (cy 1, 210, .inl (fun _ => 0))), (a_52, .inl (cy 1, 6, .inl (fun _ => 0))), (a_53, .inl (cy 1, 48, .inl (fun _ => 0))), (a_54, .inl (cy 1, 30, .inl (fun _ => 0))), (a_55, .inl (cy 1, 30, .inl (fun _ => 0))), (a_56, .inl (cy 1, 30, .inl (fun _ => 0))), (a_57, .inl (cy 1, 30, .inl (fun _ => 0)))] H) (hD : va_D A [(a_1, .inr (0, [.int 0, .int 0, .int 0, .int 0, .int 0, .int 0, .int 0, .int 0, .ref a_27, .ref a_28, .ref a_29, .ref a_30, .ref a_31, .ref a_32, .ref a_33, .ref a_34, .ref a_35, .ref a_36])), (a_27, .inl (cy 1, 9, .inl (fun _ => 0))), (a_28, .inl (cy 1, 9, .inl (fun _ => 0))), (a_29, .inl (cy 1, 3, .inl (fun _ => 0))), (a_30, .inl (cy 1, 210, .inl (fun _ => 0))), (a_31, .inl (cy 1, 6, .inl (fun _ => 0))), (a_32, .inl (cy 1, 48, .inl (fun _ => 0))), (a_33, .inl (cy 1, 30, .inl (fun _ => 0))), (a_34, .inl (cy 1, 30, .inl (fun _ => 0))), (a_35, .inl (cy 1, 30, .inl (fun _ => 0))), (a_36, .inl (cy 1, 30, .inl (fun _ => 0))), (a_0, .inr (0, [.int 0, .int 0, .int 0, .int 0, .int 0, .int 0, .int 0, .int 0, .ref a_48, .ref a_49, .ref a_50, .ref a_51, .ref a_52, .ref a_53, .ref a_54, .ref a_55, .ref a_56, .ref a_57])), (a_48, .inl (cy 1, 9, .inl (fun _ => 0))), (a_49, .inl (cy 1, 9, .inl (fun _ => 0))), (a_50, .inl (cy 1, 3, .inl (fun _ => 0))), (a_51, .inl (cy 1, 210, .inl (fun _ => 0))), (a_52, .inl (cy 1, 6, .inl (fun _ => 0))), (a_53, .inl (cy 1, 48, .inl (fun _ => 0))), (a_54, .inl (cy 1, 30, .inl (fun _ => 0))), (a_55, .inl (cy 1, 30, .inl (fun _ => 0))), (a_56, .inl (cy 1, 30, .inl (fun _ => 0))), (a_57, .inl (cy 1, 30, .inl (fun _ => 0)))]) hS
  refine lv_aload_n hx hb dX0_copyFrom_8 rfl (lv_at hl 0 rfl) ?_
  refine lv_aload_n hx hb dX0_copyFrom_9 rfl (lv_at hl 1 rfl) ?_
  refine va_get (D := G) (ci := 0) (v := .int 0) (C := RX0) (T := TX0) (N := 18) hx hb hts (mm_i inlX0) hown hK.1 hP 0 rfl rfl 1 (by decide) (mm_h hts mm_w216) (fun _ h9 => h9) rfl dX0_copyFrom_10 ?_
  refine va_put (D := G) (ci := 0) (v := .int 0) (ty := tyX0 1) (C := RX0) (T := TX0) (N := 18) hx hb hts (mm_i inlX0) tyX0 tyX0_ok nmX0 hown hK.1 hP hD hS 11 rfl rfl 1 (by decide) (mm_h hts mm_w216) (fun _ h9 => h9) rfl (tyX0_ok 1 (by decide)) rfl rfl (Nat.le_of_ble_eq_true rfl) dX0_copyFrom_13 ?_
  clear hP hD hS
  clear H locs
  intro H locs (hP : va_P G vwCl [(a_1, .inr (0, [.int 0, .int 0, .int 0, .int 0, .int 0, .int 0, .int 0, .int 0, .ref a_27, .ref a_28, .ref a_29, .ref a_30, .ref a_31, .ref a_32, .ref a_33, .ref a_34, .ref a_35, .ref a_36])), (a_27, .inl (cy 1, 9, .inl (fun _ => 0))), (a_28, .inl (cy 1, 9, .inl (fun _ => 0))), (a_29, .inl (cy 1, 3, .inl (fun _ => 0))), (a_30, .inl (cy 1, 210, .inl (fun _ => 0))), (a_31, .inl (cy 1, 6, .inl (fun _ => 0))), (a_32, .inl (cy 1, 48, .inl (fun _ => 0))), (a_33, .inl (cy 1, 30, .inl (fun _ => 0))), (a_34, .inl (cy 1, 30, .inl (fun _ => 0))), (a_35, .inl (cy 1, 30, .inl (fun _ => 0))), (a_36, .inl (cy 1, 30, .inl (fun _ => 0))), (a_0, .inr (0, [.int 0, .int 0, .int 0, .int 0, .int 0, .int 0, .int 0, .int 0, .ref a_48, .ref a_49, .ref a_50, .ref a_51, .ref a_52, .ref a_53, .ref a_54, .ref a_55, .ref a_56, .ref a_57])), (a_48, .inl (cy 1, 9, .inl (fun _ => 0))), (a_49, .inl (cy 1, 9, .inl (fun _ => 0))), (a_50, .inl (cy 1, 3, .inl (fun _ => 0))), (a_51, .inl (cy 1, 210, .inl (fun _ => 0))), (a_52, .inl (cy 1, 6, .inl (fun _ => 0))), (a_53, .inl (cy 1, 48, .inl (fun _ => 0))), (a_54, .inl (cy 1, 30, .inl (fun _ => 0))), (a_55, .inl (cy 1, 30, .inl (fun _ => 0))), (a_56, .inl (cy 1, 30, .inl (fun _ => 0))), (a_57, .inl (cy 1, 30, .inl (fun _ => 0)))] H) (hD : va_D A [(a_1, .inr (0, [.int 0, .int 0, .int 0, .int 0, .int 0, .int 0, .int 0, .int 0, .ref a_27, .ref a_28, .ref a_29, .ref a_30, .ref a_31, .ref a_32, .ref a_33, .ref a_34, .ref a_35, .ref a_36])), (a_27, .inl (cy 1, 9, .inl (fun _ => 0))), (a_28, .inl (cy 1, 9, .inl (fun _ => 0))), (a_29, .inl (cy 1, 3, .inl (fun _ => 0))), (a_30, .inl (cy 1, 210, .inl (fun _ => 0))), (a_31, .inl (cy 1, 6, .inl (fun _ => 0))), (a_32, .inl (cy 1, 48, .inl (fun _ => 0))), (a_33, .inl (cy 1, 30, .inl (fun _ => 0))), (a_34, .inl (cy 1, 30, .inl (fun _ => 0))), (a_35, .inl (cy 1, 30, .inl (fun _ => 0))), (a_36, .inl (cy 1, 30, .inl (fun _ => 0))), (a_0, .inr (0, [.int 0, .int 0, .int 0, .int 0, .int 0, .int 0, .int 0, .int 0, .ref a_48, .ref a_49, .ref a_50, .ref a_51, .ref a_52, .ref a_53, .ref a_54, .ref a_55, .ref a_56, .ref a_57])), (a_48, .inl (cy 1, 9, .inl (fun _ => 0))), (a_49, .inl (cy 1, 9, .inl (fun _ => 0))), (a_50, .inl (cy 1, 3, .inl (fun _ => 0))), (a_51, .inl (cy 1, 210, .inl (fun _ => 0))), (a_52, .inl (cy 1, 6, .inl (fun _ => 0))), (a_53, .inl (cy 1, 48, .inl (fun _ => 0))), (a_54, .inl (cy 1, 30, .inl (fun _ => 0))), (a_55, .inl (cy 1, 30, .inl (fun _ => 0))), (a_56, .inl (cy 1, 30, .inl (fun _ => 0))), (a_57, .inl (cy 1, 30, .inl (fun _ => 0)))]) hS
  refine lv_aload_n hx hb dX0_copyFrom_16 rfl (lv_at hl 0 rfl) ?_
  refine lv_aload_n hx hb dX0_copyFrom_17 rfl (lv_at hl 1 rfl) ?_
  refine va_get (D := G) (ci := 0) (v := .int 0) (C := RX0) (T := TX0) (N := 18) hx hb hts (mm_i inlX0) hown hK.1 hP 0 rfl rfl 2 (by decide) (mm_h hts mm_w217) (fun _ h9 => h9) rfl dX0_copyFrom_18 ?_
  refine va_put (D := G) (ci := 0) (v := .int 0) (ty := tyX0 2) (C := RX0) (T := TX0) (N := 18) hx hb hts (mm_i inlX0) tyX0 tyX0_ok nmX0 hown hK.1 hP hD hS 11 rfl rfl 2 (by decide) (mm_h hts mm_w217) (fun _ h9 => h9) rfl (tyX0_ok 2 (by decide)) rfl rfl (Nat.le_of_ble_eq_true rfl) dX0_copyFrom_21 ?_
  clear hP hD hS
  clear H locs
  intro H locs (hP : va_P G vwCl [(a_1, .inr (0, [.int 0, .int 0, .int 0, .int 0, .int 0, .int 0, .int 0, .int 0, .ref a_27, .ref a_28, .ref a_29, .ref a_30, .ref a_31, .ref a_32, .ref a_33, .ref a_34, .ref a_35, .ref a_36])), (a_27, .inl (cy 1, 9, .inl (fun _ => 0))), (a_28, .inl (cy 1, 9, .inl (fun _ => 0))), (a_29, .inl (cy 1, 3, .inl (fun _ => 0))), (a_30, .inl (cy 1, 210, .inl (fun _ => 0))), (a_31, .inl (cy 1, 6, .inl (fun _ => 0))), (a_32, .inl (cy 1, 48, .inl (fun _ => 0))), (a_33, .inl (cy 1, 30, .inl (fun _ => 0))), (a_34, .inl (cy 1, 30, .inl (fun _ => 0))), (a_35, .inl (cy 1, 30, .inl (fun _ => 0))), (a_36, .inl (cy 1, 30, .inl (fun _ => 0))), (a_0, .inr (0, [.int 0, .int 0, .int 0, .int 0, .int 0, .int 0, .int 0, .int 0, .ref a_48, .ref a_49, .ref a_50, .ref a_51, .ref a_52, .ref a_53, .ref a_54, .ref a_55, .ref a_56, .ref a_57])), (a_48, .inl (cy 1, 9, .inl (fun _ => 0))), (a_49, .inl (cy 1, 9, .inl (fun _ => 0))), (a_50, .inl (cy 1, 3, .inl (fun _ => 0))), (a_51, .inl (cy 1, 210, .inl (fun _ => 0))), (a_52, .inl (cy 1, 6, .inl (fun _ => 0))), (a_53, .inl (cy 1, 48, .inl (fun _ => 0))), (a_54, .inl (cy 1, 30, .inl (fun _ => 0))), (a_55, .inl (cy 1, 30, .inl (fun _ => 0))), (a_56, .inl (cy 1, 30, .inl (fun _ => 0))), (a_57, .inl (cy 1, 30, .inl (fun _ => 0)))] H) (hD : va_D A [(a_1, .inr (0, [.int 0, .int 0, .int 0, .int 0, .int 0, .int 0, .int 0, .int 0, .ref a_27, .ref a_28, .ref a_29, .ref a_30, .ref a_31, .ref a_32, .ref a_33, .ref a_34, .ref a_35, .ref a_36])), (a_27, .inl (cy 1, 9, .inl (fun _ => 0))), (a_28, .inl (cy 1, 9, .inl (fun _ => 0))), (a_29, .inl (cy 1, 3, .inl (fun _ => 0))), (a_30, .inl (cy 1, 210, .inl (fun _ => 0))), (a_31, .inl (cy 1, 6, .inl (fun _ => 0))), (a_32, .inl (cy 1, 48, .inl (fun _ => 0))), (a_33, .inl (cy 1, 30, .inl (fun _ => 0))), (a_34, .inl (cy 1, 30, .inl (fun _ => 0))), (a_35, .inl (cy 1, 30, .inl (fun _ => 0))), (a_36, .inl (cy 1, 30, .inl (fun _ => 0))), (a_0, .inr (0, [.int 0, .int 0, .int 0, .int 0, .int 0, .int 0, .int 0, .int 0, .ref a_48, .ref a_49, .ref a_50, .ref a_51, .ref a_52, .ref a_53, .ref a_54, .ref a_55, .ref a_56, .ref a_57])), (a_48, .inl (cy 1, 9, .inl (fun _ => 0))), (a_49, .inl (cy 1, 9, .inl (fun _ => 0))), (a_50, .inl (cy 1, 3, .inl (fun _ => 0))), (a_51, .inl (cy 1, 210, .inl (fun _ => 0))), (a_52, .inl (cy 1, 6, .inl (fun _ => 0))), (a_53, .inl (cy 1, 48, .inl (fun _ => 0))), (a_54, .inl (cy 1, 30, .inl (fun _ => 0))), (a_55, .inl (cy 1, 30, .inl (fun _ => 0))), (a_56, .inl (cy 1, 30, .inl (fun _ => 0))), (a_57, .inl (cy 1, 30, .inl (fun _ => 0)))]) hS
  refine lv_aload_n hx hb dX0_copyFrom_24 rfl (lv_at hl 0 rfl) ?_
  refine lv_aload_n hx hb dX0_copyFrom_25 rfl (lv_at hl 1 rfl) ?_
  refine va_get (D := G) (ci := 0) (v := .int 0) (C := RX0) (T := TX0) (N := 18) hx hb hts (mm_i inlX0) hown hK.1 hP 0 rfl rfl 3 (by decide) (mm_h hts mm_w218) (fun _ h9 => h9) rfl dX0_copyFrom_26 ?_
  refine va_put (D := G) (ci := 0) (v := .int 0) (ty := tyX0 3) (C := RX0) (T := TX0) (N := 18) hx hb hts (mm_i inlX0) tyX0 tyX0_ok nmX0 hown hK.1 hP hD hS 11 rfl rfl 3 (by decide) (mm_h hts mm_w218) (fun _ h9 => h9) rfl (tyX0_ok 3 (by decide)) rfl rfl (Nat.le_of_ble_eq_true rfl) dX0_copyFrom_29 ?_
  clear hP hD hS
  clear H locs
  intro H locs (hP : va_P G vwCl [(a_1, .inr (0, [.int 0, .int 0, .int 0, .int 0, .int 0, .int 0, .int 0, .int 0, .ref a_27, .ref a_28, .ref a_29, .ref a_30, .ref a_31, .ref a_32, .ref a_33, .ref a_34, .ref a_35, .ref a_36])), (a_27, .inl (cy 1, 9, .inl (fun _ => 0))), (a_28, .inl (cy 1, 9, .inl (fun _ => 0))), (a_29, .inl (cy 1, 3, .inl (fun _ => 0))), (a_30, .inl (cy 1, 210, .inl (fun _ => 0))), (a_31, .inl (cy 1, 6, .inl (fun _ => 0))), (a_32, .inl (cy 1, 48, .inl (fun _ => 0))), (a_33, .inl (cy 1, 30, .inl (fun _ => 0))), (a_34, .inl (cy 1, 30, .inl (fun _ => 0))), (a_35, .inl (cy 1, 30, .inl (fun _ => 0))), (a_36, .inl (cy 1, 30, .inl (fun _ => 0))), (a_0, .inr (0, [.int 0, .int 0, .int 0, .int 0, .int 0, .int 0, .int 0, .int 0, .ref a_48, .ref a_49, .ref a_50, .ref a_51, .ref a_52, .ref a_53, .ref a_54, .ref a_55, .ref a_56, .ref a_57])), (a_48, .inl (cy 1, 9, .inl (fun _ => 0))), (a_49, .inl (cy 1, 9, .inl (fun _ => 0))), (a_50, .inl (cy 1, 3, .inl (fun _ => 0))), (a_51, .inl (cy 1, 210, .inl (fun _ => 0))), (a_52, .inl (cy 1, 6, .inl (fun _ => 0))), (a_53, .inl (cy 1, 48, .inl (fun _ => 0))), (a_54, .inl (cy 1, 30, .inl (fun _ => 0))), (a_55, .inl (cy 1, 30, .inl (fun _ => 0))), (a_56, .inl (cy 1, 30, .inl (fun _ => 0))), (a_57, .inl (cy 1, 30, .inl (fun _ => 0)))] H) (hD : va_D A [(a_1, .inr (0, [.int 0, .int 0, .int 0, .int 0, .int 0, .int 0, .int 0, .int 0, .ref a_27, .ref a_28, .ref a_29, .ref a_30, .ref a_31, .ref a_32, .ref a_33, .ref a_34, .ref a_35, .ref a_36])), (a_27, .inl (cy 1, 9, .inl (fun _ => 0))), (a_28, .inl (cy 1, 9, .inl (fun _ => 0))), (a_29, .inl (cy 1, 3, .inl (fun _ => 0))), (a_30, .inl (cy 1, 210, .inl (fun _ => 0))), (a_31, .inl (cy 1, 6, .inl (fun _ => 0))), (a_32, .inl (cy 1, 48, .inl (fun _ => 0))), (a_33, .inl (cy 1, 30, .inl (fun _ => 0))), (a_34, .inl (cy 1, 30, .inl (fun _ => 0))), (a_35, .inl (cy 1, 30, .inl (fun _ => 0))), (a_36, .inl (cy 1, 30, .inl (fun _ => 0))), (a_0, .inr (0, [.int 0, .int 0, .int 0, .int 0, .int 0, .int 0, .int 0, .int 0, .ref a_48, .ref a_49, .ref a_50, .ref a_51, .ref a_52, .ref a_53, .ref a_54, .ref a_55, .ref a_56, .ref a_57])), (a_48, .inl (cy 1, 9, .inl (fun _ => 0))), (a_49, .inl (cy 1, 9, .inl (fun _ => 0))), (a_50, .inl (cy 1, 3, .inl (fun _ => 0))), (a_51, .inl (cy 1, 210, .inl (fun _ => 0))), (a_52, .inl (cy 1, 6, .inl (fun _ => 0))), (a_53, .inl (cy 1, 48, .inl (fun _ => 0))), (a_54, .inl (cy 1, 30, .inl (fun _ => 0))), (a_55, .inl (cy 1, 30, .inl (fun _ => 0))), (a_56, .inl (cy 1, 30, .inl (fun _ => 0))), (a_57, .inl (cy 1, 30, .inl (fun _ => 0)))]) hS
  refine lv_aload_n hx hb dX0_copyFrom_32 rfl (lv_at hl 0 rfl) ?_
  refine lv_aload_n hx hb dX0_copyFrom_33 rfl (lv_at hl 1 rfl) ?_
  refine va_get (D := G) (ci := 0) (v := .int 0) (C := RX0) (T := TX0) (N := 18) hx hb hts (mm_i inlX0) hown hK.1 hP 0 rfl rfl 4 (by decide) (mm_h hts mm_w219) (fun _ h9 => h9) rfl dX0_copyFrom_34 ?_
  refine va_put (D := G) (ci := 0) (v := .int 0) (ty := tyX0 4) (C := RX0) (T := TX0) (N := 18) hx hb hts (mm_i inlX0) tyX0 tyX0_ok nmX0 hown hK.1 hP hD hS 11 rfl rfl 4 (by decide) (mm_h hts mm_w219) (fun _ h9 => h9) rfl (tyX0_ok 4 (by decide)) rfl rfl (Nat.le_of_ble_eq_true rfl) dX0_copyFrom_37 ?_
  clear hP hD hS
  clear H locs
  intro H locs (hP : va_P G vwCl [(a_1, .inr (0, [.int 0, .int 0, .int 0, .int 0, .int 0, .int 0, .int 0, .int 0, .ref a_27, .ref a_28, .ref a_29, .ref a_30, .ref a_31, .ref a_32, .ref a_33, .ref a_34, .ref a_35, .ref a_36])), (a_27, .inl (cy 1, 9, .inl (fun _ => 0))), (a_28, .inl (cy 1, 9, .inl (fun _ => 0))), (a_29, .inl (cy 1, 3, .inl (fun _ => 0))), (a_30, .inl (cy 1, 210, .inl (fun _ => 0))), (a_31, .inl (cy 1, 6, .inl (fun _ => 0))), (a_32, .inl (cy 1, 48, .inl (fun _ => 0))), (a_33, .inl (cy 1, 30, .inl (fun _ => 0))), (a_34, .inl (cy 1, 30, .inl (fun _ => 0))), (a_35, .inl (cy 1, 30, .inl (fun _ => 0))), (a_36, .inl (cy 1, 30, .inl (fun _ => 0))), (a_0, .inr (0, [.int 0, .int 0, .int 0, .int 0, .int 0, .int 0, .int 0, .int 0, .ref a_48, .ref a_49, .ref a_50, .ref a_51, .ref a_52, .ref a_53, .ref a_54, .ref a_55, .ref a_56, .ref a_57])), (a_48, .inl (cy 1, 9, .inl (fun _ => 0))), (a_49, .inl (cy 1, 9, .inl (fun _ => 0))), (a_50, .inl (cy 1, 3, .inl (fun _ => 0))), (a_51, .inl (cy 1, 210, .inl (fun _ => 0))), (a_52, .inl (cy 1, 6, .inl (fun _ => 0))), (a_53, .inl (cy 1, 48, .inl (fun _ => 0))), (a_54, .inl (cy 1, 30, .inl (fun _ => 0))), (a_55, .inl (cy 1, 30, .inl (fun _ => 0))), (a_56, .inl (cy 1, 30, .inl (fun _ => 0))), (a_57, .inl (cy 1, 30, .inl (fun _ => 0)))] H) (hD : va_D A [(a_1, .inr (0, [.int 0, .int 0, .int 0, .int 0, .int 0, .int 0, .int 0, .int 0, .ref a_27, .ref a_28, .ref a_29, .ref a_30, .ref a_31, .ref a_32, .ref a_33, .ref a_34, .ref a_35, .ref a_36])), (a_27, .inl (cy 1, 9, .inl (fun _ => 0))), (a_28, .inl (cy 1, 9, .inl (fun _ => 0))), (a_29, .inl (cy 1, 3, .inl (fun _ => 0))), (a_30, .inl (cy 1, 210, .inl (fun _ => 0))), (a_31, .inl (cy 1, 6, .inl (fun _ => 0))), (a_32, .inl (cy 1, 48, .inl (fun _ => 0))), (a_33, .inl (cy 1, 30, .inl (fun _ => 0))), (a_34, .inl (cy 1, 30, .inl (fun _ => 0))), (a_35, .inl (cy 1, 30, .inl (fun _ => 0))), (a_36, .inl (cy 1, 30, .inl (fun _ => 0))), (a_0, .inr (0, [.int 0, .int 0, .int 0, .int 0, .int 0, .int 0, .int 0, .int 0, .ref a_48, .ref a_49, .ref a_50, .ref a_51, .ref a_52, .ref a_53, .ref a_54, .ref a_55, .ref a_56, .ref a_57])), (a_48, .inl (cy 1, 9, .inl (fun _ => 0))), (a_49, .inl (cy 1, 9, .inl (fun _ => 0))), (a_50, .inl (cy 1, 3, .inl (fun _ => 0))), (a_51, .inl (cy 1, 210, .inl (fun _ => 0))), (a_52, .inl (cy 1, 6, .inl (fun _ => 0))), (a_53, .inl (cy 1, 48, .inl (fun _ => 0))), (a_54, .inl (cy 1, 30, .inl (fun _ => 0))), (a_55, .inl (cy 1, 30, .inl (fun _ => 0))), (a_56, .inl (cy 1, 30, .inl (fun _ => 0))), (a_57, .inl (cy 1, 30, .inl (fun _ => 0)))]) hS
  refine lv_aload_n hx hb dX0_copyFrom_40 rfl (lv_at hl 0 rfl) ?_
  refine lv_aload_n hx hb dX0_copyFrom_41 rfl (lv_at hl 1 rfl) ?_
  refine va_get (D := G) (ci := 0) (v := .int 0) (C := RX0) (T := TX0) (N := 18) hx hb hts (mm_i inlX0) hown hK.1 hP 0 rfl rfl 5 (by decide) (mm_h hts mm_w220) (fun _ h9 => h9) rfl dX0_copyFrom_42 ?_
  refine va_put (D := G) (ci := 0) (v := .int 0) (ty := tyX0 5) (C := RX0) (T := TX0) (N := 18) hx hb hts (mm_i inlX0) tyX0 tyX0_ok nmX0 hown hK.1 hP hD hS 11 rfl rfl 5 (by decide) (mm_h hts mm_w220) (fun _ h9 => h9) rfl (tyX0_ok 5 (by decide)) rfl rfl (Nat.le_of_ble_eq_true rfl) dX0_copyFrom_45 ?_
  clear hP hD hS
  clear H locs
  intro H locs (hP : va_P G vwCl [(a_1, .inr (0, [.int 0, .int 0, .int 0, .int 0, .int 0, .int 0, .int 0, .int 0, .ref a_27, .ref a_28, .ref a_29, .ref a_30, .ref a_31, .ref a_32, .ref a_33, .ref a_34, .ref a_35, .ref a_36])), (a_27, .inl (cy 1, 9, .inl (fun _ => 0))), (a_28, .inl (cy 1, 9, .inl (fun _ => 0))), (a_29, .inl (cy 1, 3, .inl (fun _ => 0))), (a_30, .inl (cy 1, 210, .inl (fun _ => 0))), (a_31, .inl (cy 1, 6, .inl (fun _ => 0))), (a_32, .inl (cy 1, 48, .inl (fun _ => 0))), (a_33, .inl (cy 1, 30, .inl (fun _ => 0))), (a_34, .inl (cy 1, 30, .inl (fun _ => 0))), (a_35, .inl (cy 1, 30, .inl (fun _ => 0))), (a_36, .inl (cy 1, 30, .inl (fun _ => 0))), (a_0, .inr (0, [.int 0, .int 0, .int 0, .int 0, .int 0, .int 0, .int 0, .int 0, .ref a_48, .ref a_49, .ref a_50, .ref a_51, .ref a_52, .ref a_53, .ref a_54, .ref a_55, .ref a_56, .ref a_57])), (a_48, .inl (cy 1, 9, .inl (fun _ => 0))), (a_49, .inl (cy 1, 9, .inl (fun _ => 0))), (a_50, .inl (cy 1, 3, .inl (fun _ => 0))), (a_51, .inl (cy 1, 210, .inl (fun _ => 0))), (a_52, .inl (cy 1, 6, .inl (fun _ => 0))), (a_53, .inl (cy 1, 48, .inl (fun _ => 0))), (a_54, .inl (cy 1, 30, .inl (fun _ => 0))), (a_55, .inl (cy 1, 30, .inl (fun _ => 0))), (a_56, .inl (cy 1, 30, .inl (fun _ => 0))), (a_57, .inl (cy 1, 30, .inl (fun _ => 0)))] H) (hD : va_D A [(a_1, .inr (0, [.int 0, .int 0, .int 0, .int 0, .int 0, .int 0, .int 0, .int 0, .ref a_27, .ref a_28, .ref a_29, .ref a_30, .ref a_31, .ref a_32, .ref a_33, .ref a_34, .ref a_35, .ref a_36])), (a_27, .inl (cy 1, 9, .inl (fun _ => 0))), (a_28, .inl (cy 1, 9, .inl (fun _ => 0))), (a_29, .inl (cy 1, 3, .inl (fun _ => 0))), (a_30, .inl (cy 1, 210, .inl (fun _ => 0))), (a_31, .inl (cy 1, 6, .inl (fun _ => 0))), (a_32, .inl (cy 1, 48, .inl (fun _ => 0))), (a_33, .inl (cy 1, 30, .inl (fun _ => 0))), (a_34, .inl (cy 1, 30, .inl (fun _ => 0))), (a_35, .inl (cy 1, 30, .inl (fun _ => 0))), (a_36, .inl (cy 1, 30, .inl (fun _ => 0))), (a_0, .inr (0, [.int 0, .int 0, .int 0, .int 0, .int 0, .int 0, .int 0, .int 0, .ref a_48, .ref a_49, .ref a_50, .ref a_51, .ref a_52, .ref a_53, .ref a_54, .ref a_55, .ref a_56, .ref a_57])), (a_48, .inl (cy 1, 9, .inl (fun _ => 0))), (a_49, .inl (cy 1, 9, .inl (fun _ => 0))), (a_50, .inl (cy 1, 3, .inl (fun _ => 0))), (a_51, .inl (cy 1, 210, .inl (fun _ => 0))), (a_52, .inl (cy 1, 6, .inl (fun _ => 0))), (a_53, .inl (cy 1, 48, .inl (fun _ => 0))), (a_54, .inl (cy 1, 30, .inl (fun _ => 0))), (a_55, .inl (cy 1, 30, .inl (fun _ => 0))), (a_56, .inl (cy 1, 30, .inl (fun _ => 0))), (a_57, .inl (cy 1, 30, .inl (fun _ => 0)))]) hS
  refine lv_aload_n hx hb dX0_copyFrom_48 rfl (lv_at hl 0 rfl) ?_
  refine lv_aload_n hx hb dX0_copyFrom_49 rfl (lv_at hl 1 rfl) ?_
  refine va_get (D := G) (ci := 0) (v := .int 0) (C := RX0) (T := TX0) (N := 18) hx hb hts (mm_i inlX0) hown hK.1 hP 0 rfl rfl 6 (by decide) (mm_h hts mm_w221) (fun _ h9 => h9) rfl dX0_copyFrom_50 ?_
  refine va_put (D := G) (ci := 0) (v := .int 0) (ty := tyX0 6) (C := RX0) (T := TX0) (N := 18) hx hb hts (mm_i inlX0) tyX0 tyX0_ok nmX0 hown hK.1 hP hD hS 11 rfl rfl 6 (by decide) (mm_h hts mm_w221) (fun _ h9 => h9) rfl (tyX0_ok 6 (by decide)) rfl rfl (Nat.le_of_ble_eq_true rfl) dX0_copyFrom_53 ?_
  clear hP hD hS
  clear H locs
  intro H locs (hP : va_P G vwCl [(a_1, .inr (0, [.int 0, .int 0, .int 0, .int 0, .int 0, .int 0, .int 0, .int 0, .ref a_27, .ref a_28, .ref a_29, .ref a_30, .ref a_31, .ref a_32, .ref a_33, .ref a_34, .ref a_35, .ref a_36])), (a_27, .inl (cy 1, 9, .inl (fun _ => 0))), (a_28, .inl (cy 1, 9, .inl (fun _ => 0))), (a_29, .inl (cy 1, 3, .inl (fun _ => 0))), (a_30, .inl (cy 1, 210, .inl (fun _ => 0))), (a_31, .inl (cy 1, 6, .inl (fun _ => 0))), (a_32, .inl (cy 1, 48, .inl (fun _ => 0))), (a_33, .inl (cy 1, 30, .inl (fun _ => 0))), (a_34, .inl (cy 1, 30, .inl (fun _ => 0))), (a_35, .inl (cy 1, 30, .inl (fun _ => 0))), (a_36, .inl (cy 1, 30, .inl (fun _ => 0))), (a_0, .inr (0, [.int 0, .int 0, .int 0, .int 0, .int 0, .int 0, .int 0, .int 0, .ref a_48, .ref a_49, .ref a_50, .ref a_51, .ref a_52, .ref a_53, .ref a_54, .ref a_55, .ref a_56, .ref a_57])), (a_48, .inl (cy 1, 9, .inl (fun _ => 0))), (a_49, .inl (cy 1, 9, .inl (fun _ => 0))), (a_50, .inl (cy 1, 3, .inl (fun _ => 0))), (a_51, .inl (cy 1, 210, .inl (fun _ => 0))), (a_52, .inl (cy 1, 6, .inl (fun _ => 0))), (a_53, .inl (cy 1, 48, .inl (fun _ => 0))), (a_54, .inl (cy 1, 30, .inl (fun _ => 0))), (a_55, .inl (cy 1, 30, .inl (fun _ => 0))), (a_56, .inl (cy 1, 30, .inl (fun _ => 0))), (a_57, .inl (cy 1, 30, .inl (fun _ => 0)))] H) (hD : va_D A [(a_1, .inr (0, [.int 0, .int 0, .int 0, .int 0, .int 0, .int 0, .int 0, .int 0, .ref a_27, .ref a_28, .ref a_29, .ref a_30, .ref a_31, .ref a_32, .ref a_33, .ref a_34, .ref a_35, .ref a_36])), (a_27, .inl (cy 1, 9, .inl (fun _ => 0))), (a_28, .inl (cy 1, 9, .inl (fun _ => 0))), (a_29, .inl (cy 1, 3, .inl (fun _ => 0))), (a_30, .inl (cy 1, 210, .inl (fun _ => 0))), (a_31, .inl (cy 1, 6, .inl (fun _ => 0))), (a_32, .inl (cy 1, 48, .inl (fun _ => 0))), (a_33, .inl (cy 1, 30, .inl (fun _ => 0))), (a_34, .inl (cy 1, 30, .inl (fun _ => 0))), (a_35, .inl (cy 1, 30, .inl (fun _ => 0))), (a_36, .inl (cy 1, 30, .inl (fun _ => 0))), (a_0, .inr (0, [.int 0, .int 0, .int 0, .int 0, .int 0, .int 0, .int 0, .int 0, .ref a_48, .ref a_49, .ref a_50, .ref a_51, .ref a_52, .ref a_53, .ref a_54, .ref a_55, .ref a_56, .ref a_57])), (a_48, .inl (cy 1, 9, .inl (fun _ => 0))), (a_49, .inl (cy 1, 9, .inl (fun _ => 0))), (a_50, .inl (cy 1, 3, .inl (fun _ => 0))), (a_51, .inl (cy 1, 210, .inl (fun _ => 0))), (a_52, .inl (cy 1, 6, .inl (fun _ => 0))), (a_53, .inl (cy 1, 48, .inl (fun _ => 0))), (a_54, .inl (cy 1, 30, .inl (fun _ => 0))), (a_55, .inl (cy 1, 30, .inl (fun _ => 0))), (a_56, .inl (cy 1, 30, .inl (fun _ => 0))), (a_57, .inl (cy 1, 30, .inl (fun _ => 0)))]) hS
  refine lv_aload_n hx hb dX0_copyFrom_56 rfl (lv_at hl 0 rfl) ?_
  refine lv_aload_n hx hb dX0_copyFrom_57 rfl (lv_at hl 1 rfl) ?_
  refine va_get (D := G) (ci := 0) (v := .int 0) (C := RX0) (T := TX0) (N := 18) hx hb hts (mm_i inlX0) hown hK.1 hP 0 rfl rfl 7 (by decide) (mm_h hts mm_w222) (fun _ h9 => h9) rfl dX0_copyFrom_58 ?_
  refine va_put (D := G) (ci := 0) (v := .int 0) (ty := tyX0 7) (C := RX0) (T := TX0) (N := 18) hx hb hts (mm_i inlX0) tyX0 tyX0_ok nmX0 hown hK.1 hP hD hS 11 rfl rfl 7 (by decide) (mm_h hts mm_w222) (fun _ h9 => h9) rfl (tyX0_ok 7 (by decide)) rfl rfl (Nat.le_of_ble_eq_true rfl) dX0_copyFrom_61 ?_
  clear hP hD hS
  clear H locs
  intro H locs (hP : va_P G vwCl [(a_1, .inr (0, [.int 0, .int 0, .int 0, .int 0, .int 0, .int 0, .int 0, .int 0, .ref a_27, .ref a_28, .ref a_29, .ref a_30, .ref a_31, .ref a_32, .ref a_33, .ref a_34, .ref a_35, .ref a_36])), (a_27, .inl (cy 1, 9, .inl (fun _ => 0))), (a_28, .inl (cy 1, 9, .inl (fun _ => 0))), (a_29, .inl (cy 1, 3, .inl (fun _ => 0))), (a_30, .inl (cy 1, 210, .inl (fun _ => 0))), (a_31, .inl (cy 1, 6, .inl (fun _ => 0))), (a_32, .inl (cy 1, 48, .inl (fun _ => 0))), (a_33, .inl (cy 1, 30, .inl (fun _ => 0))), (a_34, .inl (cy 1, 30, .inl (fun _ => 0))), (a_35, .inl (cy 1, 30, .inl (fun _ => 0))), (a_36, .inl (cy 1, 30, .inl (fun _ => 0))), (a_0, .inr (0, [.int 0, .int 0, .int 0, .int 0, .int 0, .int 0, .int 0, .int 0, .ref a_48, .ref a_49, .ref a_50, .ref a_51, .ref a_52, .ref a_53, .ref a_54, .ref a_55, .ref a_56, .ref a_57])), (a_48, .inl (cy 1, 9, .inl (fun _ => 0))), (a_49, .inl (cy 1, 9, .inl (fun _ => 0))), (a_50, .inl (cy 1, 3, .inl (fun _ => 0))), (a_51, .inl (cy 1, 210, .inl (fun _ => 0))), (a_52, .inl (cy 1, 6, .inl (fun _ => 0))), (a_53, .inl (cy 1, 48, .inl (fun _ => 0))), (a_54, .inl (cy 1, 30, .inl (fun _ => 0))), (a_55, .inl (cy 1, 30, .inl (fun _ => 0))), (a_56, .inl (cy 1, 30, .inl (fun _ => 0))), (a_57, .inl (cy 1, 30, .inl (fun _ => 0)))] H) (hD : va_D A [(a_1, .inr (0, [.int 0, .int 0, .int 0, .int 0, .int 0, .int 0, .int 0, .int 0, .ref a_27, .ref a_28, .ref a_29, .ref a_30, .ref a_31, .ref a_32, .ref a_33, .ref a_34, .ref a_35, .ref a_36])), (a_27, .inl (cy 1, 9, .inl (fun _ => 0))), (a_28, .inl (cy 1, 9, .inl (fun _ => 0))), (a_29, .inl (cy 1, 3, .inl (fun _ => 0))), (a_30, .inl (cy 1, 210, .inl (fun _ => 0))), (a_31, .inl (cy 1, 6, .inl (fun _ => 0))), (a_32, .inl (cy 1, 48, .inl (fun _ => 0))), (a_33, .inl (cy 1, 30, .inl (fun _ => 0))), (a_34, .inl (cy 1, 30, .inl (fun _ => 0))), (a_35, .inl (cy 1, 30, .inl (fun _ => 0))), (a_36, .inl (cy 1, 30, .inl (fun _ => 0))), (a_0, .inr (0, [.int 0, .int 0, .int 0, .int 0, .int 0, .int 0, .int 0, .int 0, .ref a_48, .ref a_49, .ref a_50, .ref a_51, .ref a_52, .ref a_53, .ref a_54, .ref a_55, .ref a_56, .ref a_57])), (a_48, .inl (cy 1, 9, .inl (fun _ => 0))), (a_49, .inl (cy 1, 9, .inl (fun _ => 0))), (a_50, .inl (cy 1, 3, .inl (fun _ => 0))), (a_51, .inl (cy 1, 210, .inl (fun _ => 0))), (a_52, .inl (cy 1, 6, .inl (fun _ => 0))), (a_53, .inl (cy 1, 48, .inl (fun _ => 0))), (a_54, .inl (cy 1, 30, .inl (fun _ => 0))), (a_55, .inl (cy 1, 30, .inl (fun _ => 0))), (a_56, .inl (cy 1, 30, .inl (fun _ => 0))), (a_57, .inl (cy 1, 30, .inl (fun _ => 0)))]) hS
  refine lv_aload_n hx hb dX0_copyFrom_64 rfl (lv_at hl 1 rfl) ?_
  refine va_get (D := G) (ci := 0) (v := .ref a_27) (C := RX0) (T := TX0) (N := 18) hx hb hts (mm_i inlX0) hown hK.1 hP 0 rfl rfl 8 (by decide) (mm_h hts mm_w72) (fun _ h9 => h9) rfl dX0_copyFrom_65 ?_
  refine lv_aload_n hx hb dX0_copyFrom_68 rfl (lv_at hl 0 rfl) ?_
  refine va_get (D := G) (ci := 0) (v := .ref a_48) (C := RX0) (T := TX0) (N := 18) hx hb hts (mm_i inlX0) hown hK.1 hP 11 rfl rfl 8 (by decide) (mm_h hts mm_w72) (fun _ h9 => h9) rfl dX0_copyFrom_69 ?_
  refine mm_finv (va_runS (As := [.ref a_27, .ref a_48]) (rest := []) ⟨hx, hb, hml, hown, hts⟩ (K44_X0_copyRow l G cy H.size a_27 a_48 ) (va_cwS 2 hts (mm_gS mm_w381 mm_w382 mm_w28 mm_w383) rfl rfl rfl hs_X0_copyRow ⟨by rw [hRf]; exact Nat.le_of_ble_eq_true rfl, by rw [hRl]; exact Nat.le_of_ble_eq_true rfl⟩) (mm_preS hK hP hD [1, 12] rfl rfl) rfl rfl hl.1 rfl (lv_room (Nat.le_of_ble_eq_true rfl)) dX0_copyFrom_72 ⟨by rw [hRc]; exact Nat.le_of_ble_eq_true rfl, by rw [hRs]; exact Nat.le_of_ble_eq_true rfl⟩) hP hD hS hA (fun u : (Nat → Int32) => [(a_1, .inr (0, [.int 0, .int 0, .int 0, .int 0, .int 0, .int 0, .int 0, .int 0, .ref a_27, .ref a_28, .ref a_29, .ref a_30, .ref a_31, .ref a_32, .ref a_33, .ref a_34, .ref a_35, .ref a_36])), (a_27, .inl (cy 1, 9, .inl (fun _ => 0))), (a_28, .inl (cy 1, 9, .inl (fun _ => 0))), (a_29, .inl (cy 1, 3, .inl (fun _ => 0))), (a_30, .inl (cy 1, 210, .inl (fun _ => 0))), (a_31, .inl (cy 1, 6, .inl (fun _ => 0))), (a_32, .inl (cy 1, 48, .inl (fun _ => 0))), (a_33, .inl (cy 1, 30, .inl (fun _ => 0))), (a_34, .inl (cy 1, 30, .inl (fun _ => 0))), (a_35, .inl (cy 1, 30, .inl (fun _ => 0))), (a_36, .inl (cy 1, 30, .inl (fun _ => 0))), (a_0, .inr (0, [.int 0, .int 0, .int 0, .int 0, .int 0, .int 0, .int 0, .int 0, .ref a_48, .ref a_49, .ref a_50, .ref a_51, .ref a_52, .ref a_53, .ref a_54, .ref a_55, .ref a_56, .ref a_57])), (a_48, .inl (cy 1, 9, .inl u)), (a_49, .inl (cy 1, 9, .inl (fun _ => 0))), (a_50, .inl (cy 1, 3, .inl (fun _ => 0))), (a_51, .inl (cy 1, 210, .inl (fun _ => 0))), (a_52, .inl (cy 1, 6, .inl (fun _ => 0))), (a_53, .inl (cy 1, 48, .inl (fun _ => 0))), (a_54, .inl (cy 1, 30, .inl (fun _ => 0))), (a_55, .inl (cy 1, 30, .inl (fun _ => 0))), (a_56, .inl (cy 1, 30, .inl (fun _ => 0))), (a_57, .inl (cy 1, 30, .inl (fun _ => 0)))]) [1, 12] [0, 2, 3, 4, 5, 6, 7, 8, 9, 10, 11, 13, 14, 15, 16, 17, 18, 19, 20, 21] (n := 22) (fun _ => rfl) (by decide +kernel) (by decide +kernel) rfl (fun _ => rfl) (wr := [(a_1, .inr (0, [.int 0, .int 0, .int 0, .int 0, .int 0, .int 0, .int 0, .int 0, .ref a_27, .ref a_28, .ref a_29, .ref a_30, .ref a_31, .ref a_32, .ref a_33, .ref a_34, .ref a_35, .ref a_36])), (a_28, .inl (cy 1, 9, .inl (fun _ => 0))), (a_29, .inl (cy 1, 3, .inl (fun _ => 0))), (a_30, .inl (cy 1, 210, .inl (fun _ => 0))), (a_31, .inl (cy 1, 6, .inl (fun _ => 0))), (a_32, .inl (cy 1, 48, .inl (fun _ => 0))), (a_33, .inl (cy 1, 30, .inl (fun _ => 0))), (a_34, .inl (cy 1, 30, .inl (fun _ => 0))), (a_35, .inl (cy 1, 30, .inl (fun _ => 0))), (a_36, .inl (cy 1, 30, .inl (fun _ => 0))), (a_0, .inr (0, [.int 0, .int 0, .int 0, .int 0, .int 0, .int 0, .int 0, .int 0, .ref a_48, .ref a_49, .ref a_50, .ref a_51, .ref a_52, .ref a_53, .ref a_54, .ref a_55, .ref a_56, .ref a_57])), (a_49, .inl (cy 1, 9, .inl (fun _ => 0))), (a_50, .inl (cy 1, 3, .inl (fun _ => 0))), (a_51, .inl (cy 1, 210, .inl (fun _ => 0))), (a_52, .inl (cy 1, 6, .inl (fun _ => 0))), (a_53, .inl (cy 1, 48, .inl (fun _ => 0))), (a_54, .inl (cy 1, 30, .inl (fun _ => 0))), (a_55, .inl (cy 1, 30, .inl (fun _ => 0))), (a_56, .inl (cy 1, 30, .inl (fun _ => 0))), (a_57, .inl (cy 1, 30, .inl (fun _ => 0)))]) rfl (fun _ => rfl) (fun _ => rfl) ?_
  clear hP hD hS
  clear H locs
  intro n1 H locs hw (hP : va_P G vwCl [(a_1, .inr (0, [.int 0, .int 0, .int 0, .int 0, .int 0, .int 0, .int 0, .int 0, .ref a_27, .ref a_28, .ref a_29, .ref a_30, .ref a_31, .ref a_32, .ref a_33, .ref a_34, .ref a_35, .ref a_36])), (a_27, .inl (cy 1, 9, .inl (fun _ => 0))), (a_28, .inl (cy 1, 9, .inl (fun _ => 0))), (a_29, .inl (cy 1, 3, .inl (fun _ => 0))), (a_30, .inl (cy 1, 210, .inl (fun _ => 0))), (a_31, .inl (cy 1, 6, .inl (fun _ => 0))), (a_32, .inl (cy 1, 48, .inl (fun _ => 0))), (a_33, .inl (cy 1, 30, .inl (fun _ => 0))), (a_34, .inl (cy 1, 30, .inl (fun _ => 0))), (a_35, .inl (cy 1, 30, .inl (fun _ => 0))), (a_36, .inl (cy 1, 30, .inl (fun _ => 0))), (a_0, .inr (0, [.int 0, .int 0, .int 0, .int 0, .int 0, .int 0, .int 0, .int 0, .ref a_48, .ref a_49, .ref a_50, .ref a_51, .ref a_52, .ref a_53, .ref a_54, .ref a_55, .ref a_56, .ref a_57])), (a_48, .inl (cy 1, 9, .inl n1)), (a_49, .inl (cy 1, 9, .inl (fun _ => 0))), (a_50, .inl (cy 1, 3, .inl (fun _ => 0))), (a_51, .inl (cy 1, 210, .inl (fun _ => 0))), (a_52, .inl (cy 1, 6, .inl (fun _ => 0))), (a_53, .inl (cy 1, 48, .inl (fun _ => 0))), (a_54, .inl (cy 1, 30, .inl (fun _ => 0))), (a_55, .inl (cy 1, 30, .inl (fun _ => 0))), (a_56, .inl (cy 1, 30, .inl (fun _ => 0))), (a_57, .inl (cy 1, 30, .inl (fun _ => 0)))] H) (hD : va_D A [(a_1, .inr (0, [.int 0, .int 0, .int 0, .int 0, .int 0, .int 0, .int 0, .int 0, .ref a_27, .ref a_28, .ref a_29, .ref a_30, .ref a_31, .ref a_32, .ref a_33, .ref a_34, .ref a_35, .ref a_36])), (a_27, .inl (cy 1, 9, .inl (fun _ => 0))), (a_28, .inl (cy 1, 9, .inl (fun _ => 0))), (a_29, .inl (cy 1, 3, .inl (fun _ => 0))), (a_30, .inl (cy 1, 210, .inl (fun _ => 0))), (a_31, .inl (cy 1, 6, .inl (fun _ => 0))), (a_32, .inl (cy 1, 48, .inl (fun _ => 0))), (a_33, .inl (cy 1, 30, .inl (fun _ => 0))), (a_34, .inl (cy 1, 30, .inl (fun _ => 0))), (a_35, .inl (cy 1, 30, .inl (fun _ => 0))), (a_36, .inl (cy 1, 30, .inl (fun _ => 0))), (a_0, .inr (0, [.int 0, .int 0, .int 0, .int 0, .int 0, .int 0, .int 0, .int 0, .ref a_48, .ref a_49, .ref a_50, .ref a_51, .ref a_52, .ref a_53, .ref a_54, .ref a_55, .ref a_56, .ref a_57])), (a_48, .inl (cy 1, 9, .inl n1)), (a_49, .inl (cy 1, 9, .inl (fun _ => 0))), (a_50, .inl (cy 1, 3, .inl (fun _ => 0))), (a_51, .inl (cy 1, 210, .inl (fun _ => 0))), (a_52, .inl (cy 1, 6, .inl (fun _ => 0))), (a_53, .inl (cy 1, 48, .inl (fun _ => 0))), (a_54, .inl (cy 1, 30, .inl (fun _ => 0))), (a_55, .inl (cy 1, 30, .inl (fun _ => 0))), (a_56, .inl (cy 1, 30, .inl (fun _ => 0))), (a_57, .inl (cy 1, 30, .inl (fun _ => 0)))]) hS
  have w2 := hw
  refine lv_aload_n hx hb dX0_copyFrom_75 rfl (lv_at hl 1 rfl) ?_
  refine va_get (D := G) (ci := 0) (v := .ref a_28) (C := RX0) (T := TX0) (N := 18) hx hb hts (mm_i inlX0) hown hK.1 hP 0 rfl rfl 9 (by decide) (mm_h hts mm_w73) (fun _ h9 => h9) rfl dX0_copyFrom_76 ?_
  refine lv_aload_n hx hb dX0_copyFrom_79 rfl (lv_at hl 0 rfl) ?_
  refine va_get (D := G) (ci := 0) (v := .ref a_49) (C := RX0) (T := TX0) (N := 18) hx hb hts (mm_i inlX0) hown hK.1 hP 11 rfl rfl 9 (by decide) (mm_h hts mm_w73) (fun _ h9 => h9) rfl dX0_copyFrom_80 ?_
  refine mm_finv (va_runS (As := [.ref a_28, .ref a_49]) (rest := []) ⟨hx, hb, hml, hown, hts⟩ (K44_X0_copyRow l G cy H.size a_28 a_49 ) (va_cwS 2 hts (mm_gS mm_w381 mm_w382 mm_w28 mm_w383) rfl rfl rfl hs_X0_copyRow ⟨by rw [hRf]; exact Nat.le_of_ble_eq_true rfl, by rw [hRl]; exact Nat.le_of_ble_eq_true rfl⟩) (mm_preS hK hP hD [2, 13] rfl rfl) rfl rfl hl.1 rfl (lv_room (Nat.le_of_ble_eq_true rfl)) dX0_copyFrom_83 ⟨by rw [hRc]; exact Nat.le_of_ble_eq_true rfl, by rw [hRs]; exact Nat.le_of_ble_eq_true rfl⟩) hP hD hS hA (fun u : (Nat → Int32) => [(a_1, .inr (0, [.int 0, .int 0, .int 0, .int 0, .int 0, .int 0, .int 0, .int 0, .ref a_27, .ref a_28, .ref a_29, .ref a_30, .ref a_31, .ref a_32, .ref a_33, .ref a_34, .ref a_35, .ref a_36])), (a_27, .inl (cy 1, 9, .inl (fun _ => 0))), (a_28, .inl (cy 1, 9, .inl (fun _ => 0))), (a_29, .inl (cy 1, 3, .inl (fun _ => 0))), (a_30, .inl (cy 1, 210, .inl (fun _ => 0))), (a_31, .inl (cy 1, 6, .inl (fun _ => 0))), (a_32, .inl (cy 1, 48, .inl (fun _ => 0))), (a_33, .inl (cy 1, 30, .inl (fun _ => 0))), (a_34, .inl (cy 1, 30, .inl (fun _ => 0))), (a_35, .inl (cy 1, 30, .inl (fun _ => 0))), (a_36, .inl (cy 1, 30, .inl (fun _ => 0))), (a_0, .inr (0, [.int 0, .int 0, .int 0, .int 0, .int 0, .int 0, .int 0, .int 0, .ref a_48, .ref a_49, .ref a_50, .ref a_51, .ref a_52, .ref a_53, .ref a_54, .ref a_55, .ref a_56, .ref a_57])), (a_48, .inl (cy 1, 9, .inl n1)), (a_49, .inl (cy 1, 9, .inl u)), (a_50, .inl (cy 1, 3, .inl (fun _ => 0))), (a_51, .inl (cy 1, 210, .inl (fun _ => 0))), (a_52, .inl (cy 1, 6, .inl (fun _ => 0))), (a_53, .inl (cy 1, 48, .inl (fun _ => 0))), (a_54, .inl (cy 1, 30, .inl (fun _ => 0))), (a_55, .inl (cy 1, 30, .inl (fun _ => 0))), (a_56, .inl (cy 1, 30, .inl (fun _ => 0))), (a_57, .inl (cy 1, 30, .inl (fun _ => 0)))]) [2, 13] [0, 1, 3, 4, 5, 6, 7, 8, 9, 10, 11, 12, 14, 15, 16, 17, 18, 19, 20, 21] (n := 22) (fun _ => rfl) (by decide +kernel) (by decide +kernel) rfl (fun _ => rfl) (wr := [(a_1, .inr (0, [.int 0, .int 0, .int 0, .int 0, .int 0, .int 0, .int 0, .int 0, .ref a_27, .ref a_28, .ref a_29, .ref a_30, .ref a_31, .ref a_32, .ref a_33, .ref a_34, .ref a_35, .ref a_36])), (a_27, .inl (cy 1, 9, .inl (fun _ => 0))), (a_29, .inl (cy 1, 3, .inl (fun _ => 0))), (a_30, .inl (cy 1, 210, .inl (fun _ => 0))), (a_31, .inl (cy 1, 6, .inl (fun _ => 0))), (a_32, .inl (cy 1, 48, .inl (fun _ => 0))), (a_33, .inl (cy 1, 30, .inl (fun _ => 0))), (a_34, .inl (cy 1, 30, .inl (fun _ => 0))), (a_35, .inl (cy 1, 30, .inl (fun _ => 0))), (a_36, .inl (cy 1, 30, .inl (fun _ => 0))), (a_0, .inr (0, [.int 0, .int 0, .int 0, .int 0, .int 0, .int 0, .int 0, .int 0, .ref a_48, .ref a_49, .ref a_50, .ref a_51, .ref a_52, .ref a_53, .ref a_54, .ref a_55, .ref a_56, .ref a_57])), (a_48, .inl (cy 1, 9, .inl n1)), (a_50, .inl (cy 1, 3, .inl (fun _ => 0))), (a_51, .inl (cy 1, 210, .inl (fun _ => 0))), (a_52, .inl (cy 1, 6, .inl (fun _ => 0))), (a_53, .inl (cy 1, 48, .inl (fun _ => 0))), (a_54, .inl (cy 1, 30, .inl (fun _ => 0))), (a_55, .inl (cy 1, 30, .inl (fun _ => 0))), (a_56, .inl (cy 1, 30, .inl (fun _ => 0))), (a_57, .inl (cy 1, 30, .inl (fun _ => 0)))]) rfl (fun _ => rfl) (fun _ => rfl) ?_
  clear hP hD hS
  clear H locs
  intro n3 H locs hw (hP : va_P G vwCl [(a_1, .inr (0, [.int 0, .int 0, .int 0, .int 0, .int 0, .int 0, .int 0, .int 0, .ref a_27, .ref a_28, .ref a_29, .ref a_30, .ref a_31, .ref a_32, .ref a_33, .ref a_34, .ref a_35, .ref a_36])), (a_27, .inl (cy 1, 9, .inl (fun _ => 0))), (a_28, .inl (cy 1, 9, .inl (fun _ => 0))), (a_29, .inl (cy 1, 3, .inl (fun _ => 0))), (a_30, .inl (cy 1, 210, .inl (fun _ => 0))), (a_31, .inl (cy 1, 6, .inl (fun _ => 0))), (a_32, .inl (cy 1, 48, .inl (fun _ => 0))), (a_33, .inl (cy 1, 30, .inl (fun _ => 0))), (a_34, .inl (cy 1, 30, .inl (fun _ => 0))), (a_35, .inl (cy 1, 30, .inl (fun _ => 0))), (a_36, .inl (cy 1, 30, .inl (fun _ => 0))), (a_0, .inr (0, [.int 0, .int 0, .int 0, .int 0, .int 0, .int 0, .int 0, .int 0, .ref a_48, .ref a_49, .ref a_50, .ref a_51, .ref a_52, .ref a_53, .ref a_54, .ref a_55, .ref a_56, .ref a_57])), (a_48, .inl (cy 1, 9, .inl n1)), (a_49, .inl (cy 1, 9, .inl n3)), (a_50, .inl (cy 1, 3, .inl (fun _ => 0))), (a_51, .inl (cy 1, 210, .inl (fun _ => 0))), (a_52, .inl (cy 1, 6, .inl (fun _ => 0))), (a_53, .inl (cy 1, 48, .inl (fun _ => 0))), (a_54, .inl (cy 1, 30, .inl (fun _ => 0))), (a_55, .inl (cy 1, 30, .inl (fun _ => 0))), (a_56, .inl (cy 1, 30, .inl (fun _ => 0))), (a_57, .inl (cy 1, 30, .inl (fun _ => 0)))] H) (hD : va_D A [(a_1, .inr (0, [.int 0, .int 0, .int 0, .int 0, .int 0, .int 0, .int 0, .int 0, .ref a_27, .ref a_28, .ref a_29, .ref a_30, .ref a_31, .ref a_32, .ref a_33, .ref a_34, .ref a_35, .ref a_36])), (a_27, .inl (cy 1, 9, .inl (fun _ => 0))), (a_28, .inl (cy 1, 9, .inl (fun _ => 0))), (a_29, .inl (cy 1, 3, .inl (fun _ => 0))), (a_30, .inl (cy 1, 210, .inl (fun _ => 0))), (a_31, .inl (cy 1, 6, .inl (fun _ => 0))), (a_32, .inl (cy 1, 48, .inl (fun _ => 0))), (a_33, .inl (cy 1, 30, .inl (fun _ => 0))), (a_34, .inl (cy 1, 30, .inl (fun _ => 0))), (a_35, .inl (cy 1, 30, .inl (fun _ => 0))), (a_36, .inl (cy 1, 30, .inl (fun _ => 0))), (a_0, .inr (0, [.int 0, .int 0, .int 0, .int 0, .int 0, .int 0, .int 0, .int 0, .ref a_48, .ref a_49, .ref a_50, .ref a_51, .ref a_52, .ref a_53, .ref a_54, .ref a_55, .ref a_56, .ref a_57])), (a_48, .inl (cy 1, 9, .inl n1)), (a_49, .inl (cy 1, 9, .inl n3)), (a_50, .inl (cy 1, 3, .inl (fun _ => 0))), (a_51, .inl (cy 1, 210, .inl (fun _ => 0))), (a_52, .inl (cy 1, 6, .inl (fun _ => 0))), (a_53, .inl (cy 1, 48, .inl (fun _ => 0))), (a_54, .inl (cy 1, 30, .inl (fun _ => 0))), (a_55, .inl (cy 1, 30, .inl (fun _ => 0))), (a_56, .inl (cy 1, 30, .inl (fun _ => 0))), (a_57, .inl (cy 1, 30, .inl (fun _ => 0)))]) hS
  have w4 := hw
  refine lv_aload_n hx hb dX0_copyFrom_86 rfl (lv_at hl 1 rfl) ?_
  refine va_get (D := G) (ci := 0) (v := .ref a_29) (C := RX0) (T := TX0) (N := 18) hx hb hts (mm_i inlX0) hown hK.1 hP 0 rfl rfl 10 (by decide) (mm_h hts mm_w74) (fun _ h9 => h9) rfl dX0_copyFrom_87 ?_
  refine lv_aload_n hx hb dX0_copyFrom_90 rfl (lv_at hl 0 rfl) ?_
  refine va_get (D := G) (ci := 0) (v := .ref a_50) (C := RX0) (T := TX0) (N := 18) hx hb hts (mm_i inlX0) hown hK.1 hP 11 rfl rfl 10 (by decide) (mm_h hts mm_w74) (fun _ h9 => h9) rfl dX0_copyFrom_91 ?_
  refine mm_finv (va_runS (As := [.ref a_29, .ref a_50]) (rest := []) ⟨hx, hb, hml, hown, hts⟩ (K282_X0_copyRow l G cy H.size a_29 a_50 ) (va_cwS 2 hts (mm_gS mm_w381 mm_w382 mm_w28 mm_w383) rfl rfl rfl hs_X0_copyRow ⟨by rw [hRf]; exact Nat.le_of_ble_eq_true rfl, by rw [hRl]; exact Nat.le_of_ble_eq_true rfl⟩) (mm_preS hK hP hD [3, 14] rfl rfl) rfl rfl hl.1 rfl (lv_room (Nat.le_of_ble_eq_true rfl)) dX0_copyFrom_94 ⟨by rw [hRc]; exact Nat.le_of_ble_eq_true rfl, by rw [hRs]; exact Nat.le_of_ble_eq_true rfl⟩) hP hD hS hA (fun u : (Nat → Int32) => [(a_1, .inr (0, [.int 0, .int 0, .int 0, .int 0, .int 0, .int 0, .int 0, .int 0, .ref a_27, .ref a_28, .ref a_29, .ref a_30, .ref a_31, .ref a_32, .ref a_33, .ref a_34, .ref a_35, .ref a_36])), (a_27, .inl (cy 1, 9, .inl (fun _ => 0))), (a_28, .inl (cy 1, 9, .inl (fun _ => 0))), (a_29, .inl (cy 1, 3, .inl (fun _ => 0))), (a_30, .inl (cy 1, 210, .inl (fun _ => 0))), (a_31, .inl (cy 1, 6, .inl (fun _ => 0))), (a_32, .inl (cy 1, 48, .inl (fun _ => 0))), (a_33, .inl (cy 1, 30, .inl (fun _ => 0))), (a_34, .inl (cy 1, 30, .inl (fun _ => 0))), (a_35, .inl (cy 1, 30, .inl (fun _ => 0))), (a_36, .inl (cy 1, 30, .inl (fun _ => 0))), (a_0, .inr (0, [.int 0, .int 0, .int 0, .int 0, .int 0, .int 0, .int 0, .int 0, .ref a_48, .ref a_49, .ref a_50, .ref a_51, .ref a_52, .ref a_53, .ref a_54, .ref a_55, .ref a_56, .ref a_57])), (a_48, .inl (cy 1, 9, .inl n1)), (a_49, .inl (cy 1, 9, .inl n3)), (a_50, .inl (cy 1, 3, .inl u)), (a_51, .inl (cy 1, 210, .inl (fun _ => 0))), (a_52, .inl (cy 1, 6, .inl (fun _ => 0))), (a_53, .inl (cy 1, 48, .inl (fun _ => 0))), (a_54, .inl (cy 1, 30, .inl (fun _ => 0))), (a_55, .inl (cy 1, 30, .inl (fun _ => 0))), (a_56, .inl (cy 1, 30, .inl (fun _ => 0))), (a_57, .inl (cy 1, 30, .inl (fun _ => 0)))]) [3, 14] [0, 1, 2, 4, 5, 6, 7, 8, 9, 10, 11, 12, 13, 15, 16, 17, 18, 19, 20, 21] (n := 22) (fun _ => rfl) (by decide +kernel) (by decide +kernel) rfl (fun _ => rfl) (wr := [(a_1, .inr (0, [.int 0, .int 0, .int 0, .int 0, .int 0, .int 0, .int 0, .int 0, .ref a_27, .ref a_28, .ref a_29, .ref a_30, .ref a_31, .ref a_32, .ref a_33, .ref a_34, .ref a_35, .ref a_36])), (a_27, .inl (cy 1, 9, .inl (fun _ => 0))), (a_28, .inl (cy 1, 9, .inl (fun _ => 0))), (a_30, .inl (cy 1, 210, .inl (fun _ => 0))), (a_31, .inl (cy 1, 6, .inl (fun _ => 0))), (a_32, .inl (cy 1, 48, .inl (fun _ => 0))), (a_33, .inl (cy 1, 30, .inl (fun _ => 0))), (a_34, .inl (cy 1, 30, .inl (fun _ => 0))), (a_35, .inl (cy 1, 30, .inl (fun _ => 0))), (a_36, .inl (cy 1, 30, .inl (fun _ => 0))), (a_0, .inr (0, [.int 0, .int 0, .int 0, .int 0, .int 0, .int 0, .int 0, .int 0, .ref a_48, .ref a_49, .ref a_50, .ref a_51, .ref a_52, .ref a_53, .ref a_54, .ref a_55, .ref a_56, .ref a_57])), (a_48, .inl (cy 1, 9, .inl n1)), (a_49, .inl (cy 1, 9, .inl n3)), (a_51, .inl (cy 1, 210, .inl (fun _ => 0))), (a_52, .inl (cy 1, 6, .inl (fun _ => 0))), (a_53, .inl (cy 1, 48, .inl (fun _ => 0))), (a_54, .inl (cy 1, 30, .inl (fun _ => 0))), (a_55, .inl (cy 1, 30, .inl (fun _ => 0))), (a_56, .inl (cy 1, 30, .inl (fun _ => 0))), (a_57, .inl (cy 1, 30, .inl (fun _ => 0)))]) rfl (fun _ => rfl) (fun _ => rfl) ?_
  clear hP hD hS
  clear H locs
  intro n5 H locs hw (hP : va_P G vwCl [(a_1, .inr (0, [.int 0, .int 0, .int 0, .int 0, .int 0, .int 0, .int 0, .int 0, .ref a_27, .ref a_28, .ref a_29, .ref a_30, .ref a_31, .ref a_32, .ref a_33, .ref a_34, .ref a_35, .ref a_36])), (a_27, .inl (cy 1, 9, .inl (fun _ => 0))), (a_28, .inl (cy 1, 9, .inl (fun _ => 0))), (a_29, .inl (cy 1, 3, .inl (fun _ => 0))), (a_30, .inl (cy 1, 210, .inl (fun _ => 0))), (a_31, .inl (cy 1, 6, .inl (fun _ => 0))), (a_32, .inl (cy 1, 48, .inl (fun _ => 0))), (a_33, .inl (cy 1, 30, .inl (fun _ => 0))), (a_34, .inl (cy 1, 30, .inl (fun _ => 0))), (a_35, .inl (cy 1, 30, .inl (fun _ => 0))), (a_36, .inl (cy 1, 30, .inl (fun _ => 0))), (a_0, .inr (0, [.int 0, .int 0, .int 0, .int 0, .int 0, .int 0, .int 0, .int 0, .ref a_48, .ref a_49, .ref a_50, .ref a_51, .ref a_52, .ref a_53, .ref a_54, .ref a_55, .ref a_56, .ref a_57])), (a_48, .inl (cy 1, 9, .inl n1)), (a_49, .inl (cy 1, 9, .inl n3)), (a_50, .inl (cy 1, 3, .inl n5)), (a_51, .inl (cy 1, 210, .inl (fun _ => 0))), (a_52, .inl (cy 1, 6, .inl (fun _ => 0))), (a_53, .inl (cy 1, 48, .inl (fun _ => 0))), (a_54, .inl (cy 1, 30, .inl (fun _ => 0))), (a_55, .inl (cy 1, 30, .inl (fun _ => 0))), (a_56, .inl (cy 1, 30, .inl (fun _ => 0))), (a_57, .inl (cy 1, 30, .inl (fun _ => 0)))] H) (hD : va_D A [(a_1, .inr (0, [.int 0, .int 0, .int 0, .int 0, .int 0, .int 0, .int 0, .int 0, .ref a_27, .ref a_28, .ref a_29, .ref a_30, .ref a_31, .ref a_32, .ref a_33, .ref a_34, .ref a_35, .ref a_36])), (a_27, .inl (cy 1, 9, .inl (fun _ => 0))), (a_28, .inl (cy 1, 9, .inl (fun _ => 0))), (a_29, .inl (cy 1, 3, .inl (fun _ => 0))), (a_30, .inl (cy 1, 210, .inl (fun _ => 0))), (a_31, .inl (cy 1, 6, .inl (fun _ => 0))), (a_32, .inl (cy 1, 48, .inl (fun _ => 0))), (a_33, .inl (cy 1, 30, .inl (fun _ => 0))), (a_34, .inl (cy 1, 30, .inl (fun _ => 0))), (a_35, .inl (cy 1, 30, .inl (fun _ => 0))), (a_36, .inl (cy 1, 30, .inl (fun _ => 0))), (a_0, .inr (0, [.int 0, .int 0, .int 0, .int 0, .int 0, .int 0, .int 0, .int 0, .ref a_48, .ref a_49, .ref a_50, .ref a_51, .ref a_52, .ref a_53, .ref a_54, .ref a_55, .ref a_56, .ref a_57])), (a_48, .inl (cy 1, 9, .inl n1)), (a_49, .inl (cy 1, 9, .inl n3)), (a_50, .inl (cy 1, 3, .inl n5)), (a_51, .inl (cy 1, 210, .inl (fun _ => 0))), (a_52, .inl (cy 1, 6, .inl (fun _ => 0))), (a_53, .inl (cy 1, 48, .inl (fun _ => 0))), (a_54, .inl (cy 1, 30, .inl (fun _ => 0))), (a_55, .inl (cy 1, 30, .inl (fun _ => 0))), (a_56, .inl (cy 1, 30, .inl (fun _ => 0))), (a_57, .inl (cy 1, 30, .inl (fun _ => 0)))]) hS
  have w6 := hw
  refine lv_aload_n hx hb dX0_copyFrom_97 rfl (lv_at hl 1 rfl) ?_
  refine va_get (D := G) (ci := 0) (v := .ref a_30) (C := RX0) (T := TX0) (N := 18) hx hb hts (mm_i inlX0) hown hK.1 hP 0 rfl rfl 11 (by decide) (mm_h hts mm_w75) (fun _ h9 => h9) rfl dX0_copyFrom_98 ?_
  refine lv_aload_n hx hb dX0_copyFrom_101 rfl (lv_at hl 0 rfl) ?_
  refine va_get (D := G) (ci := 0) (v := .ref a_51) (C := RX0) (T := TX0) (N := 18) hx hb hts (mm_i inlX0) hown hK.1 hP 11 rfl rfl 11 (by decide) (mm_h hts mm_w75) (fun _ h9 => h9) rfl dX0_copyFrom_102 ?_
  refine mm_finv (va_runS (As := [.ref a_30, .ref a_51]) (rest := []) ⟨hx, hb, hml, hown, hts⟩ (K46_X0_copyRow l G cy H.size a_30 a_51 ) (va_cwS 2 hts (mm_gS mm_w381 mm_w382 mm_w28 mm_w383) rfl rfl rfl hs_X0_copyRow ⟨by rw [hRf]; exact Nat.le_of_ble_eq_true rfl, by rw [hRl]; exact Nat.le_of_ble_eq_true rfl⟩) (mm_preS hK hP hD [4, 15] rfl rfl) rfl rfl hl.1 rfl (lv_room (Nat.le_of_ble_eq_true rfl)) dX0_copyFrom_105 ⟨by rw [hRc]; exact Nat.le_of_ble_eq_true rfl, by rw [hRs]; exact Nat.le_of_ble_eq_true rfl⟩) hP hD hS hA (fun u : (Nat → Int32) => [(a_1, .inr (0, [.int 0, .int 0, .int 0, .int 0, .int 0, .int 0, .int 0, .int 0, .ref a_27, .ref a_28, .ref a_29, .ref a_30, .ref a_31, .ref a_32, .ref a_33, .ref a_34, .ref a_35, .ref a_36])), (a_27, .inl (cy 1, 9, .inl (fun _ => 0))), (a_28, .inl (cy 1, 9, .inl (fun _ => 0))), (a_29, .inl (cy 1, 3, .inl (fun _ => 0))), (a_30, .inl (cy 1, 210, .inl (fun _ => 0))), (a_31, .inl (cy 1, 6, .inl (fun _ => 0))), (a_32, .inl (cy 1, 48, .inl (fun _ => 0))), (a_33, .inl (cy 1, 30, .inl (fun _ => 0))), (a_34, .inl (cy 1, 30, .inl (fun _ => 0))), (a_35, .inl (cy 1, 30, .inl (fun _ => 0))), (a_36, .inl (cy 1, 30, .inl (fun _ => 0))), (a_0, .inr (0, [.int 0, .int 0, .int 0, .int 0, .int 0, .int 0, .int 0, .int 0, .ref a_48, .ref a_49, .ref a_50, .ref a_51, .ref a_52, .ref a_53, .ref a_54, .ref a_55, .ref a_56, .ref a_57])), (a_48, .inl (cy 1, 9, .inl n1)), (a_49, .inl (cy 1, 9, .inl n3)), (a_50, .inl (cy 1, 3, .inl n5)), (a_51, .inl (cy 1, 210, .inl u)), (a_52, .inl (cy 1, 6, .inl (fun _ => 0))), (a_53, .inl (cy 1, 48, .inl (fun _ => 0))), (a_54, .inl (cy 1, 30, .inl (fun _ => 0))), (a_55, .inl (cy 1, 30, .inl (fun _ => 0))), (a_56, .inl (cy 1, 30, .inl (fun _ => 0))), (a_57, .inl (cy 1, 30, .inl (fun _ => 0)))]) [4, 15] [0, 1, 2, 3, 5, 6, 7, 8, 9, 10, 11, 12, 13, 14, 16, 17, 18, 19, 20, 21] (n := 22) (fun _ => rfl) (by decide +kernel) (by decide +kernel) rfl (fun _ => rfl) (wr := [(a_1, .inr (0, [.int 0, .int 0, .int 0, .int 0, .int 0, .int 0, .int 0, .int 0, .ref a_27, .ref a_28, .ref a_29, .ref a_30, .ref a_31, .ref a_32, .ref a_33, .ref a_34, .ref a_35, .ref a_36])), (a_27, .inl (cy 1, 9, .inl (fun _ => 0))), (a_28, .inl (cy 1, 9, .inl (fun _ => 0))), (a_29, .inl (cy 1, 3, .inl (fun _ => 0))), (a_31, .inl (cy 1, 6, .inl (fun _ => 0))), (a_32, .inl (cy 1, 48, .inl (fun _ => 0))), (a_33, .inl (cy 1, 30, .inl (fun _ => 0))), (a_34, .inl (cy 1, 30, .inl (fun _ => 0))), (a_35, .inl (cy 1, 30, .inl (fun _ => 0))), (a_36, .inl (cy 1, 30, .inl (fun _ => 0))), (a_0, .inr (0, [.int 0, .int 0, .int 0, .int 0, .int 0, .int 0, .int 0, .int 0, .ref a_48, .ref a_49, .ref a_50, .ref a_51, .ref a_52, .ref a_53, .ref a_54, .ref a_55, .ref a_56, .ref a_57])), (a_48, .inl (cy 1, 9, .inl n1)), (a_49, .inl (cy 1, 9, .inl n3)), (a_50, .inl (cy 1, 3, .inl n5)), (a_52, .inl (cy 1, 6, .inl (fun _ => 0))), (a_53, .inl (cy 1, 48, .inl (fun _ => 0))), (a_54, .inl (cy 1, 30, .inl (fun _ => 0))), (a_55, .inl (cy 1, 30, .inl (fun _ => 0))), (a_56, .inl (cy 1, 30, .inl (fun _ => 0))), (a_57, .inl (cy 1, 30, .inl (fun _ => 0)))]) rfl (fun _ => rfl) (fun _ => rfl) ?_
  clear hP hD hS
  clear H locs
  intro n7 H locs hw (hP : va_P G vwCl [(a_1, .inr (0, [.int 0, .int 0, .int 0, .int 0, .int 0, .int 0, .int 0, .int 0, .ref a_27, .ref a_28, .ref a_29, .ref a_30, .ref a_31, .ref a_32, .ref a_33, .ref a_34, .ref a_35, .ref a_36])), (a_27, .inl (cy 1, 9, .inl (fun _ => 0))), (a_28, .inl (cy 1, 9, .inl (fun _ => 0))), (a_29, .inl (cy 1, 3, .inl (fun _ => 0))), (a_30, .inl (cy 1, 210, .inl (fun _ => 0))), (a_31, .inl (cy 1, 6, .inl (fun _ => 0))), (a_32, .inl (cy 1, 48, .inl (fun _ => 0))), (a_33, .inl (cy 1, 30, .inl (fun _ => 0))), (a_34, .inl (cy 1, 30, .inl (fun _ => 0))), (a_35, .inl (cy 1, 30, .inl (fun _ => 0))), (a_36, .inl (cy 1, 30, .inl (fun _ => 0))), (a_0, .inr (0, [.int 0, .int 0, .int 0, .int 0, .int 0, .int 0, .int 0, .int 0, .ref a_48, .ref a_49, .ref a_50, .ref a_51, .ref a_52, .ref a_53, .ref a_54, .ref a_55, .ref a_56, .ref a_57])), (a_48, .inl (cy 1, 9, .inl n1)), (a_49, .inl (cy 1, 9, .inl n3)), (a_50, .inl (cy 1, 3, .inl n5)), (a_51, .inl (cy 1, 210, .inl n7)), (a_52, .inl (cy 1, 6, .inl (fun _ => 0))), (a_53, .inl (cy 1, 48, .inl (fun _ => 0))), (a_54, .inl (cy 1, 30, .inl (fun _ => 0))), (a_55, .inl (cy 1, 30, .inl (fun _ => 0))), (a_56, .inl (cy 1, 30, .inl (fun _ => 0))), (a_57, .inl (cy 1, 30, .inl (fun _ => 0)))] H) (hD : va_D A [(a_1, .inr (0, [.int 0, .int 0, .int 0, .int 0, .int 0, .int 0, .int 0, .int 0, .ref a_27, .ref a_28, .ref a_29, .ref a_30, .ref a_31, .ref a_32, .ref a_33, .ref a_34, .ref a_35, .ref a_36])), (a_27, .inl (cy 1, 9, .inl (fun _ => 0))), (a_28, .inl (cy 1, 9, .inl (fun _ => 0))), (a_29, .inl (cy 1, 3, .inl (fun _ => 0))), (a_30, .inl (cy 1, 210, .inl (fun _ => 0))), (a_31, .inl (cy 1, 6, .inl (fun _ => 0))), (a_32, .inl (cy 1, 48, .inl (fun _ => 0))), (a_33, .inl (cy 1, 30, .inl (fun _ => 0))), (a_34, .inl (cy 1, 30, .inl (fun _ => 0))), (a_35, .inl (cy 1, 30, .inl (fun _ => 0))), (a_36, .inl (cy 1, 30, .inl (fun _ => 0))), (a_0, .inr (0, [.int 0, .int 0, .int 0, .int 0, .int 0, .int 0, .int 0, .int 0, .ref a_48, .ref a_49, .ref a_50, .ref a_51, .ref a_52, .ref a_53, .ref a_54, .ref a_55, .ref a_56, .ref a_57])), (a_48, .inl (cy 1, 9, .inl n1)), (a_49, .inl (cy 1, 9, .inl n3)), (a_50, .inl (cy 1, 3, .inl n5)), (a_51, .inl (cy 1, 210, .inl n7)), (a_52, .inl (cy 1, 6, .inl (fun _ => 0))), (a_53, .inl (cy 1, 48, .inl (fun _ => 0))), (a_54, .inl (cy 1, 30, .inl (fun _ => 0))), (a_55, .inl (cy 1, 30, .inl (fun _ => 0))), (a_56, .inl (cy 1, 30, .inl (fun _ => 0))), (a_57, .inl (cy 1, 30, .inl (fun _ => 0)))]) hS
  have w8 := hw
  refine lv_aload_n hx hb dX0_copyFrom_108 rfl (lv_at hl 1 rfl) ?_
  refine va_get (D := G) (ci := 0) (v := .ref a_31) (C := RX0) (T := TX0) (N := 18) hx hb hts (mm_i inlX0) hown hK.1 hP 0 rfl rfl 12 (by decide) (mm_h hts mm_w76) (fun _ h9 => h9) rfl dX0_copyFrom_109 ?_
  refine lv_aload_n hx hb dX0_copyFrom_112 rfl (lv_at hl 0 rfl) ?_
  refine va_get (D := G) (ci := 0) (v := .ref a_52) (C := RX0) (T := TX0) (N := 18) hx hb hts (mm_i inlX0) hown hK.1 hP 11 rfl rfl 12 (by decide) (mm_h hts mm_w76) (fun _ h9 => h9) rfl dX0_copyFrom_113 ?_
  refine mm_finv (va_runS (As := [.ref a_31, .ref a_52]) (rest := []) ⟨hx, hb, hml, hown, hts⟩ (K283_X0_copyRow l G cy H.size a_31 a_52 ) (va_cwS 2 hts (mm_gS mm_w381 mm_w382 mm_w28 mm_w383) rfl rfl rfl hs_X0_copyRow ⟨by rw [hRf]; exact Nat.le_of_ble_eq_true rfl, by rw [hRl]; exact Nat.le_of_ble_eq_true rfl⟩) (mm_preS hK hP hD [5, 16] rfl rfl) rfl rfl hl.1 rfl (lv_room (Nat.le_of_ble_eq_true rfl)) dX0_copyFrom_116 ⟨by rw [hRc]; exact Nat.le_of_ble_eq_true rfl, by rw [hRs]; exact Nat.le_of_ble_eq_true rfl⟩) hP hD hS hA (fun u : (Nat → Int32) => [(a_1, .inr (0, [.int 0, .int 0, .int 0, .int 0, .int 0, .int 0, .int 0, .int 0, .ref a_27, .ref a_28, .ref a_29, .ref a_30, .ref a_31, .ref a_32, .ref a_33, .ref a_34, .ref a_35, .ref a_36])), (a_27, .inl (cy 1, 9, .inl (fun _ => 0))), (a_28, .inl (cy 1, 9, .inl (fun _ => 0))), (a_29, .inl (cy 1, 3, .inl (fun _ => 0))), (a_30, .inl (cy 1, 210, .inl (fun _ => 0))), (a_31, .inl (cy 1, 6, .inl (fun _ => 0))), (a_32, .inl (cy 1, 48, .inl (fun _ => 0))), (a_33, .inl (cy 1, 30, .inl (fun _ => 0))), (a_34, .inl (cy 1, 30, .inl (fun _ => 0))), (a_35, .inl (cy 1, 30, .inl (fun _ => 0))), (a_36, .inl (cy 1, 30, .inl (fun _ => 0))), (a_0, .inr (0, [.int 0, .int 0, .int 0, .int 0, .int 0, .int 0, .int 0, .int 0, .ref a_48, .ref a_49, .ref a_50, .ref a_51, .ref a_52, .ref a_53, .ref a_54, .ref a_55, .ref a_56, .ref a_57])), (a_48, .inl (cy 1, 9, .inl n1)), (a_49, .inl (cy 1, 9, .inl n3)), (a_50, .inl (cy 1, 3, .inl n5)), (a_51, .inl (cy 1, 210, .inl n7)), (a_52, .inl (cy 1, 6, .inl u)), (a_53, .inl (cy 1, 48, .inl (fun _ => 0))), (a_54, .inl (cy 1, 30, .inl (fun _ => 0))), (a_55, .inl (cy 1, 30, .inl (fun _ => 0))), (a_56, .inl (cy 1, 30, .inl (fun _ => 0))), (a_57, .inl (cy 1, 30, .inl (fun _ => 0)))]) [5, 16] [0, 1, 2, 3, 4, 6, 7, 8, 9, 10, 11, 12, 13, 14, 15, 17, 18, 19, 20, 21] (n := 22) (fun _ => rfl) (by decide +kernel) (by decide +kernel) rfl (fun _ => rfl) (wr := [(a_1, .inr (0, [.int 0, .int 0, .int 0, .int 0, .int 0, .int 0, .int 0, .int 0, .ref a_27, .ref a_28, .ref a_29, .ref a_30, .ref a_31, .ref a_32, .ref a_33, .ref a_34, .ref a_35, .ref a_36])), (a_27, .inl (cy 1, 9, .inl (fun _ => 0))), (a_28, .inl (cy 1, 9, .inl (fun _ => 0))), (a_29, .inl (cy 1, 3, .inl (fun _ => 0))), (a_30, .inl (cy 1, 210, .inl (fun _ => 0))), (a_32, .inl (cy 1, 48, .inl (fun _ => 0))), (a_33, .inl (cy 1, 30, .inl (fun _ => 0))), (a_34, .inl (cy 1, 30, .inl (fun _ => 0))), (a_35, .inl (cy 1, 30, .inl (fun _ => 0))), (a_36, .inl (cy 1, 30, .inl (fun _ => 0))), (a_0, .inr (0, [.int 0, .int 0, .int 0, .int 0, .int 0, .int 0, .int 0, .int 0, .ref a_48, .ref a_49, .ref a_50, .ref a_51, .ref a_52, .ref a_53, .ref a_54, .ref a_55, .ref a_56, .ref a_57])), (a_48, .inl (cy 1, 9, .inl n1)), (a_49, .inl (cy 1, 9, .inl n3)), (a_50, .inl (cy 1, 3, .inl n5)), (a_51, .inl (cy 1, 210, .inl n7)), (a_53, .inl (cy 1, 48, .inl (fun _ => 0))), (a_54, .inl (cy 1, 30, .inl (fun _ => 0))), (a_55, .inl (cy 1, 30, .inl (fun _ => 0))), (a_56, .inl (cy 1, 30, .inl (fun _ => 0))), (a_57, .inl (cy 1, 30, .inl (fun _ => 0)))]) rfl (fun _ => rfl) (fun _ => rfl) ?_
  clear hP hD hS
  clear H locs
  intro n9 H locs hw (hP : va_P G vwCl [(a_1, .inr (0, [.int 0, .int 0, .int 0, .int 0, .int 0, .int 0, .int 0, .int 0, .ref a_27, .ref a_28, .ref a_29, .ref a_30, .ref a_31, .ref a_32, .ref a_33, .ref a_34, .ref a_35, .ref a_36])), (a_27, .inl (cy 1, 9, .inl (fun _ => 0))), (a_28, .inl (cy 1, 9, .inl (fun _ => 0))), (a_29, .inl (cy 1, 3, .inl (fun _ => 0))), (a_30, .inl (cy 1, 210, .inl (fun _ => 0))), (a_31, .inl (cy 1, 6, .inl (fun _ => 0))), (a_32, .inl (cy 1, 48, .inl (fun _ => 0))), (a_33, .inl (cy 1, 30, .inl (fun _ => 0))), (a_34, .inl (cy 1, 30, .inl (fun _ => 0))), (a_35, .inl (cy 1, 30, .inl (fun _ => 0))), (a_36, .inl (cy 1, 30, .inl (fun _ => 0))), (a_0, .inr (0, [.int 0, .int 0, .int 0, .int 0, .int 0, .int 0, .int 0, .int 0, .ref a_48, .ref a_49, .ref a_50, .ref a_51, .ref a_52, .ref a_53, .ref a_54, .ref a_55, .ref a_56, .ref a_57])), (a_48, .inl (cy 1, 9, .inl n1)), (a_49, .inl (cy 1, 9, .inl n3)), (a_50, .inl (cy 1, 3, .inl n5)), (a_51, .inl (cy 1, 210, .inl n7)), (a_52, .inl (cy 1, 6, .inl n9)), (a_53, .inl (cy 1, 48, .inl (fun _ => 0))), (a_54, .inl (cy 1, 30, .inl (fun _ => 0))), (a_55, .inl (cy 1, 30, .inl (fun _ => 0))), (a_56, .inl (cy 1, 30, .inl (fun _ => 0))), (a_57, .inl (cy 1, 30, .inl (fun _ => 0)))] H) (hD : va_D A [(a_1, .inr (0, [.int 0, .int 0, .int 0, .int 0, .int 0, .int 0, .int 0, .int 0, .ref a_27, .ref a_28, .ref a_29, .ref a_30, .ref a_31, .ref a_32, .ref a_33, .ref a_34, .ref a_35, .ref a_36])), (a_27, .inl (cy 1, 9, .inl (fun _ => 0))), (a_28, .inl (cy 1, 9, .inl (fun _ => 0))), (a_29, .inl (cy 1, 3, .inl (fun _ => 0))), (a_30, .inl (cy 1, 210, .inl (fun _ => 0))), (a_31, .inl (cy 1, 6, .inl (fun _ => 0))), (a_32, .inl (cy 1, 48, .inl (fun _ => 0))), (a_33, .inl (cy 1, 30, .inl (fun _ => 0))), (a_34, .inl (cy 1, 30, .inl (fun _ => 0))), (a_35, .inl (cy 1, 30, .inl (fun _ => 0))), (a_36, .inl (cy 1, 30, .inl (fun _ => 0))), (a_0, .inr (0, [.int 0, .int 0, .int 0, .int 0, .int 0, .int 0, .int 0, .int 0, .ref a_48, .ref a_49, .ref a_50, .ref a_51, .ref a_52, .ref a_53, .ref a_54, .ref a_55, .ref a_56, .ref a_57])), (a_48, .inl (cy 1, 9, .inl n1)), (a_49, .inl (cy 1, 9, .inl n3)), (a_50, .inl (cy 1, 3, .inl n5)), (a_51, .inl (cy 1, 210, .inl n7)), (a_52, .inl (cy 1, 6, .inl n9)), (a_53, .inl (cy 1, 48, .inl (fun _ => 0))), (a_54, .inl (cy 1, 30, .inl (fun _ => 0))), (a_55, .inl (cy 1, 30, .inl (fun _ => 0))), (a_56, .inl (cy 1, 30, .inl (fun _ => 0))), (a_57, .inl (cy 1, 30, .inl (fun _ => 0)))]) hS
  have w10 := hw
  refine lv_aload_n hx hb dX0_copyFrom_119 rfl (lv_at hl 1 rfl) ?_
  refine va_get (D := G) (ci := 0) (v := .ref a_32) (C := RX0) (T := TX0) (N := 18) hx hb hts (mm_i inlX0) hown hK.1 hP 0 rfl rfl 13 (by decide) (mm_h hts mm_w77) (fun _ h9 => h9) rfl dX0_copyFrom_120 ?_
  refine lv_aload_n hx hb dX0_copyFrom_123 rfl (lv_at hl 0 rfl) ?_
  refine va_get (D := G) (ci := 0) (v := .ref a_53) (C := RX0) (T := TX0) (N := 18) hx hb hts (mm_i inlX0) hown hK.1 hP 11 rfl rfl 13 (by decide) (mm_h hts mm_w77) (fun _ h9 => h9) rfl dX0_copyFrom_124 ?_
  refine mm_finv (va_runS (As := [.ref a_32, .ref a_53]) (rest := []) ⟨hx, hb, hml, hown, hts⟩ (K48_X0_copyRow l G cy H.size a_32 a_53 ) (va_cwS 2 hts (mm_gS mm_w381 mm_w382 mm_w28 mm_w383) rfl rfl rfl hs_X0_copyRow ⟨by rw [hRf]; exact Nat.le_of_ble_eq_true rfl, by rw [hRl]; exact Nat.le_of_ble_eq_true rfl⟩) (mm_preS hK hP hD [6, 17] rfl rfl) rfl rfl hl.1 rfl (lv_room (Nat.le_of_ble_eq_true rfl)) dX0_copyFrom_127 ⟨by rw [hRc]; exact Nat.le_of_ble_eq_true rfl, by rw [hRs]; exact Nat.le_of_ble_eq_true rfl⟩) hP hD hS hA (fun u : (Nat → Int32) => [(a_1, .inr (0, [.int 0, .int 0, .int 0, .int 0, .int 0, .int 0, .int 0, .int 0, .ref a_27, .ref a_28, .ref a_29, .ref a_30, .ref a_31, .ref a_32, .ref a_33, .ref a_34, .ref a_35, .ref a_36])), (a_27, .inl (cy 1, 9, .inl (fun _ => 0))), (a_28, .inl (cy 1, 9, .inl (fun _ => 0))), (a_29, .inl (cy 1, 3, .inl (fun _ => 0))), (a_30, .inl (cy 1, 210, .inl (fun _ => 0))), (a_31, .inl (cy 1, 6, .inl (fun _ => 0))), (a_32, .inl (cy 1, 48, .inl (fun _ => 0))), (a_33, .inl (cy 1, 30, .inl (fun _ => 0))), (a_34, .inl (cy 1, 30, .inl (fun _ => 0))), (a_35, .inl (cy 1, 30, .inl (fun _ => 0))), (a_36, .inl (cy 1, 30, .inl (fun _ => 0))), (a_0, .inr (0, [.int 0, .int 0, .int 0, .int 0, .int 0, .int 0, .int 0, .int 0, .ref a_48, .ref a_49, .ref a_50, .ref a_51, .ref a_52, .ref a_53, .ref a_54, .ref a_55, .ref a_56, .ref a_57])), (a_48, .inl (cy 1, 9, .inl n1)), (a_49, .inl (cy 1, 9, .inl n3)), (a_50, .inl (cy 1, 3, .inl n5)), (a_51, .inl (cy 1, 210, .inl n7)), (a_52, .inl (cy 1, 6, .inl n9)), (a_53, .inl (cy 1, 48, .inl u)), (a_54, .inl (cy 1, 30, .inl (fun _ => 0))), (a_55, .inl (cy 1, 30, .inl (fun _ => 0))), (a_56, .inl (cy 1, 30, .inl (fun _ => 0))), (a_57, .inl (cy 1, 30, .inl (fun _ => 0)))]) [6, 17] [0, 1, 2, 3, 4, 5, 7, 8, 9, 10, 11, 12, 13, 14, 15, 16, 18, 19, 20, 21] (n := 22) (fun _ => rfl) (by decide +kernel) (by decide +kernel) rfl (fun _ => rfl) (wr := [(a_1, .inr (0, [.int 0, .int 0, .int 0, .int 0, .int 0, .int 0, .int 0, .int 0, .ref a_27, .ref a_28, .ref a_29, .ref a_30, .ref a_31, .ref a_32, .ref a_33, .ref a_34, .ref a_35, .ref a_36])), (a_27, .inl (cy 1, 9, .inl (fun _ => 0))), (a_28, .inl (cy 1, 9, .inl (fun _ => 0))), (a_29, .inl (cy 1, 3, .inl (fun _ => 0))), (a_30, .inl (cy 1, 210, .inl (fun _ => 0))), (a_31, .inl (cy 1, 6, .inl (fun _ => 0))), (a_33, .inl (cy 1, 30, .inl (fun _ => 0))), (a_34, .inl (cy 1, 30, .inl (fun _ => 0))), (a_35, .inl (cy 1, 30, .inl (fun _ => 0))), (a_36, .inl (cy 1, 30, .inl (fun _ => 0))), (a_0, .inr (0, [.int 0, .int 0, .int 0, .int 0, .int 0, .int 0, .int 0, .int 0, .ref a_48, .ref a_49, .ref a_50, .ref a_51, .ref a_52, .ref a_53, .ref a_54, .ref a_55, .ref a_56, .ref a_57])), (a_48, .inl (cy 1, 9, .inl n1)), (a_49, .inl (cy 1, 9, .inl n3)), (a_50, .inl (cy 1, 3, .inl n5)), (a_51, .inl (cy 1, 210, .inl n7)), (a_52, .inl (cy 1, 6, .inl n9)), (a_54, .inl (cy 1, 30, .inl (fun _ => 0))), (a_55, .inl (cy 1, 30, .inl (fun _ => 0))), (a_56, .inl (cy 1, 30, .inl (fun _ => 0))), (a_57, .inl (cy 1, 30, .inl (fun _ => 0)))]) rfl (fun _ => rfl) (fun _ => rfl) ?_
  clear hP hD hS
  clear H locs
  intro n11 H locs hw (hP : va_P G vwCl [(a_1, .inr (0, [.int 0, .int 0, .int 0, .int 0, .int 0, .int 0, .int 0, .int 0, .ref a_27, .ref a_28, .ref a_29, .ref a_30, .ref a_31, .ref a_32, .ref a_33, .ref a_34, .ref a_35, .ref a_36])), (a_27, .inl (cy 1, 9, .inl (fun _ => 0))), (a_28, .inl (cy 1, 9, .inl (fun _ => 0))), (a_29, .inl (cy 1, 3, .inl (fun _ => 0))), (a_30, .inl (cy 1, 210, .inl (fun _ => 0))), (a_31, .inl (cy 1, 6, .inl (fun _ => 0))), (a_32, .inl (cy 1, 48, .inl (fun _ => 0))), (a_33, .inl (cy 1, 30, .inl (fun _ => 0))), (a_34, .inl (cy 1, 30, .inl (fun _ => 0))), (a_35, .inl (cy 1, 30, .inl (fun _ => 0))), (a_36, .inl (cy 1, 30, .inl (fun _ => 0))), (a_0, .inr (0, [.int 0, .int 0, .int 0, .int 0, .int 0, .int 0, .int 0, .int 0, .ref a_48, .ref a_49, .ref a_50, .ref a_51, .ref a_52, .ref a_53, .ref a_54, .ref a_55, .ref a_56, .ref a_57])), (a_48, .inl (cy 1, 9, .inl n1)), (a_49, .inl (cy 1, 9, .inl n3)), (a_50, .inl (cy 1, 3, .inl n5)), (a_51, .inl (cy 1, 210, .inl n7)), (a_52, .inl (cy 1, 6, .inl n9)), (a_53, .inl (cy 1, 48, .inl n11)), (a_54, .inl (cy 1, 30, .inl (fun _ => 0))), (a_55, .inl (cy 1, 30, .inl (fun _ => 0))), (a_56, .inl (cy 1, 30, .inl (fun _ => 0))), (a_57, .inl (cy 1, 30, .inl (fun _ => 0)))] H) (hD : va_D A [(a_1, .inr (0, [.int 0, .int 0, .int 0, .int 0, .int 0, .int 0, .int 0, .int 0, .ref a_27, .ref a_28, .ref a_29, .ref a_30, .ref a_31, .ref a_32, .ref a_33, .ref a_34, .ref a_35, .ref a_36])), (a_27, .inl (cy 1, 9, .inl (fun _ => 0))), (a_28, .inl (cy 1, 9, .inl (fun _ => 0))), (a_29, .inl (cy 1, 3, .inl (fun _ => 0))), (a_30, .inl (cy 1, 210, .inl (fun _ => 0))), (a_31, .inl (cy 1, 6, .inl (fun _ => 0))), (a_32, .inl (cy 1, 48, .inl (fun _ => 0))), (a_33, .inl (cy 1, 30, .inl (fun _ => 0))), (a_34, .inl (cy 1, 30, .inl (fun _ => 0))), (a_35, .inl (cy 1, 30, .inl (fun _ => 0))), (a_36, .inl (cy 1, 30, .inl (fun _ => 0))), (a_0, .inr (0, [.int 0, .int 0, .int 0, .int 0, .int 0, .int 0, .int 0, .int 0, .ref a_48, .ref a_49, .ref a_50, .ref a_51, .ref a_52, .ref a_53, .ref a_54, .ref a_55, .ref a_56, .ref a_57])), (a_48, .inl (cy 1, 9, .inl n1)), (a_49, .inl (cy 1, 9, .inl n3)), (a_50, .inl (cy 1, 3, .inl n5)), (a_51, .inl (cy 1, 210, .inl n7)), (a_52, .inl (cy 1, 6, .inl n9)), (a_53, .inl (cy 1, 48, .inl n11)), (a_54, .inl (cy 1, 30, .inl (fun _ => 0))), (a_55, .inl (cy 1, 30, .inl (fun _ => 0))), (a_56, .inl (cy 1, 30, .inl (fun _ => 0))), (a_57, .inl (cy 1, 30, .inl (fun _ => 0)))]) hS
  have w12 := hw
  refine lv_aload_n hx hb dX0_copyFrom_130 rfl (lv_at hl 1 rfl) ?_
  refine va_get (D := G) (ci := 0) (v := .ref a_33) (C := RX0) (T := TX0) (N := 18) hx hb hts (mm_i inlX0) hown hK.1 hP 0 rfl rfl 14 (by decide) (mm_h hts mm_w78) (fun _ h9 => h9) rfl dX0_copyFrom_131 ?_
  refine lv_aload_n hx hb dX0_copyFrom_134 rfl (lv_at hl 0 rfl) ?_
  refine va_get (D := G) (ci := 0) (v := .ref a_54) (C := RX0) (T := TX0) (N := 18) hx hb hts (mm_i inlX0) hown hK.1 hP 11 rfl rfl 14 (by decide) (mm_h hts mm_w78) (fun _ h9 => h9) rfl dX0_copyFrom_135 ?_
  refine mm_finv (va_runS (As := [.ref a_33, .ref a_54]) (rest := []) ⟨hx, hb, hml, hown, hts⟩ (K50_X0_copyRow l G cy H.size a_33 a_54 ) (va_cwS 2 hts (mm_gS mm_w381 mm_w382 mm_w28 mm_w383) rfl rfl rfl hs_X0_copyRow ⟨by rw [hRf]; exact Nat.le_of_ble_eq_true rfl, by rw [hRl]; exact Nat.le_of_ble_eq_true rfl⟩) (mm_preS hK hP hD [7, 18] rfl rfl) rfl rfl hl.1 rfl (lv_room (Nat.le_of_ble_eq_true rfl)) dX0_copyFrom_138 ⟨by rw [hRc]; exact Nat.le_of_ble_eq_true rfl, by rw [hRs]; exact Nat.le_of_ble_eq_true rfl⟩) hP hD hS hA (fun u : (Nat → Int32) => [(a_1, .inr (0, [.int 0, .int 0, .int 0, .int 0, .int 0, .int 0, .int 0, .int 0, .ref a_27, .ref a_28, .ref a_29, .ref a_30, .ref a_31, .ref a_32, .ref a_33, .ref a_34, .ref a_35, .ref a_36])), (a_27, .inl (cy 1, 9, .inl (fun _ => 0))), (a_28, .inl (cy 1, 9, .inl (fun _ => 0))), (a_29, .inl (cy 1, 3, .inl (fun _ => 0))), (a_30, .inl (cy 1, 210, .inl (fun _ => 0))), (a_31, .inl (cy 1, 6, .inl (fun _ => 0))), (a_32, .inl (cy 1, 48, .inl (fun _ => 0))), (a_33, .inl (cy 1, 30, .inl (fun _ => 0))), (a_34, .inl (cy 1, 30, .inl (fun _ => 0))), (a_35, .inl (cy 1, 30, .inl (fun _ => 0))), (a_36, .inl (cy 1, 30, .inl (fun _ => 0))), (a_0, .inr (0, [.int 0, .int 0, .int 0, .int 0, .int 0, .int 0, .int 0, .int 0, .ref a_48, .ref a_49, .ref a_50, .ref a_51, .ref a_52, .ref a_53, .ref a_54, .ref a_55, .ref a_56, .ref a_57])), (a_48, .inl (cy 1, 9, .inl n1)), (a_49, .inl (cy 1, 9, .inl n3)), (a_50, .inl (cy 1, 3, .inl n5)), (a_51, .inl (cy 1, 210, .inl n7)), (a_52, .inl (cy 1, 6, .inl n9)), (a_53, .inl (cy 1, 48, .inl n11)), (a_54, .inl (cy 1, 30, .inl u)), (a_55, .inl (cy 1, 30, .inl (fun _ => 0))), (a_56, .inl (cy 1, 30, .inl (fun _ => 0))), (a_57, .inl (cy 1, 30, .inl (fun _ => 0)))]) [7, 18] [0, 1, 2, 3, 4, 5, 6, 8, 9, 10, 11, 12, 13, 14, 15, 16, 17, 19, 20, 21] (n := 22) (fun _ => rfl) (by decide +kernel) (by decide +kernel) rfl (fun _ => rfl) (wr := [(a_1, .inr (0, [.int 0, .int 0, .int 0, .int 0, .int 0, .int 0, .int 0, .int 0, .ref a_27, .ref a_28, .ref a_29, .ref a_30, .ref a_31, .ref a_32, .ref a_33, .ref a_34, .ref a_35, .ref a_36])), (a_27, .inl (cy 1, 9, .inl (fun _ => 0))), (a_28, .inl (cy 1, 9, .inl (fun _ => 0))), (a_29, .inl (cy 1, 3, .inl (fun _ => 0))), (a_30, .inl (cy 1, 210, .inl (fun _ => 0))), (a_31, .inl (cy 1, 6, .inl (fun _ => 0))), (a_32, .inl (cy 1, 48, .inl (fun _ => 0))), (a_34, .inl (cy 1, 30, .inl (fun _ => 0))), (a_35, .inl (cy 1, 30, .inl (fun _ => 0))), (a_36, .inl (cy 1, 30, .inl (fun _ => 0))), (a_0, .inr (0, [.int 0, .int 0, .int 0, .int 0, .int 0, .int 0, .int 0, .int 0, .ref a_48, .ref a_49, .ref a_50, .ref a_51, .ref a_52, .ref a_53, .ref a_54, .ref a_55, .ref a_56, .ref a_57])), (a_48, .inl (cy 1, 9, .inl n1)), (a_49, .inl (cy 1, 9, .inl n3)), (a_50, .inl (cy 1, 3, .inl n5)), (a_51, .inl (cy 1, 210, .inl n7)), (a_52, .inl (cy 1, 6, .inl n9)), (a_53, .inl (cy 1, 48, .inl n11)), (a_55, .inl (cy 1, 30, .inl (fun _ => 0))), (a_56, .inl (cy 1, 30, .inl (fun _ => 0))), (a_57, .inl (cy 1, 30, .inl (fun _ => 0)))]) rfl (fun _ => rfl) (fun _ => rfl) ?_
  clear hP hD hS
  clear H locs
  intro n13 H locs hw (hP : va_P G vwCl [(a_1, .inr (0, [.int 0, .int 0, .int 0, .int 0, .int 0, .int 0, .int 0, .int 0, .ref a_27, .ref a_28, .ref a_29, .ref a_30, .ref a_31, .ref a_32, .ref a_33, .ref a_34, .ref a_35, .ref a_36])), (a_27, .inl (cy 1, 9, .inl (fun _ => 0))), (a_28, .inl (cy 1, 9, .inl (fun _ => 0))), (a_29, .inl (cy 1, 3, .inl (fun _ => 0))), (a_30, .inl (cy 1, 210, .inl (fun _ => 0))), (a_31, .inl (cy 1, 6, .inl (fun _ => 0))), (a_32, .inl (cy 1, 48, .inl (fun _ => 0))), (a_33, .inl (cy 1, 30, .inl (fun _ => 0))), (a_34, .inl (cy 1, 30, .inl (fun _ => 0))), (a_35, .inl (cy 1, 30, .inl (fun _ => 0))), (a_36, .inl (cy 1, 30, .inl (fun _ => 0))), (a_0, .inr (0, [.int 0, .int 0, .int 0, .int 0, .int 0, .int 0, .int 0, .int 0, .ref a_48, .ref a_49, .ref a_50, .ref a_51, .ref a_52, .ref a_53, .ref a_54, .ref a_55, .ref a_56, .ref a_57])), (a_48, .inl (cy 1, 9, .inl n1)), (a_49, .inl (cy 1, 9, .inl n3)), (a_50, .inl (cy 1, 3, .inl n5)), (a_51, .inl (cy 1, 210, .inl n7)), (a_52, .inl (cy 1, 6, .inl n9)), (a_53, .inl (cy 1, 48, .inl n11)), (a_54, .inl (cy 1, 30, .inl n13)), (a_55, .inl (cy 1, 30, .inl (fun _ => 0))), (a_56, .inl (cy 1, 30, .inl (fun _ => 0))), (a_57, .inl (cy 1, 30, .inl (fun _ => 0)))] H) (hD : va_D A [(a_1, .inr (0, [.int 0, .int 0, .int 0, .int 0, .int 0, .int 0, .int 0, .int 0, .ref a_27, .ref a_28, .ref a_29, .ref a_30, .ref a_31, .ref a_32, .ref a_33, .ref a_34, .ref a_35, .ref a_36])), (a_27, .inl (cy 1, 9, .inl (fun _ => 0))), (a_28, .inl (cy 1, 9, .inl (fun _ => 0))), (a_29, .inl (cy 1, 3, .inl (fun _ => 0))), (a_30, .inl (cy 1, 210, .inl (fun _ => 0))), (a_31, .inl (cy 1, 6, .inl (fun _ => 0))), (a_32, .inl (cy 1, 48, .inl (fun _ => 0))), (a_33, .inl (cy 1, 30, .inl (fun _ => 0))), (a_34, .inl (cy 1, 30, .inl (fun _ => 0))), (a_35, .inl (cy 1, 30, .inl (fun _ => 0))), (a_36, .inl (cy 1, 30, .inl (fun _ => 0))), (a_0, .inr (0, [.int 0, .int 0, .int 0, .int 0, .int 0, .int 0, .int 0, .int 0, .ref a_48, .ref a_49, .ref a_50, .ref a_51, .ref a_52, .ref a_53, .ref a_54, .ref a_55, .ref a_56, .ref a_57])), (a_48, .inl (cy 1, 9, .inl n1)), (a_49, .inl (cy 1, 9, .inl n3)), (a_50, .inl (cy 1, 3, .inl n5)), (a_51, .inl (cy 1, 210, .inl n7)), (a_52, .inl (cy 1, 6, .inl n9)), (a_53, .inl (cy 1, 48, .inl n11)), (a_54, .inl (cy 1, 30, .inl n13)), (a_55, .inl (cy 1, 30, .inl (fun _ => 0))), (a_56, .inl (cy 1, 30, .inl (fun _ => 0))), (a_57, .inl (cy 1, 30, .inl (fun _ => 0)))]) hS
  have w14 := hw
  refine lv_aload_n hx hb dX0_copyFrom_141 rfl (lv_at hl 1 rfl) ?_
  refine va_get (D := G) (ci := 0) (v := .ref a_34) (C := RX0) (T := TX0) (N := 18) hx hb hts (mm_i inlX0) hown hK.1 hP 0 rfl rfl 15 (by decide) (mm_h hts mm_w79) (fun _ h9 => h9) rfl dX0_copyFrom_142 ?_
  refine lv_aload_n hx hb dX0_copyFrom_145 rfl (lv_at hl 0 rfl) ?_
  refine va_get (D := G) (ci := 0) (v := .ref a_55) (C := RX0) (T := TX0) (N := 18) hx hb hts (mm_i inlX0) hown hK.1 hP 11 rfl rfl 15 (by decide) (mm_h hts mm_w79) (fun _ h9 => h9) rfl dX0_copyFrom_146 ?_
  refine mm_finv (va_runS (As := [.ref a_34, .ref a_55]) (rest := []) ⟨hx, hb, hml, hown, hts⟩ (K50_X0_copyRow l G cy H.size a_34 a_55 ) (va_cwS 2 hts (mm_gS mm_w381 mm_w382 mm_w28 mm_w383) rfl rfl rfl hs_X0_copyRow ⟨by rw [hRf]; exact Nat.le_of_ble_eq_true rfl, by rw [hRl]; exact Nat.le_of_ble_eq_true rfl⟩) (mm_preS hK hP hD [8, 19] rfl rfl) rfl rfl hl.1 rfl (lv_room (Nat.le_of_ble_eq_true rfl)) dX0_copyFrom_149 ⟨by rw [hRc]; exact Nat.le_of_ble_eq_true rfl, by rw [hRs]; exact Nat.le_of_ble_eq_true rfl⟩) hP hD hS hA (fun u : (Nat → Int32) => [(a_1, .inr (0, [.int 0, .int 0, .int 0, .int 0, .int 0, .int 0, .int 0, .int 0, .ref a_27, .ref a_28, .ref a_29, .ref a_30, .ref a_31, .ref a_32, .ref a_33, .ref a_34, .ref a_35, .ref a_36])), (a_27, .inl (cy 1, 9, .inl (fun _ => 0))), (a_28, .inl (cy 1, 9, .inl (fun _ => 0))), (a_29, .inl (cy 1, 3, .inl (fun _ => 0))), (a_30, .inl (cy 1, 210, .inl (fun _ => 0))), (a_31, .inl (cy 1, 6, .inl (fun _ => 0))), (a_32, .inl (cy 1, 48, .inl (fun _ => 0))), (a_33, .inl (cy 1, 30, .inl (fun _ => 0))), (a_34, .inl (cy 1, 30, .inl (fun _ => 0))), (a_35, .inl (cy 1, 30, .inl (fun _ => 0))), (a_36, .inl (cy 1, 30, .inl (fun _ => 0))), (a_0, .inr (0, [.int 0, .int 0, .int 0, .int 0, .int 0, .int 0, .int 0, .int 0, .ref a_48, .ref a_49, .ref a_50, .ref a_51, .ref a_52, .ref a_53, .ref a_54, .ref a_55, .ref a_56, .ref a_57])), (a_48, .inl (cy 1, 9, .inl n1)), (a_49, .inl (cy 1, 9, .inl n3)), (a_50, .inl (cy 1, 3, .inl n5)), (a_51, .inl (cy 1, 210, .inl n7)), (a_52, .inl (cy 1, 6, .inl n9)), (a_53, .inl (cy 1, 48, .inl n11)), (a_54, .inl (cy 1, 30, .inl n13)), (a_55, .inl (cy 1, 30, .inl u)), (a_56, .inl (cy 1, 30, .inl (fun _ => 0))), (a_57, .inl (cy 1, 30, .inl (fun _ => 0)))]) [8, 19] [0, 1, 2, 3, 4, 5, 6, 7, 9, 10, 11, 12, 13, 14, 15, 16, 17, 18, 20, 21] (n := 22) (fun _ => rfl) (by decide +kernel) (by decide +kernel) rfl (fun _ => rfl) (wr := [(a_1, .inr (0, [.int 0, .int 0, .int 0, .int 0, .int 0, .int 0, .int 0, .int 0, .ref a_27, .ref a_28, .ref a_29, .ref a_30, .ref a_31, .ref a_32, .ref a_33, .ref a_34, .ref a_35, .ref a_36])), (a_27, .inl (cy 1, 9, .inl (fun _ => 0))), (a_28, .inl (cy 1, 9, .inl (fun _ => 0))), (a_29, .inl (cy 1, 3, .inl (fun _ => 0))), (a_30, .inl (cy 1, 210, .inl (fun _ => 0))), (a_31, .inl (cy 1, 6, .inl (fun _ => 0))), (a_32, .inl (cy 1, 48, .inl (fun _ => 0))), (a_33, .inl (cy 1, 30, .inl (fun _ => 0))), (a_35, .inl (cy 1, 30, .inl (fun _ => 0))), (a_36, .inl (cy 1, 30, .inl (fun _ => 0))), (a_0, .inr (0, [.int 0, .int 0, .int 0, .int 0, .int 0, .int 0, .int 0, .int 0, .ref a_48, .ref a_49, .ref a_50, .ref a_51, .ref a_52, .ref a_53, .ref a_54, .ref a_55, .ref a_56, .ref a_57])), (a_48, .inl (cy 1, 9, .inl n1)), (a_49, .inl (cy 1, 9, .inl n3)), (a_50, .inl (cy 1, 3, .inl n5)), (a_51, .inl (cy 1, 210, .inl n7)), (a_52, .inl (cy 1, 6, .inl n9)), (a_53, .inl (cy 1, 48, .inl n11)), (a_54, .inl (cy 1, 30, .inl n13)), (a_56, .inl (cy 1, 30, .inl (fun _ => 0))), (a_57, .inl (cy 1, 30, .inl (fun _ => 0)))]) rfl (fun _ => rfl) (fun _ => rfl) ?_
  clear hP hD hS
  clear H locs
  intro n15 H locs hw (hP : va_P G vwCl [(a_1, .inr (0, [.int 0, .int 0, .int 0, .int 0, .int 0, .int 0, .int 0, .int 0, .ref a_27, .ref a_28, .ref a_29, .ref a_30, .ref a_31, .ref a_32, .ref a_33, .ref a_34, .ref a_35, .ref a_36])), (a_27, .inl (cy 1, 9, .inl (fun _ => 0))), (a_28, .inl (cy 1, 9, .inl (fun _ => 0))), (a_29, .inl (cy 1, 3, .inl (fun _ => 0))), (a_30, .inl (cy 1, 210, .inl (fun _ => 0))), (a_31, .inl (cy 1, 6, .inl (fun _ => 0))), (a_32, .inl (cy 1, 48, .inl (fun _ => 0))), (a_33, .inl (cy 1, 30, .inl (fun _ => 0))), (a_34, .inl (cy 1, 30, .inl (fun _ => 0))), (a_35, .inl (cy 1, 30, .inl (fun _ => 0))), (a_36, .inl (cy 1, 30, .inl (fun _ => 0))), (a_0, .inr (0, [.int 0, .int 0, .int 0, .int 0, .int 0, .int 0, .int 0, .int 0, .ref a_48, .ref a_49, .ref a_50, .ref a_51, .ref a_52, .ref a_53, .ref a_54, .ref a_55, .ref a_56, .ref a_57])), (a_48, .inl (cy 1, 9, .inl n1)), (a_49, .inl (cy 1, 9, .inl n3)), (a_50, .inl (cy 1, 3, .inl n5)), (a_51, .inl (cy 1, 210, .inl n7)), (a_52, .inl (cy 1, 6, .inl n9)), (a_53, .inl (cy 1, 48, .inl n11)), (a_54, .inl (cy 1, 30, .inl n13)), (a_55, .inl (cy 1, 30, .inl n15)), (a_56, .inl (cy 1, 30, .inl (fun _ => 0))), (a_57, .inl (cy 1, 30, .inl (fun _ => 0)))] H) (hD : va_D A [(a_1, .inr (0, [.int 0, .int 0, .int 0, .int 0, .int 0, .int 0, .int 0, .int 0, .ref a_27, .ref a_28, .ref a_29, .ref a_30, .ref a_31, .ref a_32, .ref a_33, .ref a_34, .ref a_35, .ref a_36])), (a_27, .inl (cy 1, 9, .inl (fun _ => 0))), (a_28, .inl (cy 1, 9, .inl (fun _ => 0))), (a_29, .inl (cy 1, 3, .inl (fun _ => 0))), (a_30, .inl (cy 1, 210, .inl (fun _ => 0))), (a_31, .inl (cy 1, 6, .inl (fun _ => 0))), (a_32, .inl (cy 1, 48, .inl (fun _ => 0))), (a_33, .inl (cy 1, 30, .inl (fun _ => 0))), (a_34, .inl (cy 1, 30, .inl (fun _ => 0))), (a_35, .inl (cy 1, 30, .inl (fun _ => 0))), (a_36, .inl (cy 1, 30, .inl (fun _ => 0))), (a_0, .inr (0, [.int 0, .int 0, .int 0, .int 0, .int 0, .int 0, .int 0, .int 0, .ref a_48, .ref a_49, .ref a_50, .ref a_51, .ref a_52, .ref a_53, .ref a_54, .ref a_55, .ref a_56, .ref a_57])), (a_48, .inl (cy 1, 9, .inl n1)), (a_49, .inl (cy 1, 9, .inl n3)), (a_50, .inl (cy 1, 3, .inl n5)), (a_51, .inl (cy 1, 210, .inl n7)), (a_52, .inl (cy 1, 6, .inl n9)), (a_53, .inl (cy 1, 48, .inl n11)), (a_54, .inl (cy 1, 30, .inl n13)), (a_55, .inl (cy 1, 30, .inl n15)), (a_56, .inl (cy 1, 30, .inl (fun _ => 0))), (a_57, .inl (cy 1, 30, .inl (fun _ => 0)))]) hS
  have w16 := hw
  refine lv_aload_n hx hb dX0_copyFrom_152 rfl (lv_at hl 1 rfl) ?_
  refine va_get (D := G) (ci := 0) (v := .ref a_35) (C := RX0) (T := TX0) (N := 18) hx hb hts (mm_i inlX0) hown hK.1 hP 0 rfl rfl 16 (by decide) (mm_h hts mm_w80) (fun _ h9 => h9) rfl dX0_copyFrom_153 ?_
  refine lv_aload_n hx hb dX0_copyFrom_156 rfl (lv_at hl 0 rfl) ?_
  refine va_get (D := G) (ci := 0) (v := .ref a_56) (C := RX0) (T := TX0) (N := 18) hx hb hts (mm_i inlX0) hown hK.1 hP 11 rfl rfl 16 (by decide) (mm_h hts mm_w80) (fun _ h9 => h9) rfl dX0_copyFrom_157 ?_
  refine mm_finv (va_runS (As := [.ref a_35, .ref a_56]) (rest := []) ⟨hx, hb, hml, hown, hts⟩ (K50_X0_copyRow l G cy H.size a_35 a_56 ) (va_cwS 2 hts (mm_gS mm_w381 mm_w382 mm_w28 mm_w383) rfl rfl rfl hs_X0_copyRow ⟨by rw [hRf]; exact Nat.le_of_ble_eq_true rfl, by rw [hRl]; exact Nat.le_of_ble_eq_true rfl⟩) (mm_preS hK hP hD [9, 20] rfl rfl) rfl rfl hl.1 rfl (lv_room (Nat.le_of_ble_eq_true rfl)) dX0_copyFrom_160 ⟨by rw [hRc]; exact Nat.le_of_ble_eq_true rfl, by rw [hRs]; exact Nat.le_of_ble_eq_true rfl⟩) hP hD hS hA (fun u : (Nat → Int32) => [(a_1, .inr (0, [.int 0, .int 0, .int 0, .int 0, .int 0, .int 0, .int 0, .int 0, .ref a_27, .ref a_28, .ref a_29, .ref a_30, .ref a_31, .ref a_32, .ref a_33, .ref a_34, .ref a_35, .ref a_36])), (a_27, .inl (cy 1, 9, .inl (fun _ => 0))), (a_28, .inl (cy 1, 9, .inl (fun _ => 0))), (a_29, .inl (cy 1, 3, .inl (fun _ => 0))), (a_30, .inl (cy 1, 210, .inl (fun _ => 0))), (a_31, .inl (cy 1, 6, .inl (fun _ => 0))), (a_32, .inl (cy 1, 48, .inl (fun _ => 0))), (a_33, .inl (cy 1, 30, .inl (fun _ => 0))), (a_34, .inl (cy 1, 30, .inl (fun _ => 0))), (a_35, .inl (cy 1, 30, .inl (fun _ => 0))), (a_36, .inl (cy 1, 30, .inl (fun _ => 0))), (a_0, .inr (0, [.int 0, .int 0, .int 0, .int 0, .int 0, .int 0, .int 0, .int 0, .ref a_48, .ref a_49, .ref a_50, .ref a_51, .ref a_52, .ref a_53, .ref a_54, .ref a_55, .ref a_56, .ref a_57])), (a_48, .inl (cy 1, 9, .inl n1)), (a_49, .inl (cy 1, 9, .inl n3)), (a_50, .inl (cy 1, 3, .inl n5)), (a_51, .inl (cy 1, 210, .inl n7)), (a_52, .inl (cy 1, 6, .inl n9)), (a_53, .inl (cy 1, 48, .inl n11)), (a_54, .inl (cy 1, 30, .inl n13)), (a_55, .inl (cy 1, 30, .inl n15)), (a_56, .inl (cy 1, 30, .inl u)), (a_57, .inl (cy 1, 30, .inl (fun _ => 0)))]) [9, 20] [0, 1, 2, 3, 4, 5, 6, 7, 8, 10, 11, 12, 13, 14, 15, 16, 17, 18, 19, 21] (n := 22) (fun _ => rfl) (by decide +kernel) (by decide +kernel) rfl (fun _ => rfl) (wr := [(a_1, .inr (0, [.int 0, .int 0, .int 0, .int 0, .int 0, .int 0, .int 0, .int 0, .ref a_27, .ref a_28, .ref a_29, .ref a_30, .ref a_31, .ref a_32, .ref a_33, .ref a_34, .ref a_35, .ref a_36])), (a_27, .inl (cy 1, 9, .inl (fun _ => 0))), (a_28, .inl (cy 1, 9, .inl (fun _ => 0))), (a_29, .inl (cy 1, 3, .inl (fun _ => 0))), (a_30, .inl (cy 1, 210, .inl (fun _ => 0))), (a_31, .inl (cy 1, 6, .inl (fun _ => 0))), (a_32, .inl (cy 1, 48, .inl (fun _ => 0))), (a_33, .inl (cy 1, 30, .inl (fun _ => 0))), (a_34, .inl (cy 1, 30, .inl (fun _ => 0))), (a_36, .inl (cy 1, 30, .inl (fun _ => 0))), (a_0, .inr (0, [.int 0, .int 0, .int 0, .int 0, .int 0, .int 0, .int 0, .int 0, .ref a_48, .ref a_49, .ref a_50, .ref a_51, .ref a_52, .ref a_53, .ref a_54, .ref a_55, .ref a_56, .ref a_57])), (a_48, .inl (cy 1, 9, .inl n1)), (a_49, .inl (cy 1, 9, .inl n3)), (a_50, .inl (cy 1, 3, .inl n5)), (a_51, .inl (cy 1, 210, .inl n7)), (a_52, .inl (cy 1, 6, .inl n9)), (a_53, .inl (cy 1, 48, .inl n11)), (a_54, .inl (cy 1, 30, .inl n13)), (a_55, .inl (cy 1, 30, .inl n15)), (a_57, .inl (cy 1, 30, .inl (fun _ => 0)))]) rfl (fun _ => rfl) (fun _ => rfl) ?_
  clear hP hD hS
  clear H locs
  intro n17 H locs hw (hP : va_P G vwCl [(a_1, .inr (0, [.int 0, .int 0, .int 0, .int 0, .int 0, .int 0, .int 0, .int 0, .ref a_27, .ref a_28, .ref a_29, .ref a_30, .ref a_31, .ref a_32, .ref a_33, .ref a_34, .ref a_35, .ref a_36])), (a_27, .inl (cy 1, 9, .inl (fun _ => 0))), (a_28, .inl (cy 1, 9, .inl (fun _ => 0))), (a_29, .inl (cy 1, 3, .inl (fun _ => 0))), (a_30, .inl (cy 1, 210, .inl (fun _ => 0))), (a_31, .inl (cy 1, 6, .inl (fun _ => 0))), (a_32, .inl (cy 1, 48, .inl (fun _ => 0))), (a_33, .inl (cy 1, 30, .inl (fun _ => 0))), (a_34, .inl (cy 1, 30, .inl (fun _ => 0))), (a_35, .inl (cy 1, 30, .inl (fun _ => 0))), (a_36, .inl (cy 1, 30, .inl (fun _ => 0))), (a_0, .inr (0, [.int 0, .int 0, .int 0, .int 0, .int 0, .int 0, .int 0, .int 0, .ref a_48, .ref a_49, .ref a_50, .ref a_51, .ref a_52, .ref a_53, .ref a_54, .ref a_55, .ref a_56, .ref a_57])), (a_48, .inl (cy 1, 9, .inl n1)), (a_49, .inl (cy 1, 9, .inl n3)), (a_50, .inl (cy 1, 3, .inl n5)), (a_51, .inl (cy 1, 210, .inl n7)), (a_52, .inl (cy 1, 6, .inl n9)), (a_53, .inl (cy 1, 48, .inl n11)), (a_54, .inl (cy 1, 30, .inl n13)), (a_55, .inl (cy 1, 30, .inl n15)), (a_56, .inl (cy 1, 30, .inl n17)), (a_57, .inl (cy 1, 30, .inl (fun _ => 0)))] H) (hD : va_D A [(a_1, .inr (0, [.int 0, .int 0, .int 0, .int 0, .int 0, .int 0, .int 0, .int 0, .ref a_27, .ref a_28, .ref a_29, .ref a_30, .ref a_31, .ref a_32, .ref a_33, .ref a_34, .ref a_35, .ref a_36])), (a_27, .inl (cy 1, 9, .inl (fun _ => 0))), (a_28, .inl (cy 1, 9, .inl (fun _ => 0))), (a_29, .inl (cy 1, 3, .inl (fun _ => 0))), (a_30, .inl (cy 1, 210, .inl (fun _ => 0))), (a_31, .inl (cy 1, 6, .inl (fun _ => 0))), (a_32, .inl (cy 1, 48, .inl (fun _ => 0))), (a_33, .inl (cy 1, 30, .inl (fun _ => 0))), (a_34, .inl (cy 1, 30, .inl (fun _ => 0))), (a_35, .inl (cy 1, 30, .inl (fun _ => 0))), (a_36, .inl (cy 1, 30, .inl (fun _ => 0))), (a_0, .inr (0, [.int 0, .int 0, .int 0, .int 0, .int 0, .int 0, .int 0, .int 0, .ref a_48, .ref a_49, .ref a_50, .ref a_51, .ref a_52, .ref a_53, .ref a_54, .ref a_55, .ref a_56, .ref a_57])), (a_48, .inl (cy 1, 9, .inl n1)), (a_49, .inl (cy 1, 9, .inl n3)), (a_50, .inl (cy 1, 3, .inl n5)), (a_51, .inl (cy 1, 210, .inl n7)), (a_52, .inl (cy 1, 6, .inl n9)), (a_53, .inl (cy 1, 48, .inl n11)), (a_54, .inl (cy 1, 30, .inl n13)), (a_55, .inl (cy 1, 30, .inl n15)), (a_56, .inl (cy 1, 30, .inl n17)), (a_57, .inl (cy 1, 30, .inl (fun _ => 0)))]) hS
  have w18 := hw
  refine lv_aload_n hx hb dX0_copyFrom_163 rfl (lv_at hl 1 rfl) ?_
  refine va_get (D := G) (ci := 0) (v := .ref a_36) (C := RX0) (T := TX0) (N := 18) hx hb hts (mm_i inlX0) hown hK.1 hP 0 rfl rfl 17 (by decide) (mm_h hts mm_w81) (fun _ h9 => h9) rfl dX0_copyFrom_164 ?_
  refine lv_aload_n hx hb dX0_copyFrom_167 rfl (lv_at hl 0 rfl) ?_
  refine va_get (D := G) (ci := 0) (v := .ref a_57) (C := RX0) (T := TX0) (N := 18) hx hb hts (mm_i inlX0) hown hK.1 hP 11 rfl rfl 17 (by decide) (mm_h hts mm_w81) (fun _ h9 => h9) rfl dX0_copyFrom_168 ?_
  refine mm_finv (va_runS (As := [.ref a_36, .ref a_57]) (rest := []) ⟨hx, hb, hml, hown, hts⟩ (K50_X0_copyRow l G cy H.size a_36 a_57 ) (va_cwS 2 hts (mm_gS mm_w381 mm_w382 mm_w28 mm_w383) rfl rfl rfl hs_X0_copyRow ⟨by rw [hRf]; exact Nat.le_of_ble_eq_true rfl, by rw [hRl]; exact Nat.le_of_ble_eq_true rfl⟩) (mm_preS hK hP hD [10, 21] rfl rfl) rfl rfl hl.1 rfl (lv_room (Nat.le_of_ble_eq_true rfl)) dX0_copyFrom_171 ⟨by rw [hRc]; exact Nat.le_of_ble_eq_true rfl, by rw [hRs]; exact Nat.le_of_ble_eq_true rfl⟩) hP hD hS hA (fun u : (Nat → Int32) => [(a_1, .inr (0, [.int 0, .int 0, .int 0, .int 0, .int 0, .int 0, .int 0, .int 0, .ref a_27, .ref a_28, .ref a_29, .ref a_30, .ref a_31, .ref a_32, .ref a_33, .ref a_34, .ref a_35, .ref a_36])), (a_27, .inl (cy 1, 9, .inl (fun _ => 0))), (a_28, .inl (cy 1, 9, .inl (fun _ => 0))), (a_29, .inl (cy 1, 3, .inl (fun _ => 0))), (a_30, .inl (cy 1, 210, .inl (fun _ => 0))), (a_31, .inl (cy 1, 6, .inl (fun _ => 0))), (a_32, .inl (cy 1, 48, .inl (fun _ => 0))), (a_33, .inl (cy 1, 30, .inl (fun _ => 0))), (a_34, .inl (cy 1, 30, .inl (fun _ => 0))), (a_35, .inl (cy 1, 30, .inl (fun _ => 0))), (a_36, .inl (cy 1, 30, .inl (fun _ => 0))), (a_0, .inr (0, [.int 0, .int 0, .int 0, .int 0, .int 0, .int 0, .int 0, .int 0, .ref a_48, .ref a_49, .ref a_50, .ref a_51, .ref a_52, .ref a_53, .ref a_54, .ref a_55, .ref a_56, .ref a_57])), (a_48, .inl (cy 1, 9, .inl n1)), (a_49, .inl (cy 1, 9, .inl n3)), (a_50, .inl (cy 1, 3, .inl n5)), (a_51, .inl (cy 1, 210, .inl n7)), (a_52, .inl (cy 1, 6, .inl n9)), (a_53, .inl (cy 1, 48, .inl n11)), (a_54, .inl (cy 1, 30, .inl n13)), (a_55, .inl (cy 1, 30, .inl n15)), (a_56, .inl (cy 1, 30, .inl n17)), (a_57, .inl (cy 1, 30, .inl u))]) [10, 21] [0, 1, 2, 3, 4, 5, 6, 7, 8, 9, 11, 12, 13, 14, 15, 16, 17, 18, 19, 20] (n := 22) (fun _ => rfl) (by decide +kernel) (by decide +kernel) rfl (fun _ => rfl) (wr := [(a_1, .inr (0, [.int 0, .int 0, .int 0, .int 0, .int 0, .int 0, .int 0, .int 0, .ref a_27, .ref a_28, .ref a_29, .ref a_30, .ref a_31, .ref a_32, .ref a_33, .ref a_34, .ref a_35, .ref a_36])), (a_27, .inl (cy 1, 9, .inl (fun _ => 0))), (a_28, .inl (cy 1, 9, .inl (fun _ => 0))), (a_29, .inl (cy 1, 3, .inl (fun _ => 0))), (a_30, .inl (cy 1, 210, .inl (fun _ => 0))), (a_31, .inl (cy 1, 6, .inl (fun _ => 0))), (a_32, .inl (cy 1, 48, .inl (fun _ => 0))), (a_33, .inl (cy 1, 30, .inl (fun _ => 0))), (a_34, .inl (cy 1, 30, .inl (fun _ => 0))), (a_35, .inl (cy 1, 30, .inl (fun _ => 0))), (a_0, .inr (0, [.int 0, .int 0, .int 0, .int 0, .int 0, .int 0, .int 0, .int 0, .ref a_48, .ref a_49, .ref a_50, .ref a_51, .ref a_52, .ref a_53, .ref a_54, .ref a_55, .ref a_56, .ref a_57])), (a_48, .inl (cy 1, 9, .inl n1)), (a_49, .inl (cy 1, 9, .inl n3)), (a_50, .inl (cy 1, 3, .inl n5)), (a_51, .inl (cy 1, 210, .inl n7)), (a_52, .inl (cy 1, 6, .inl n9)), (a_53, .inl (cy 1, 48, .inl n11)), (a_54, .inl (cy 1, 30, .inl n13)), (a_55, .inl (cy 1, 30, .inl n15)), (a_56, .inl (cy 1, 30, .inl n17))]) rfl (fun _ => rfl) (fun _ => rfl) ?_
  clear hP hD hS
  clear H locs
  intro n19 H locs hw (hP : va_P G vwCl [(a_1, .inr (0, [.int 0, .int 0, .int 0, .int 0, .int 0, .int 0, .int 0, .int 0, .ref a_27, .ref a_28, .ref a_29, .ref a_30, .ref a_31, .ref a_32, .ref a_33, .ref a_34, .ref a_35, .ref a_36])), (a_27, .inl (cy 1, 9, .inl (fun _ => 0))), (a_28, .inl (cy 1, 9, .inl (fun _ => 0))), (a_29, .inl (cy 1, 3, .inl (fun _ => 0))), (a_30, .inl (cy 1, 210, .inl (fun _ => 0))), (a_31, .inl (cy 1, 6, .inl (fun _ => 0))), (a_32, .inl (cy 1, 48, .inl (fun _ => 0))), (a_33, .inl (cy 1, 30, .inl (fun _ => 0))), (a_34, .inl (cy 1, 30, .inl (fun _ => 0))), (a_35, .inl (cy 1, 30, .inl (fun _ => 0))), (a_36, .inl (cy 1, 30, .inl (fun _ => 0))), (a_0, .inr (0, [.int 0, .int 0, .int 0, .int 0, .int 0, .int 0, .int 0, .int 0, .ref a_48, .ref a_49, .ref a_50, .ref a_51, .ref a_52, .ref a_53, .ref a_54, .ref a_55, .ref a_56, .ref a_57])), (a_48, .inl (cy 1, 9, .inl n1)), (a_49, .inl (cy 1, 9, .inl n3)), (a_50, .inl (cy 1, 3, .inl n5)), (a_51, .inl (cy 1, 210, .inl n7)), (a_52, .inl (cy 1, 6, .inl n9)), (a_53, .inl (cy 1, 48, .inl n11)), (a_54, .inl (cy 1, 30, .inl n13)), (a_55, .inl (cy 1, 30, .inl n15)), (a_56, .inl (cy 1, 30, .inl n17)), (a_57, .inl (cy 1, 30, .inl n19))] H) (hD : va_D A [(a_1, .inr (0, [.int 0, .int 0, .int 0, .int 0, .int 0, .int 0, .int 0, .int 0, .ref a_27, .ref a_28, .ref a_29, .ref a_30, .ref a_31, .ref a_32, .ref a_33, .ref a_34, .ref a_35, .ref a_36])), (a_27, .inl (cy 1, 9, .inl (fun _ => 0))), (a_28, .inl (cy 1, 9, .inl (fun _ => 0))), (a_29, .inl (cy 1, 3, .inl (fun _ => 0))), (a_30, .inl (cy 1, 210, .inl (fun _ => 0))), (a_31, .inl (cy 1, 6, .inl (fun _ => 0))), (a_32, .inl (cy 1, 48, .inl (fun _ => 0))), (a_33, .inl (cy 1, 30, .inl (fun _ => 0))), (a_34, .inl (cy 1, 30, .inl (fun _ => 0))), (a_35, .inl (cy 1, 30, .inl (fun _ => 0))), (a_36, .inl (cy 1, 30, .inl (fun _ => 0))), (a_0, .inr (0, [.int 0, .int 0, .int 0, .int 0, .int 0, .int 0, .int 0, .int 0, .ref a_48, .ref a_49, .ref a_50, .ref a_51, .ref a_52, .ref a_53, .ref a_54, .ref a_55, .ref a_56, .ref a_57])), (a_48, .inl (cy 1, 9, .inl n1)), (a_49, .inl (cy 1, 9, .inl n3)), (a_50, .inl (cy 1, 3, .inl n5)), (a_51, .inl (cy 1, 210, .inl n7)), (a_52, .inl (cy 1, 6, .inl n9)), (a_53, .inl (cy 1, 48, .inl n11)), (a_54, .inl (cy 1, 30, .inl n13)), (a_55, .inl (cy 1, 30, .inl n15)), (a_56, .inl (cy 1, 30, .inl n17)), (a_57, .inl (cy 1, 30, .inl n19))]) hS
  have w20 := hw
  subst hAe
  rw [hQ]
  exact W.vret hx hb hr (fun t ht hW => ⟨⟨(n1, n3, n5, n7, n9, n11, n13, n15, n17, n19), rfl, ⟨w2, w4, w6, w8, w10, w12, w14, w16, w18, w20⟩, by rw [ht]; exact hP, hK.warm hW, hD⟩, hS.F ht⟩) hS.2.2 dX0_copyFrom_174

set_option maxHeartbeats 4000000 in
set_option maxRecDepth 100000 in
theorem K285_X0_copyFrom (l : Launch) (G : va_G) (cy : Nat → ClassId) (sz : Nat) (a_0 : Nat) (a_1 : Nat) (a_27 : Nat) (a_28 : Nat) (a_29 : Nat) (a_30 : Nat) (a_31 : Nat) (a_32 : Nat) (a_33 : Nat) (a_34 : Nat) (a_35 : Nat) (a_36 : Nat) (a_58 : Nat) (a_59 : Nat) (a_60 : Nat) (a_61 : Nat) (a_62 : Nat) (a_63 : Nat) (a_64 : Nat) (a_65 : Nat) (a_66 : Nat) (a_67 : Nat)   : mm_CV l yX0_copyFrom (mm_ws yX0_copyFrom cX0_copyFrom 2 (none)) ({ frames := 2, cells := 0, slots := 0, locals := 85 } : Room) G cy sz [(a_1, .inr (0, [.int 0, .int 0, .int 0, .int 0, .int 0, .int 0, .int 0, .int 0, .ref a_27, .ref a_28, .ref a_29, .ref a_30, .ref a_31, .ref a_32, .ref a_33, .ref a_34, .ref a_35, .ref a_36])), (a_27, .inl (cy 1, 9, .inl (fun _ => 0))), (a_28, .inl (cy 1, 9, .inl (fun _ => 0))), (a_29, .inl (cy 1, 3, .inl (fun _ => 0))), (a_30, .inl (cy 1, 210, .inl (fun _ => 0))), (a_31, .inl (cy 1, 6, .inl (fun _ => 0))), (a_32, .inl (cy 1, 48, .inl (fun _ => 0))), (a_33, .inl (cy 1, 30, .inl (fun _ => 0))), (a_34, .inl (cy 1, 30, .inl (fun _ => 0))), (a_35, .inl (cy 1, 30, .inl (fun _ => 0))), (a_36, .inl (cy 1, 30, .inl (fun _ => 0))), (a_0, .inr (0, [.int 0, .int 0, .int 0, .int 0, .int 0, .int 0, .int 0, .int 0, .ref a_58, .ref a_59, .ref a_60, .ref a_61, .ref a_62, .ref a_63, .ref a_64, .ref a_65, .ref a_66, .ref a_67])), (a_58, .inl (cy 1, 9, .inl (fun _ => 0))), (a_59, .inl (cy 1, 9, .inl (fun _ => 0))), (a_60, .inl (cy 1, 3, .inl (fun _ => 0))), (a_61, .inl (cy 1, 210, .inl (fun _ => 0))), (a_62, .inl (cy 1, 6, .inl (fun _ => 0))), (a_63, .inl (cy 1, 48, .inl (fun _ => 0))), (a_64, .inl (cy 1, 30, .inl (fun _ => 0))), (a_65, .inl (cy 1, 30, .inl (fun _ => 0))), (a_66, .inl (cy 1, 30, .inl (fun _ => 0))), (a_67, .inl (cy 1, 30, .inl (fun _ => 0)))] [.ref a_0, .ref a_1] (fun u : (Nat → Int32) × (Nat → Int32) × (Nat → Int32) × (Nat → Int32) × (Nat → Int32) × (Nat → Int32) × (Nat → Int32) × (Nat → Int32) × (Nat → Int32) × (Nat → Int32) => [(a_1, .inr (0, [.int 0, .int 0, .int 0, .int 0, .int 0, .int 0, .int 0, .int 0, .ref a_27, .ref a_28, .ref a_29, .ref a_30, .ref a_31, .ref a_32, .ref a_33, .ref a_34, .ref a_35, .ref a_36])), (a_27, .inl (cy 1, 9, .inl (fun _ => 0))), (a_28, .inl (cy 1, 9, .inl (fun _ => 0))), (a_29, .inl (cy 1, 3, .inl (fun _ => 0))), (a_30, .inl (cy 1, 210, .inl (fun _ => 0))), (a_31, .inl (cy 1, 6, .inl (fun _ => 0))), (a_32, .inl (cy 1, 48, .inl (fun _ => 0))), (a_33, .inl (cy 1, 30, .inl (fun _ => 0))), (a_34, .inl (cy 1, 30, .inl (fun _ => 0))), (a_35, .inl (cy 1, 30, .inl (fun _ => 0))), (a_36, .inl (cy 1, 30, .inl (fun _ => 0))), (a_0, .inr (0, [.int 0, .int 0, .int 0, .int 0, .int 0, .int 0, .int 0, .int 0, .ref a_58, .ref a_59, .ref a_60, .ref a_61, .ref a_62, .ref a_63, .ref a_64, .ref a_65, .ref a_66, .ref a_67])), (a_58, .inl (cy 1, 9, .inl u.1)), (a_59, .inl (cy 1, 9, .inl u.2.1)), (a_60, .inl (cy 1, 3, .inl u.2.2.1)), (a_61, .inl (cy 1, 210, .inl u.2.2.2.1)), (a_62, .inl (cy 1, 6, .inl u.2.2.2.2.1)), (a_63, .inl (cy 1, 48, .inl u.2.2.2.2.2.1)), (a_64, .inl (cy 1, 30, .inl u.2.2.2.2.2.2.1)), (a_65, .inl (cy 1, 30, .inl u.2.2.2.2.2.2.2.1)), (a_66, .inl (cy 1, 30, .inl u.2.2.2.2.2.2.2.2.1)), (a_67, .inl (cy 1, 30, .inl u.2.2.2.2.2.2.2.2.2))]) (fun u : (Nat → Int32) × (Nat → Int32) × (Nat → Int32) × (Nat → Int32) × (Nat → Int32) × (Nat → Int32) × (Nat → Int32) × (Nat → Int32) × (Nat → Int32) × (Nat → Int32) => mm_ar u.1 0 0 ∧ mm_ar u.2.1 0 0 ∧ mm_ar u.2.2.1 0 0 ∧ mm_ar u.2.2.2.1 0 0 ∧ mm_ar u.2.2.2.2.1 0 0 ∧ mm_ar u.2.2.2.2.2.1 0 0 ∧ mm_ar u.2.2.2.2.2.2.1 0 0 ∧ mm_ar u.2.2.2.2.2.2.2.1 0 0 ∧ mm_ar u.2.2.2.2.2.2.2.2.1 0 0 ∧ mm_ar u.2.2.2.2.2.2.2.2.2 0 0) 0 0 := by
  refine mm_begin (lv := [(0, .ref a_0), (1, .ref a_1)]) (by decide) (Nat.le_of_ble_eq_true rfl) rfl ?_
  intro p e s m below meth c A ls R args Q H locs hRe hQ hAe hx hb hr hlocks hml hown hnm hts hsz hA hS hP hK hD hl
  have hRf : R.frames = 2 := by rw [hRe]
  have hRl : R.locals = 85 := by rw [hRe]
  have hRc : R.cells = 0 := by rw [hRe]
  have hRs : R.slots = 0 := by rw [hRe]
  refine lv_aload_n hx hb dX0_copyFrom_0 rfl (lv_at hl 0 rfl) ?_
  refine lv_aload_n hx hb dX0_copyFrom_1 rfl (lv_at hl 1 rfl) ?_
  refine va_get (D := G) (ci := 0) (v := .int 0) (C := RX0) (T := TX0) (N := 18) hx hb hts (mm_i inlX0) hown hK.1 hP 0 rfl rfl 0 (by decide) (mm_h hts mm_w215) (fun _ h9 => h9) rfl dX0_copyFrom_2 ?_
  refine va_put (D := G) (ci := 0) (v := .int 0) (ty := tyX0 0) (C := RX0) (T := TX0) (N := 18) hx hb hts (mm_i inlX0) tyX0 tyX0_ok nmX0 hown hK.1 hP hD hS 11 rfl rfl 0 (by decide) (mm_h hts mm_w215) (fun _ h9 => h9) rfl (tyX0_ok 0 (by decide)) rfl rfl (Nat.le_of_ble_eq_true rfl) dX0_copyFrom_5 ?_
  clear hP hD hS
  clear H locs
  intro H locs (hP : va_P G vwCl [(a_1, .inr (0, [.int 0, .int 0, .int 0, .int 0, .int 0, .int 0, .int 0, .int 0, .ref a_27, .ref a_28, .ref a_29, .ref a_30, .ref a_31, .ref a_32, .ref a_33, .ref a_34, .ref a_35, .ref a_36])), (a_27, .inl (cy 1, 9, .inl (fun _ => 0))), (a_28, .inl (cy 1, 9, .inl (fun _ => 0))), (a_29, .inl (cy 1, 3, .inl (fun _ => 0))), (a_30, .inl (cy 1, 210, .inl (fun _ => 0))), (a_31, .inl (cy 1, 6, .inl (fun _ => 0))), (a_32, .inl (cy 1, 48, .inl (fun _ => 0))), (a_33, .inl (cy 1, 30, .inl (fun _ => 0))), (a_34, .inl (cy 1, 30, .inl (fun _ => 0))), (a_35, .inl (cy 1, 30, .inl (fun _ => 0))), (a_36, .inl (cy 1, 30, .inl (fun _ => 0))), (a_0, .inr (0, [.int 0, .int 0, .int 0, .int 0, .int 0, .int 0, .int 0, .int 0, .ref a_58, .ref a_59, .ref a_60, .ref a_61, .ref a_62, .ref a_63, .ref a_64, .ref a_65, .ref a_66, .ref a_67])), (a_58, .inl (cy 1, 9, .inl (fun _ => 0))), (a_59, .inl (cy 1, 9, .inl (fun _ => 0))), (a_60, .inl (cy 1, 3, .inl (fun _ => 0))), (a_61, .inl (cy 1, 210, .inl (fun _ => 0))), (a_62, .inl (cy 1, 6, .inl (fun _ => 0))), (a_63, .inl (cy 1, 48, .inl (fun _ => 0))), (a_64, .inl (cy 1, 30, .inl (fun _ => 0))), (a_65, .inl (cy 1, 30, .inl (fun _ => 0))), (a_66, .inl (cy 1, 30, .inl (fun _ => 0))), (a_67, .inl (cy 1, 30, .inl (fun _ => 0)))] H) (hD : va_D A [(a_1, .inr (0, [.int 0, .int 0, .int 0, .int 0, .int 0, .int 0, .int 0, .int 0, .ref a_27, .ref a_28, .ref a_29, .ref a_30, .ref a_31, .ref a_32, .ref a_33, .ref a_34, .ref a_35, .ref a_36])), (a_27, .inl (cy 1, 9, .inl (fun _ => 0))), (a_28, .inl (cy 1, 9, .inl (fun _ => 0))), (a_29, .inl (cy 1, 3, .inl (fun _ => 0))), (a_30, .inl (cy 1, 210, .inl (fun _ => 0))), (a_31, .inl (cy 1, 6, .inl (fun _ => 0))), (a_32, .inl (cy 1, 48, .inl (fun _ => 0))), (a_33, .inl (cy 1, 30, .inl (fun _ => 0))), (a_34, .inl (cy 1, 30, .inl (fun _ => 0))), (a_35, .inl (cy 1, 30, .inl (fun _ => 0))), (a_36, .inl (cy 1, 30, .inl (fun _ => 0))), (a_0, .inr (0, [.int 0, .int 0, .int 0, .int 0, .int 0, .int 0, .int 0, .int 0, .ref a_58, .ref a_59, .ref a_60, .ref a_61, .ref a_62, .ref a_63, .ref a_64, .ref a_65, .ref a_66, .ref a_67])), (a_58, .inl (cy 1, 9, .inl (fun _ => 0))), (a_59, .inl (cy 1, 9, .inl (fun _ => 0))), (a_60, .inl (cy 1, 3, .inl (fun _ => 0))), (a_61, .inl (cy 1, 210, .inl (fun _ => 0))), (a_62, .inl (cy 1, 6, .inl (fun _ => 0))), (a_63, .inl (cy 1, 48, .inl (fun _ => 0))), (a_64, .inl (cy 1, 30, .inl (fun _ => 0))), (a_65, .inl (cy 1, 30, .inl (fun _ => 0))), (a_66, .inl (cy 1, 30, .inl (fun _ => 0))), (a_67, .inl (cy 1, 30, .inl (fun _ => 0)))]) hS
  refine lv_aload_n hx hb dX0_copyFrom_8 rfl (lv_at hl 0 rfl) ?_
  refine lv_aload_n hx hb dX0_copyFrom_9 rfl (lv_at hl 1 rfl) ?_
  refine va_get (D := G) (ci := 0) (v := .int 0) (C := RX0) (T := TX0) (N := 18) hx hb hts (mm_i inlX0) hown hK.1 hP 0 rfl rfl 1 (by decide) (mm_h hts mm_w216) (fun _ h9 => h9) rfl dX0_copyFrom_10 ?_
  refine va_put (D := G) (ci := 0) (v := .int 0) (ty := tyX0 1) (C := RX0) (T := TX0) (N := 18) hx hb hts (mm_i inlX0) tyX0 tyX0_ok nmX0 hown hK.1 hP hD hS 11 rfl rfl 1 (by decide) (mm_h hts mm_w216) (fun _ h9 => h9) rfl (tyX0_ok 1 (by decide)) rfl rfl (Nat.le_of_ble_eq_true rfl) dX0_copyFrom_13 ?_
  clear hP hD hS
  clear H locs
  intro H locs (hP : va_P G vwCl [(a_1, .inr (0, [.int 0, .int 0, .int 0, .int 0, .int 0, .int 0, .int 0, .int 0, .ref a_27, .ref a_28, .ref a_29, .ref a_30, .ref a_31, .ref a_32, .ref a_33, .ref a_34, .ref a_35, .ref a_36])), (a_27, .inl (cy 1, 9, .inl (fun _ => 0))), (a_28, .inl (cy 1, 9, .inl (fun _ => 0))), (a_29, .inl (cy 1, 3, .inl (fun _ => 0))), (a_30, .inl (cy 1, 210, .inl (fun _ => 0))), (a_31, .inl (cy 1, 6, .inl (fun _ => 0))), (a_32, .inl (cy 1, 48, .inl (fun _ => 0))), (a_33, .inl (cy 1, 30, .inl (fun _ => 0))), (a_34, .inl (cy 1, 30, .inl (fun _ => 0))), (a_35, .inl (cy 1, 30, .inl (fun _ => 0))), (a_36, .inl (cy 1, 30, .inl (fun _ => 0))), (a_0, .inr (0, [.int 0, .int 0, .int 0, .int 0, .int 0, .int 0, .int 0, .int 0, .ref a_58, .ref a_59, .ref a_60, .ref a_61, .ref a_62, .ref a_63, .ref a_64, .ref a_65, .ref a_66, .ref a_67])), (a_58, .inl (cy 1, 9, .inl (fun _ => 0))), (a_59, .inl (cy 1, 9, .inl (fun _ => 0))), (a_60, .inl (cy 1, 3, .inl (fun _ => 0))), (a_61, .inl (cy 1, 210, .inl (fun _ => 0))), (a_62, .inl (cy 1, 6, .inl (fun _ => 0))), (a_63, .inl (cy 1, 48, .inl (fun _ => 0))), (a_64, .inl (cy 1, 30, .inl (fun _ => 0))), (a_65, .inl (cy 1, 30, .inl (fun _ => 0))), (a_66, .inl (cy 1, 30, .inl (fun _ => 0))), (a_67, .inl (cy 1, 30, .inl (fun _ => 0)))] H) (hD : va_D A [(a_1, .inr (0, [.int 0, .int 0, .int 0, .int 0, .int 0, .int 0, .int 0, .int 0, .ref a_27, .ref a_28, .ref a_29, .ref a_30, .ref a_31, .ref a_32, .ref a_33, .ref a_34, .ref a_35, .ref a_36])), (a_27, .inl (cy 1, 9, .inl (fun _ => 0))), (a_28, .inl (cy 1, 9, .inl (fun _ => 0))), (a_29, .inl (cy 1, 3, .inl (fun _ => 0))), (a_30, .inl (cy 1, 210, .inl (fun _ => 0))), (a_31, .inl (cy 1, 6, .inl (fun _ => 0))), (a_32, .inl (cy 1, 48, .inl (fun _ => 0))), (a_33, .inl (cy 1, 30, .inl (fun _ => 0))), (a_34, .inl (cy 1, 30, .inl (fun _ => 0))), (a_35, .inl (cy 1, 30, .inl (fun _ => 0))), (a_36, .inl (cy 1, 30, .inl (fun _ => 0))), (a_0, .inr (0, [.int 0, .int 0, .int 0, .int 0, .int 0, .int 0, .int 0, .int 0, .ref a_58, .ref a_59, .ref a_60, .ref a_61, .ref a_62, .ref a_63, .ref a_64, .ref a_65, .ref a_66, .ref a_67])), (a_58, .inl (cy 1, 9, .inl (fun _ => 0))), (a_59, .inl (cy 1, 9, .inl (fun _ => 0))), (a_60, .inl (cy 1, 3, .inl (fun _ => 0))), (a_61, .inl (cy 1, 210, .inl (fun _ => 0))), (a_62, .inl (cy 1, 6, .inl (fun _ => 0))), (a_63, .inl (cy 1, 48, .inl (fun _ => 0))), (a_64, .inl (cy 1, 30, .inl (fun _ => 0))), (a_65, .inl (cy 1, 30, .inl (fun _ => 0))), (a_66, .inl (cy 1, 30, .inl (fun _ => 0))), (a_67, .inl (cy 1, 30, .inl (fun _ => 0)))]) hS
  refine lv_aload_n hx hb dX0_copyFrom_16 rfl (lv_at hl 0 rfl) ?_
  refine lv_aload_n hx hb dX0_copyFrom_17 rfl (lv_at hl 1 rfl) ?_
  refine va_get (D := G) (ci := 0) (v := .int 0) (C := RX0) (T := TX0) (N := 18) hx hb hts (mm_i inlX0) hown hK.1 hP 0 rfl rfl 2 (by decide) (mm_h hts mm_w217) (fun _ h9 => h9) rfl dX0_copyFrom_18 ?_
  refine va_put (D := G) (ci := 0) (v := .int 0) (ty := tyX0 2) (C := RX0) (T := TX0) (N := 18) hx hb hts (mm_i inlX0) tyX0 tyX0_ok nmX0 hown hK.1 hP hD hS 11 rfl rfl 2 (by decide) (mm_h hts mm_w217) (fun _ h9 => h9) rfl (tyX0_ok 2 (by decide)) rfl rfl (Nat.le_of_ble_eq_true rfl) dX0_copyFrom_21 ?_
  clear hP hD hS
  clear H locs
  intro H locs (hP : va_P G vwCl [(a_1, .inr (0, [.int 0, .int 0, .int 0, .int 0, .int 0, .int 0, .int 0, .int 0, .ref a_27, .ref a_28, .ref a_29, .ref a_30, .ref a_31, .ref a_32, .ref a_33, .ref a_34, .ref a_35, .ref a_36])), (a_27, .inl (cy 1, 9, .inl (fun _ => 0))), (a_28, .inl (cy 1, 9, .inl (fun _ => 0))), (a_29, .inl (cy 1, 3, .inl (fun _ => 0))), (a_30, .inl (cy 1, 210, .inl (fun _ => 0))), (a_31, .inl (cy 1, 6, .inl (fun _ => 0))), (a_32, .inl (cy 1, 48, .inl (fun _ => 0))), (a_33, .inl (cy 1, 30, .inl (fun _ => 0))), (a_34, .inl (cy 1, 30, .inl (fun _ => 0))), (a_35, .inl (cy 1, 30, .inl (fun _ => 0))), (a_36, .inl (cy 1, 30, .inl (fun _ => 0))), (a_0, .inr (0, [.int 0, .int 0, .int 0, .int 0, .int 0, .int 0, .int 0, .int 0, .ref a_58, .ref a_59, .ref a_60, .ref a_61, .ref a_62, .ref a_63, .ref a_64, .ref a_65, .ref a_66, .ref a_67])), (a_58, .inl (cy 1, 9, .inl (fun _ => 0))), (a_59, .inl (cy 1, 9, .inl (fun _ => 0))), (a_60, .inl (cy 1, 3, .inl (fun _ => 0))), (a_61, .inl (cy 1, 210, .inl (fun _ => 0))), (a_62, .inl (cy 1, 6, .inl (fun _ => 0))), (a_63, .inl (cy 1, 48, .inl (fun _ => 0))), (a_64, .inl (cy 1, 30, .inl (fun _ => 0))), (a_65, .inl (cy 1, 30, .inl (fun _ => 0))), (a_66, .inl (cy 1, 30, .inl (fun _ => 0))), (a_67, .inl (cy 1, 30, .inl (fun _ => 0)))] H) (hD : va_D A [(a_1, .inr (0, [.int 0, .int 0, .int 0, .int 0, .int 0, .int 0, .int 0, .int 0, .ref a_27, .ref a_28, .ref a_29, .ref a_30, .ref a_31, .ref a_32, .ref a_33, .ref a_34, .ref a_35, .ref a_36])), (a_27, .inl (cy 1, 9, .inl (fun _ => 0))), (a_28, .inl (cy 1, 9, .inl (fun _ => 0))), (a_29, .inl (cy 1, 3, .inl (fun _ => 0))), (a_30, .inl (cy 1, 210, .inl (fun _ => 0))), (a_31, .inl (cy 1, 6, .inl (fun _ => 0))), (a_32, .inl (cy 1, 48, .inl (fun _ => 0))), (a_33, .inl (cy 1, 30, .inl (fun _ => 0))), (a_34, .inl (cy 1, 30, .inl (fun _ => 0))), (a_35, .inl (cy 1, 30, .inl (fun _ => 0))), (a_36, .inl (cy 1, 30, .inl (fun _ => 0))), (a_0, .inr (0, [.int 0, .int 0, .int 0, .int 0, .int 0, .int 0, .int 0, .int 0, .ref a_58, .ref a_59, .ref a_60, .ref a_61, .ref a_62, .ref a_63, .ref a_64, .ref a_65, .ref a_66, .ref a_67])), (a_58, .inl (cy 1, 9, .inl (fun _ => 0))), (a_59, .inl (cy 1, 9, .inl (fun _ => 0))), (a_60, .inl (cy 1, 3, .inl (fun _ => 0))), (a_61, .inl (cy 1, 210, .inl (fun _ => 0))), (a_62, .inl (cy 1, 6, .inl (fun _ => 0))), (a_63, .inl (cy 1, 48, .inl (fun _ => 0))), (a_64, .inl (cy 1, 30, .inl (fun _ => 0))), (a_65, .inl (cy 1, 30, .inl (fun _ => 0))), (a_66, .inl (cy 1, 30, .inl (fun _ => 0))), (a_67, .inl (cy 1, 30, .inl (fun _ => 0)))]) hS
  refine lv_aload_n hx hb dX0_copyFrom_24 rfl (lv_at hl 0 rfl) ?_
  refine lv_aload_n hx hb dX0_copyFrom_25 rfl (lv_at hl 1 rfl) ?_
  refine va_get (D := G) (ci := 0) (v := .int 0) (C := RX0) (T := TX0) (N := 18) hx hb hts (mm_i inlX0) hown hK.1 hP 0 rfl rfl 3 (by decide) (mm_h hts mm_w218) (fun _ h9 => h9) rfl dX0_copyFrom_26 ?_
  refine va_put (D := G) (ci := 0) (v := .int 0) (ty := tyX0 3) (C := RX0) (T := TX0) (N := 18) hx hb hts (mm_i inlX0) tyX0 tyX0_ok nmX0 hown hK.1 hP hD hS 11 rfl rfl 3 (by decide) (mm_h hts mm_w218) (fun _ h9 => h9) rfl (tyX0_ok 3 (by decide)) rfl rfl (Nat.le_of_ble_eq_true rfl) dX0_copyFrom_29 ?_
  clear hP hD hS
  clear H locs
  intro H locs (hP : va_P G vwCl [(a_1, .inr (0, [.int 0, .int 0, .int 0, .int 0, .int 0, .int 0, .int 0, .int 0, .ref a_27, .ref a_28, .ref a_29, .ref a_30, .ref a_31, .ref a_32, .ref a_33, .ref a_34, .ref a_35, .ref a_36])), (a_27, .inl (cy 1, 9, .inl (fun _ => 0))), (a_28, .inl (cy 1, 9, .inl (fun _ => 0))), (a_29, .inl (cy 1, 3, .inl (fun _ => 0))), (a_30, .inl (cy 1, 210, .inl (fun _ => 0))), (a_31, .inl (cy 1, 6, .inl (fun _ => 0))), (a_32, .inl (cy 1, 48, .inl (fun _ => 0))), (a_33, .inl (cy 1, 30, .inl (fun _ => 0))), (a_34, .inl (cy 1, 30, .inl (fun _ => 0))), (a_35, .inl (cy 1, 30, .inl (fun _ => 0))), (a_36, .inl (cy 1, 30, .inl (fun _ => 0))), (a_0, .inr (0, [.int 0, .int 0, .int 0, .int 0, .int 0, .int 0, .int 0, .int 0, .ref a_58, .ref a_59, .ref a_60, .ref a_61, .ref a_62, .ref a_63, .ref a_64, .ref a_65, .ref a_66, .ref a_67])), (a_58, .inl (cy 1, 9, .inl (fun _ => 0))), (a_59, .inl (cy 1, 9, .inl (fun _ => 0))), (a_60, .inl (cy 1, 3, .inl (fun _ => 0))), (a_61, .inl (cy 1, 210, .inl (fun _ => 0))), (a_62, .inl (cy 1, 6, .inl (fun _ => 0))), (a_63, .inl (cy 1, 48, .inl (fun _ => 0))), (a_64, .inl (cy 1, 30, .inl (fun _ => 0))), (a_65, .inl (cy 1, 30, .inl (fun _ => 0))), (a_66, .inl (cy 1, 30, .inl (fun _ => 0))), (a_67, .inl (cy 1, 30, .inl (fun _ => 0)))] H) (hD : va_D A [(a_1, .inr (0, [.int 0, .int 0, .int 0, .int 0, .int 0, .int 0, .int 0, .int 0, .ref a_27, .ref a_28, .ref a_29, .ref a_30, .ref a_31, .ref a_32, .ref a_33, .ref a_34, .ref a_35, .ref a_36])), (a_27, .inl (cy 1, 9, .inl (fun _ => 0))), (a_28, .inl (cy 1, 9, .inl (fun _ => 0))), (a_29, .inl (cy 1, 3, .inl (fun _ => 0))), (a_30, .inl (cy 1, 210, .inl (fun _ => 0))), (a_31, .inl (cy 1, 6, .inl (fun _ => 0))), (a_32, .inl (cy 1, 48, .inl (fun _ => 0))), (a_33, .inl (cy 1, 30, .inl (fun _ => 0))), (a_34, .inl (cy 1, 30, .inl (fun _ => 0))), (a_35, .inl (cy 1, 30, .inl (fun _ => 0))), (a_36, .inl (cy 1, 30, .inl (fun _ => 0))), (a_0, .inr (0, [.int 0, .int 0, .int 0, .int 0, .int 0, .int 0, .int 0, .int 0, .ref a_58, .ref a_59, .ref a_60, .ref a_61, .ref a_62, .ref a_63, .ref a_64, .ref a_65, .ref a_66, .ref a_67])), (a_58, .inl (cy 1, 9, .inl (fun _ => 0))), (a_59, .inl (cy 1, 9, .inl (fun _ => 0))), (a_60, .inl (cy 1, 3, .inl (fun _ => 0))), (a_61, .inl (cy 1, 210, .inl (fun _ => 0))), (a_62, .inl (cy 1, 6, .inl (fun _ => 0))), (a_63, .inl (cy 1, 48, .inl (fun _ => 0))), (a_64, .inl (cy 1, 30, .inl (fun _ => 0))), (a_65, .inl (cy 1, 30, .inl (fun _ => 0))), (a_66, .inl (cy 1, 30, .inl (fun _ => 0))), (a_67, .inl (cy 1, 30, .inl (fun _ => 0)))]) hS
  refine lv_aload_n hx hb dX0_copyFrom_32 rfl (lv_at hl 0 rfl) ?_
  refine lv_aload_n hx hb dX0_copyFrom_33 rfl (lv_at hl 1 rfl) ?_
  refine va_get (D := G) (ci := 0) (v := .int 0) (C := RX0) (T := TX0) (N := 18) hx hb hts (mm_i inlX0) hown hK.1 hP 0 rfl rfl 4 (by decide) (mm_h hts mm_w219) (fun _ h9 => h9) rfl dX0_copyFrom_34 ?_
  refine va_put (D := G) (ci := 0) (v := .int 0) (ty := tyX0 4) (C := RX0) (T := TX0) (N := 18) hx hb hts (mm_i inlX0) tyX0 tyX0_ok nmX0 hown hK.1 hP hD hS 11 rfl rfl 4 (by decide) (mm_h hts mm_w219) (fun _ h9 => h9) rfl (tyX0_ok 4 (by decide)) rfl rfl (Nat.le_of_ble_eq_true rfl) dX0_copyFrom_37 ?_
  clear hP hD hS
  clear H locs
  intro H locs (hP : va_P G vwCl [(a_1, .inr (0, [.int 0, .int 0, .int 0, .int 0, .int 0, .int 0, .int 0, .int 0, .ref a_27, .ref a_28, .ref a_29, .ref a_30, .ref a_31, .ref a_32, .ref a_33, .ref a_34, .ref a_35, .ref a_36])), (a_27, .inl (cy 1, 9, .inl (fun _ => 0))), (a_28, .inl (cy 1, 9, .inl (fun _ => 0))), (a_29, .inl (cy 1, 3, .inl (fun _ => 0))), (a_30, .inl (cy 1, 210, .inl (fun _ => 0))), (a_31, .inl (cy 1, 6, .inl (fun _ => 0))), (a_32, .inl (cy 1, 48, .inl (fun _ => 0))), (a_33, .inl (cy 1, 30, .inl (fun _ => 0))), (a_34, .inl (cy 1, 30, .inl (fun _ => 0))), (a_35, .inl (cy 1, 30, .inl (fun _ => 0))), (a_36, .inl (cy 1, 30, .inl (fun _ => 0))), (a_0, .inr (0, [.int 0, .int 0, .int 0, .int 0, .int 0, .int 0, .int 0, .int 0, .ref a_58, .ref a_59, .ref a_60, .ref a_61, .ref a_62, .ref a_63, .ref a_64, .ref a_65, .ref a_66, .ref a_67])), (a_58, .inl (cy 1, 9, .inl (fun _ => 0))), (a_59, .inl (cy 1, 9, .inl (fun _ => 0))), (a_60, .inl (cy 1, 3, .inl (fun _ => 0))), (a_61, .inl (cy 1, 210, .inl (fun _ => 0))), (a_62, .inl (cy 1, 6, .inl (fun _ => 0))), (a_63, .inl (cy 1, 48, .inl (fun _ => 0))), (a_64, .inl (cy 1, 30, .inl (fun _ => 0))), (a_65, .inl (cy 1, 30, .inl (fun _ => 0))), (a_66, .inl (cy 1, 30, .inl (fun _ => 0))), (a_67, .inl (cy 1, 30, .inl (fun _ => 0)))] H) (hD : va_D A [(a_1, .inr (0, [.int 0, .int 0, .int 0, .int 0, .int 0, .int 0, .int 0, .int 0, .ref a_27, .ref a_28, .ref a_29, .ref a_30, .ref a_31, .ref a_32, .ref a_33, .ref a_34, .ref a_35, .ref a_36])), (a_27, .inl (cy 1, 9, .inl (fun _ => 0))), (a_28, .inl (cy 1, 9, .inl (fun _ => 0))), (a_29, .inl (cy 1, 3, .inl (fun _ => 0))), (a_30, .inl (cy 1, 210, .inl (fun _ => 0))), (a_31, .inl (cy 1, 6, .inl (fun _ => 0))), (a_32, .inl (cy 1, 48, .inl (fun _ => 0))), (a_33, .inl (cy 1, 30, .inl (fun _ => 0))), (a_34, .inl (cy 1, 30, .inl (fun _ => 0))), (a_35, .inl (cy 1, 30, .inl (fun _ => 0))), (a_36, .inl (cy 1, 30, .inl (fun _ => 0))), (a_0, .inr (0, [.int 0, .int 0, .int 0, .int 0, .int 0, .int 0, .int 0, .int 0, .ref a_58, .ref a_59, .ref a_60, .ref a_61, .ref a_62, .ref a_63, .ref a_64, .ref a_65, .ref a_66, .ref a_67])), (a_58, .inl (cy 1, 9, .inl (fun _ => 0))), (a_59, .inl (cy 1, 9, .inl (fun _ => 0))), (a_60, .inl (cy 1, 3, .inl (fun _ => 0))), (a_61, .inl (cy 1, 210, .inl (fun _ => 0))), (a_62, .inl (cy 1, 6, .inl (fun _ => 0))), (a_63, .inl (cy 1, 48, .inl (fun _ => 0))), (a_64, .inl (cy 1, 30, .inl (fun _ => 0))), (a_65, .inl (cy 1, 30, .inl (fun _ => 0))), (a_66, .inl (cy 1, 30, .inl (fun _ => 0))), (a_67, .inl (cy 1, 30, .inl (fun _ => 0)))]) hS
  refine lv_aload_n hx hb dX0_copyFrom_40 rfl (lv_at hl 0 rfl) ?_
  refine lv_aload_n hx hb dX0_copyFrom_41 rfl (lv_at hl 1 rfl) ?_
  refine va_get (D := G) (ci := 0) (v := .int 0) (C := RX0) (T := TX0) (N := 18) hx hb hts (mm_i inlX0) hown hK.1 hP 0 rfl rfl 5 (by decide) (mm_h hts mm_w220) (fun _ h9 => h9) rfl dX0_copyFrom_42 ?_
  refine va_put (D := G) (ci := 0) (v := .int 0) (ty := tyX0 5) (C := RX0) (T := TX0) (N := 18) hx hb hts (mm_i inlX0) tyX0 tyX0_ok nmX0 hown hK.1 hP hD hS 11 rfl rfl 5 (by decide) (mm_h hts mm_w220) (fun _ h9 => h9) rfl (tyX0_ok 5 (by decide)) rfl rfl (Nat.le_of_ble_eq_true rfl) dX0_copyFrom_45 ?_
  clear hP hD hS
  clear H locs
  intro H locs (hP : va_P G vwCl [(a_1, .inr (0, [.int 0, .int 0, .int 0, .int 0, .int 0, .int 0, .int 0, .int 0, .ref a_27, .ref a_28, .ref a_29, .ref a_30, .ref a_31, .ref a_32, .ref a_33, .ref a_34, .ref a_35, .ref a_36])), (a_27, .inl (cy 1, 9, .inl (fun _ => 0))), (a_28, .inl (cy 1, 9, .inl (fun _ => 0))), (a_29, .inl (cy 1, 3, .inl (fun _ => 0))), (a_30, .inl (cy 1, 210, .inl (fun _ => 0))), (a_31, .inl (cy 1, 6, .inl (fun _ => 0))), (a_32, .inl (cy 1, 48, .inl (fun _ => 0))), (a_33, .inl (cy 1, 30, .inl (fun _ => 0))), (a_34, .inl (cy 1, 30, .inl (fun _ => 0))), (a_35, .inl (cy 1, 30, .inl (fun _ => 0))), (a_36, .inl (cy 1, 30, .inl (fun _ => 0))), (a_0, .inr (0, [.int 0, .int 0, .int 0, .int 0, .int 0, .int 0, .int 0, .int 0, .ref a_58, .ref a_59, .ref a_60, .ref a_61, .ref a_62, .ref a_63, .ref a_64, .ref a_65, .ref a_66, .ref a_67])), (a_58, .inl (cy 1, 9, .inl (fun _ => 0))), (a_59, .inl (cy 1, 9, .inl (fun _ => 0))), (a_60, .inl (cy 1, 3, .inl (fun _ => 0))), (a_61, .inl (cy 1, 210, .inl (fun _ => 0))), (a_62, .inl (cy 1, 6, .inl (fun _ => 0))), (a_63, .inl (cy 1, 48, .inl (fun _ => 0))), (a_64, .inl (cy 1, 30, .inl (fun _ => 0))), (a_65, .inl (cy 1, 30, .inl (fun _ => 0))), (a_66, .inl (cy 1, 30, .inl (fun _ => 0))), (a_67, .inl (cy 1, 30, .inl (fun _ => 0)))] H) (hD : va_D A [(a_1, .inr (0, [.int 0, .int 0, .int 0, .int 0, .int 0, .int 0, .int 0, .int 0, .ref a_27, .ref a_28, .ref a_29, .ref a_30, .ref a_31, .ref a_32, .ref a_33, .ref a_34, .ref a_35, .ref a_36])), (a_27, .inl (cy 1, 9, .inl (fun _ => 0))), (a_28, .inl (cy 1, 9, .inl (fun _ => 0))), (a_29, .inl (cy 1, 3, .inl (fun _ => 0))), (a_30, .inl (cy 1, 210, .inl (fun _ => 0))), (a_31, .inl (cy 1, 6, .inl (fun _ => 0))), (a_32, .inl (cy 1, 48, .inl (fun _ => 0))), (a_33, .inl (cy 1, 30, .inl (fun _ => 0))), (a_34, .inl (cy 1, 30, .inl (fun _ => 0))), (a_35, .inl (cy 1, 30, .inl (fun _ => 0))), (a_36, .inl (cy 1, 30, .inl (fun _ => 0))), (a_0, .inr (0, [.int 0, .int 0, .int 0, .int 0, .int 0, .int 0, .int 0, .int 0, .ref a_58, .ref a_59, .ref a_60, .ref a_61, .ref a_62, .ref a_63, .ref a_64, .ref a_65, .ref a_66, .ref a_67])), (a_58, .inl (cy 1, 9, .inl (fun _ => 0))), (a_59, .inl (cy 1, 9, .inl (fun _ => 0))), (a_60, .inl (cy 1, 3, .inl (fun _ => 0))), (a_61, .inl (cy 1, 210, .inl (fun _ => 0))), (a_62, .inl (cy 1, 6, .inl (fun _ => 0))), (a_63, .inl (cy 1, 48, .inl (fun _ => 0))), (a_64, .inl (cy 1, 30, .inl (fun _ => 0))), (a_65, .inl (cy 1, 30, .inl (fun _ => 0))), (a_66, .inl (cy 1, 30, .inl (fun _ => 0))), (a_67, .inl (cy 1, 30, .inl (fun _ => 0)))]) hS
  refine lv_aload_n hx hb dX0_copyFrom_48 rfl (lv_at hl 0 rfl) ?_
  refine lv_aload_n hx hb dX0_copyFrom_49 rfl (lv_at hl 1 rfl) ?_
  refine va_get (D := G) (ci := 0) (v := .int 0) (C := RX0) (T := TX0) (N := 18) hx hb hts (mm_i inlX0) hown hK.1 hP 0 rfl rfl 6 (by decide) (mm_h hts mm_w221) (fun _ h9 => h9) rfl dX0_copyFrom_50 ?_
  refine va_put (D := G) (ci := 0) (v := .int 0) (ty := tyX0 6) (C := RX0) (T := TX0) (N := 18) hx hb hts (mm_i inlX0) tyX0 tyX0_ok nmX0 hown hK.1 hP hD hS 11 rfl rfl 6 (by decide) (mm_h hts mm_w221) (fun _ h9 => h9) rfl (tyX0_ok 6 (by decide)) rfl rfl (Nat.le_of_ble_eq_true rfl) dX0_copyFrom_53 ?_
  clear hP hD hS
  clear H locs
  intro H locs (hP : va_P G vwCl [(a_1, .inr (0, [.int 0, .int 0, .int 0, .int 0, .int 0, .int 0, .int 0, .int 0, .ref a_27, .ref a_28, .ref a_29, .ref a_30, .ref a_31, .ref a_32, .ref a_33, .ref a_34, .ref a_35, .ref a_36])), (a_27, .inl (cy 1, 9, .inl (fun _ => 0))), (a_28, .inl (cy 1, 9, .inl (fun _ => 0))), (a_29, .inl (cy 1, 3, .inl (fun _ => 0))), (a_30, .inl (cy 1, 210, .inl (fun _ => 0))), (a_31, .inl (cy 1, 6, .inl (fun _ => 0))), (a_32, .inl (cy 1, 48, .inl (fun _ => 0))), (a_33, .inl (cy 1, 30, .inl (fun _ => 0))), (a_34, .inl (cy 1, 30, .inl (fun _ => 0))), (a_35, .inl (cy 1, 30, .inl (fun _ => 0))), (a_36, .inl (cy 1, 30, .inl (fun _ => 0))), (a_0, .inr (0, [.int 0, .int 0, .int 0, .int 0, .int 0, .int 0, .int 0, .int 0, .ref a_58, .ref a_59, .ref a_60, .ref a_61, .ref a_62, .ref a_63, .ref a_64, .ref a_65, .ref a_66, .ref a_67])), (a_58, .inl (cy 1, 9, .inl (fun _ => 0))), (a_59, .inl (cy 1, 9, .inl (fun _ => 0))), (a_60, .inl (cy 1, 3, .inl (fun _ => 0))), (a_61, .inl (cy 1, 210, .inl (fun _ => 0))), (a_62, .inl (cy 1, 6, .inl (fun _ => 0))), (a_63, .inl (cy 1, 48, .inl (fun _ => 0))), (a_64, .inl (cy 1, 30, .inl (fun _ => 0))), (a_65, .inl (cy 1, 30, .inl (fun _ => 0))), (a_66, .inl (cy 1, 30, .inl (fun _ => 0))), (a_67, .inl (cy 1, 30, .inl (fun _ => 0)))] H) (hD : va_D A [(a_1, .inr (0, [.int 0, .int 0, .int 0, .int 0, .int 0, .int 0, .int 0, .int 0, .ref a_27, .ref a_28, .ref a_29, .ref a_30, .ref a_31, .ref a_32, .ref a_33, .ref a_34, .ref a_35, .ref a_36])), (a_27, .inl (cy 1, 9, .inl (fun _ => 0))), (a_28, .inl (cy 1, 9, .inl (fun _ => 0))), (a_29, .inl (cy 1, 3, .inl (fun _ => 0))), (a_30, .inl (cy 1, 210, .inl (fun _ => 0))), (a_31, .inl (cy 1, 6, .inl (fun _ => 0))), (a_32, .inl (cy 1, 48, .inl (fun _ => 0))), (a_33, .inl (cy 1, 30, .inl (fun _ => 0))), (a_34, .inl (cy 1, 30, .inl (fun _ => 0))), (a_35, .inl (cy 1, 30, .inl (fun _ => 0))), (a_36, .inl (cy 1, 30, .inl (fun _ => 0))), (a_0, .inr (0, [.int 0, .int 0, .int 0, .int 0, .int 0, .int 0, .int 0, .int 0, .ref a_58, .ref a_59, .ref a_60, .ref a_61, .ref a_62, .ref a_63, .ref a_64, .ref a_65, .ref a_66, .ref a_67])), (a_58, .inl (cy 1, 9, .inl (fun _ => 0))), (a_59, .inl (cy 1, 9, .inl (fun _ => 0))), (a_60, .inl (cy 1, 3, .inl (fun _ => 0))), (a_61, .inl (cy 1, 210, .inl (fun _ => 0))), (a_62, .inl (cy 1, 6, .inl (fun _ => 0))), (a_63, .inl (cy 1, 48, .inl (fun _ => 0))), (a_64, .inl (cy 1, 30, .inl (fun _ => 0))), (a_65, .inl (cy 1, 30, .inl (fun _ => 0))), (a_66, .inl (cy 1, 30, .inl (fun _ => 0))), (a_67, .inl (cy 1, 30, .inl (fun _ => 0)))]) hS
  refine lv_aload_n hx hb dX0_copyFrom_56 rfl (lv_at hl 0 rfl) ?_
  refine lv_aload_n hx hb dX0_copyFrom_57 rfl (lv_at hl 1 rfl) ?_
  refine va_get (D := G) (ci := 0) (v := .int 0) (C := RX0) (T := TX0) (N := 18) hx hb hts (mm_i inlX0) hown hK.1 hP 0 rfl rfl 7 (by decide) (mm_h hts mm_w222) (fun _ h9 => h9) rfl dX0_copyFrom_58 ?_
  refine va_put (D := G) (ci := 0) (v := .int 0) (ty := tyX0 7) (C := RX0) (T := TX0) (N := 18) hx hb hts (mm_i inlX0) tyX0 tyX0_ok nmX0 hown hK.1 hP hD hS 11 rfl rfl 7 (by decide) (mm_h hts mm_w222) (fun _ h9 => h9) rfl (tyX0_ok 7 (by decide)) rfl rfl (Nat.le_of_ble_eq_true rfl) dX0_copyFrom_61 ?_
  clear hP hD hS
  clear H locs
  intro H locs (hP : va_P G vwCl [(a_1, .inr (0, [.int 0, .int 0, .int 0, .int 0, .int 0, .int 0, .int 0, .int 0, .ref a_27, .ref a_28, .ref a_29, .ref a_30, .ref a_31, .ref a_32, .ref a_33, .ref a_34, .ref a_35, .ref a_36])), (a_27, .inl (cy 1, 9, .inl (fun _ => 0))), (a_28, .inl (cy 1, 9, .inl (fun _ => 0))), (a_29, .inl (cy 1, 3, .inl (fun _ => 0))), (a_30, .inl (cy 1, 210, .inl (fun _ => 0))), (a_31, .inl (cy 1, 6, .inl (fun _ => 0))), (a_32, .inl (cy 1, 48, .inl (fun _ => 0))), (a_33, .inl (cy 1, 30, .inl (fun _ => 0))), (a_34, .inl (cy 1, 30, .inl (fun _ => 0))), (a_35, .inl (cy 1, 30, .inl (fun _ => 0))), (a_36, .inl (cy 1, 30, .inl (fun _ => 0))), (a_0, .inr (0, [.int 0, .int 0, .int 0, .int 0, .int 0, .int 0, .int 0, .int 0, .ref a_58, .ref a_59, .ref a_60, .ref a_61, .ref a_62, .ref a_63, .ref a_64, .ref a_65, .ref a_66, .ref a_67])), (a_58, .inl (cy 1, 9, .inl (fun _ => 0))), (a_59, .inl (cy 1, 9, .inl (fun _ => 0))), (a_60, .inl (cy 1, 3, .inl (fun _ => 0))), (a_61, .inl (cy 1, 210, .inl (fun _ => 0))), (a_62, .inl (cy 1, 6, .inl (fun _ => 0))), (a_63, .inl (cy 1, 48, .inl (fun _ => 0))), (a_64, .inl (cy 1, 30, .inl (fun _ => 0))), (a_65, .inl (cy 1, 30, .inl (fun _ => 0))), (a_66, .inl (cy 1, 30, .inl (fun _ => 0))), (a_67, .inl (cy 1, 30, .inl (fun _ => 0)))] H) (hD : va_D A [(a_1, .inr (0, [.int 0, .int 0, .int 0, .int 0, .int 0, .int 0, .int 0, .int 0, .ref a_27, .ref a_28, .ref a_29, .ref a_30, .ref a_31, .ref a_32, .ref a_33, .ref a_34, .ref a_35, .ref a_36])), (a_27, .inl (cy 1, 9, .inl (fun _ => 0))), (a_28, .inl (cy 1, 9, .inl (fun _ => 0))), (a_29, .inl (cy 1, 3, .inl (fun _ => 0))), (a_30, .inl (cy 1, 210, .inl (fun _ => 0))), (a_31, .inl (cy 1, 6, .inl (fun _ => 0))), (a_32, .inl (cy 1, 48, .inl (fun _ => 0))), (a_33, .inl (cy 1, 30, .inl (fun _ => 0))), (a_34, .inl (cy 1, 30, .inl (fun _ => 0))), (a_35, .inl (cy 1, 30, .inl (fun _ => 0))), (a_36, .inl (cy 1, 30, .inl (fun _ => 0))), (a_0, .inr (0, [.int 0, .int 0, .int 0, .int 0, .int 0, .int 0, .int 0, .int 0, .ref a_58, .ref a_59, .ref a_60, .ref a_61, .ref a_62, .ref a_63, .ref a_64, .ref a_65, .ref a_66, .ref a_67])), (a_58, .inl (cy 1, 9, .inl (fun _ => 0))), (a_59, .inl (cy 1, 9, .inl (fun _ => 0))), (a_60, .inl (cy 1, 3, .inl (fun _ => 0))), (a_61, .inl (cy 1, 210, .inl (fun _ => 0))), (a_62, .inl (cy 1, 6, .inl (fun _ => 0))), (a_63, .inl (cy 1, 48, .inl (fun _ => 0))), (a_64, .inl (cy 1, 30, .inl (fun _ => 0))), (a_65, .inl (cy 1, 30, .inl (fun _ => 0))), (a_66, .inl (cy 1, 30, .inl (fun _ => 0))), (a_67, .inl (cy 1, 30, .inl (fun _ => 0)))]) hS
  refine lv_aload_n hx hb dX0_copyFrom_64 rfl (lv_at hl 1 rfl) ?_
  refine va_get (D := G) (ci := 0) (v := .ref a_27) (C := RX0) (T := TX0) (N := 18) hx hb hts (mm_i inlX0) hown hK.1 hP 0 rfl rfl 8 (by decide) (mm_h hts mm_w72) (fun _ h9 => h9) rfl dX0_copyFrom_65 ?_
  refine lv_aload_n hx hb dX0_copyFrom_68 rfl (lv_at hl 0 rfl) ?_
  refine va_get (D := G) (ci := 0) (v := .ref a_58) (C := RX0) (T := TX0) (N := 18) hx hb hts (mm_i inlX0) hown hK.1 hP 11 rfl rfl 8 (by decide) (mm_h hts mm_w72) (fun _ h9 => h9) rfl dX0_copyFrom_69 ?_
  refine mm_finv (va_runS (As := [.ref a_27, .ref a_58]) (rest := []) ⟨hx, hb, hml, hown, hts⟩ (K44_X0_copyRow l G cy H.size a_27 a_58 ) (va_cwS 2 hts (mm_gS mm_w381 mm_w382 mm_w28 mm_w383) rfl rfl rfl hs_X0_copyRow ⟨by rw [hRf]; exact Nat.le_of_ble_eq_true rfl, by rw [hRl]; exact Nat.le_of_ble_eq_true rfl⟩) (mm_preS hK hP hD [1, 12] rfl rfl) rfl rfl hl.1 rfl (lv_room (Nat.le_of_ble_eq_true rfl)) dX0_copyFrom_72 ⟨by rw [hRc]; exact Nat.le_of_ble_eq_true rfl, by rw [hRs]; exact Nat.le_of_ble_eq_true rfl⟩) hP hD hS hA (fun u : (Nat → Int32) => [(a_1, .inr (0, [.int 0, .int 0, .int 0, .int 0, .int 0, .int 0, .int 0, .int 0, .ref a_27, .ref a_28, .ref a_29, .ref a_30, .ref a_31, .ref a_32, .ref a_33, .ref a_34, .ref a_35, .ref a_36])), (a_27, .inl (cy 1, 9, .inl (fun _ => 0))), (a_28, .inl (cy 1, 9, .inl (fun _ => 0))), (a_29, .inl (cy 1, 3, .inl (fun _ => 0))), (a_30, .inl (cy 1, 210, .inl (fun _ => 0))), (a_31, .inl (cy 1, 6, .inl (fun _ => 0))), (a_32, .inl (cy 1, 48, .inl (fun _ => 0))), (a_33, .inl (cy 1, 30, .inl (fun _ => 0))), (a_34, .inl (cy 1, 30, .inl (fun _ => 0))), (a_35, .inl (cy 1, 30, .inl (fun _ => 0))), (a_36, .inl (cy 1, 30, .inl (fun _ => 0))), (a_0, .inr (0, [.int 0, .int 0, .int 0, .int 0, .int 0, .int 0, .int 0, .int 0, .ref a_58, .ref a_59, .ref a_60, .ref a_61, .ref a_62, .ref a_63, .ref a_64, .ref a_65, .ref a_66, .ref a_67])), (a_58, .inl (cy 1, 9, .inl u)), (a_59, .inl (cy 1, 9, .inl (fun _ => 0))), (a_60, .inl (cy 1, 3, .inl (fun _ => 0))), (a_61, .inl (cy 1, 210, .inl (fun _ => 0))), (a_62, .inl (cy 1, 6, .inl (fun _ => 0))), (a_63, .inl (cy 1, 48, .inl (fun _ => 0))), (a_64, .inl (cy 1, 30, .inl (fun _ => 0))), (a_65, .inl (cy 1, 30, .inl (fun _ => 0))), (a_66, .inl (cy 1, 30, .inl (fun _ => 0))), (a_67, .inl (cy 1, 30, .inl (fun _ => 0)))]) [1, 12] [0, 2, 3, 4, 5, 6, 7, 8, 9, 10, 11, 13, 14, 15, 16, 17, 18, 19, 20, 21] (n := 22) (fun _ => rfl) (by decide +kernel) (by decide +kernel) rfl (fun _ => rfl) (wr := [(a_1, .inr (0, [.int 0, .int 0, .int 0, .int 0, .int 0, .int 0, .int 0, .int 0, .ref a_27, .ref a_28, .ref a_29, .ref a_30, .ref a_31, .ref a_32, .ref a_33, .ref a_34, .ref a_35, .ref a_36])), (a_28, .inl (cy 1, 9, .inl (fun _ => 0))), (a_29, .inl (cy 1, 3, .inl (fun _ => 0))), (a_30, .inl (cy 1, 210, .inl (fun _ => 0))), (a_31, .inl (cy 1, 6, .inl (fun _ => 0))), (a_32, .inl (cy 1, 48, .inl (fun _ => 0))), (a_33, .inl (cy 1, 30, .inl (fun _ => 0))), (a_34, .inl (cy 1, 30, .inl (fun _ => 0))), (a_35, .inl (cy 1, 30, .inl (fun _ => 0))), (a_36, .inl (cy 1, 30, .inl (fun _ => 0))), (a_0, .inr (0, [.int 0, .int 0, .int 0, .int 0, .int 0, .int 0, .int 0, .int 0, .ref a_58, .ref a_59, .ref a_60, .ref a_61, .ref a_62, .ref a_63, .ref a_64, .ref a_65, .ref a_66, .ref a_67])), (a_59, .inl (cy 1, 9, .inl (fun _ => 0))), (a_60, .inl (cy 1, 3, .inl (fun _ => 0))), (a_61, .inl (cy 1, 210, .inl (fun _ => 0))), (a_62, .inl (cy 1, 6, .inl (fun _ => 0))), (a_63, .inl (cy 1, 48, .inl (fun _ => 0))), (a_64, .inl (cy 1, 30, .inl (fun _ => 0))), (a_65, .inl (cy 1, 30, .inl (fun _ => 0))), (a_66, .inl (cy 1, 30, .inl (fun _ => 0))), (a_67, .inl (cy 1, 30, .inl (fun _ => 0)))]) rfl (fun _ => rfl) (fun _ => rfl) ?_
  clear hP hD hS
  clear H locs
  intro n1 H locs hw (hP : va_P G vwCl [(a_1, .inr (0, [.int 0, .int 0, .int 0, .int 0, .int 0, .int 0, .int 0, .int 0, .ref a_27, .ref a_28, .ref a_29, .ref a_30, .ref a_31, .ref a_32, .ref a_33, .ref a_34, .ref a_35, .ref a_36])), (a_27, .inl (cy 1, 9, .inl (fun _ => 0))), (a_28, .inl (cy 1, 9, .inl (fun _ => 0))), (a_29, .inl (cy 1, 3, .inl (fun _ => 0))), (a_30, .inl (cy 1, 210, .inl (fun _ => 0))), (a_31, .inl (cy 1, 6, .inl (fun _ => 0))), (a_32, .inl (cy 1, 48, .inl (fun _ => 0))), (a_33, .inl (cy 1, 30, .inl (fun _ => 0))), (a_34, .inl (cy 1, 30, .inl (fun _ => 0))), (a_35, .inl (cy 1, 30, .inl (fun _ => 0))), (a_36, .inl (cy 1, 30, .inl (fun _ => 0))), (a_0, .inr (0, [.int 0, .int 0, .int 0, .int 0, .int 0, .int 0, .int 0, .int 0, .ref a_58, .ref a_59, .ref a_60, .ref a_61, .ref a_62, .ref a_63, .ref a_64, .ref a_65, .ref a_66, .ref a_67])), (a_58, .inl (cy 1, 9, .inl n1)), (a_59, .inl (cy 1, 9, .inl (fun _ => 0))), (a_60, .inl (cy 1, 3, .inl (fun _ => 0))), (a_61, .inl (cy 1, 210, .inl (fun _ => 0))), (a_62, .inl (cy 1, 6, .inl (fun _ => 0))), (a_63, .inl (cy 1, 48, .inl (fun _ => 0))), (a_64, .inl (cy 1, 30, .inl (fun _ => 0))), (a_65, .inl (cy 1, 30, .inl (fun _ => 0))), (a_66, .inl (cy 1, 30, .inl (fun _ => 0))), (a_67, .inl (cy 1, 30, .inl (fun _ => 0)))] H) (hD : va_D A [(a_1, .inr (0, [.int 0, .int 0, .int 0, .int 0, .int 0, .int 0, .int 0, .int 0, .ref a_27, .ref a_28, .ref a_29, .ref a_30, .ref a_31, .ref a_32, .ref a_33, .ref a_34, .ref a_35, .ref a_36])), (a_27, .inl (cy 1, 9, .inl (fun _ => 0))), (a_28, .inl (cy 1, 9, .inl (fun _ => 0))), (a_29, .inl (cy 1, 3, .inl (fun _ => 0))), (a_30, .inl (cy 1, 210, .inl (fun _ => 0))), (a_31, .inl (cy 1, 6, .inl (fun _ => 0))), (a_32, .inl (cy 1, 48, .inl (fun _ => 0))), (a_33, .inl (cy 1, 30, .inl (fun _ => 0))), (a_34, .inl (cy 1, 30, .inl (fun _ => 0))), (a_35, .inl (cy 1, 30, .inl (fun _ => 0))), (a_36, .inl (cy 1, 30, .inl (fun _ => 0))), (a_0, .inr (0, [.int 0, .int 0, .int 0, .int 0, .int 0, .int 0, .int 0, .int 0, .ref a_58, .ref a_59, .ref a_60, .ref a_61, .ref a_62, .ref a_63, .ref a_64, .ref a_65, .ref a_66, .ref a_67])), (a_58, .inl (cy 1, 9, .inl n1)), (a_59, .inl (cy 1, 9, .inl (fun _ => 0))), (a_60, .inl (cy 1, 3, .inl (fun _ => 0))), (a_61, .inl (cy 1, 210, .inl (fun _ => 0))), (a_62, .inl (cy 1, 6, .inl (fun _ => 0))), (a_63, .inl (cy 1, 48, .inl (fun _ => 0))), (a_64, .inl (cy 1, 30, .inl (fun _ => 0))), (a_65, .inl (cy 1, 30, .inl (fun _ => 0))), (a_66, .inl (cy 1, 30, .inl (fun _ => 0))), (a_67, .inl (cy 1, 30, .inl (fun _ => 0)))]) hS
  have w2 := hw
  refine lv_aload_n hx hb dX0_copyFrom_75 rfl (lv_at hl 1 rfl) ?_
  refine va_get (D := G) (ci := 0) (v := .ref a_28) (C := RX0) (T := TX0) (N := 18) hx hb hts (mm_i inlX0) hown hK.1 hP 0 rfl rfl 9 (by decide) (mm_h hts mm_w73) (fun _ h9 => h9) rfl dX0_copyFrom_76 ?_
  refine lv_aload_n hx hb dX0_copyFrom_79 rfl (lv_at hl 0 rfl) ?_
  refine va_get (D := G) (ci := 0) (v := .ref a_59) (C := RX0) (T := TX0) (N := 18) hx hb hts (mm_i inlX0) hown hK.1 hP 11 rfl rfl 9 (by decide) (mm_h hts mm_w73) (fun _ h9 => h9) rfl dX0_copyFrom_80 ?_
  refine mm_finv (va_runS (As := [.ref a_28, .ref a_59]) (rest := []) ⟨hx, hb, hml, hown, hts⟩ (K44_X0_copyRow l G cy H.size a_28 a_59 ) (va_cwS 2 hts (mm_gS mm_w381 mm_w382 mm_w28 mm_w383) rfl rfl rfl hs_X0_copyRow ⟨by rw [hRf]; exact Nat.le_of_ble_eq_true rfl, by rw [hRl]; exact Nat.le_of_ble_eq_true rfl⟩) (mm_preS hK hP hD [2, 13] rfl rfl) rfl rfl hl.1 rfl (lv_room (Nat.le_of_ble_eq_true rfl)) dX0_copyFrom_83 ⟨by rw [hRc]; exact Nat.le_of_ble_eq_true rfl, by rw [hRs]; exact Nat.le_of_ble_eq_true rfl⟩) hP hD hS hA (fun u : (Nat → Int32) => [(a_1, .inr (0, [.int 0, .int 0, .int 0, .int 0, .int 0, .int 0, .int 0, .int 0, .ref a_27, .ref a_28, .ref a_29, .ref a_30, .ref a_31, .ref a_32, .ref a_33, .ref a_34, .ref a_35, .ref a_36])), (a_27, .inl (cy 1, 9, .inl (fun _ => 0))), (a_28, .inl (cy 1, 9, .inl (fun _ => 0))), (a_29, .inl (cy 1, 3, .inl (fun _ => 0))), (a_30, .inl (cy 1, 210, .inl (fun _ => 0))), (a_31, .inl (cy 1, 6, .inl (fun _ => 0))), (a_32, .inl (cy 1, 48, .inl (fun _ => 0))), (a_33, .inl (cy 1, 30, .inl (fun _ => 0))), (a_34, .inl (cy 1, 30, .inl (fun _ => 0))), (a_35, .inl (cy 1, 30, .inl (fun _ => 0))), (a_36, .inl (cy 1, 30, .inl (fun _ => 0))), (a_0, .inr (0, [.int 0, .int 0, .int 0, .int 0, .int 0, .int 0, .int 0, .int 0, .ref a_58, .ref a_59, .ref a_60, .ref a_61, .ref a_62, .ref a_63, .ref a_64, .ref a_65, .ref a_66, .ref a_67])), (a_58, .inl (cy 1, 9, .inl n1)), (a_59, .inl (cy 1, 9, .inl u)), (a_60, .inl (cy 1, 3, .inl (fun _ => 0))), (a_61, .inl (cy 1, 210, .inl (fun _ => 0))), (a_62, .inl (cy 1, 6, .inl (fun _ => 0))), (a_63, .inl (cy 1, 48, .inl (fun _ => 0))), (a_64, .inl (cy 1, 30, .inl (fun _ => 0))), (a_65, .inl (cy 1, 30, .inl (fun _ => 0))), (a_66, .inl (cy 1, 30, .inl (fun _ => 0))), (a_67, .inl (cy 1, 30, .inl (fun _ => 0)))]) [2, 13] [0, 1, 3, 4, 5, 6, 7, 8, 9, 10, 11, 12, 14, 15, 16, 17, 18, 19, 20, 21] (n := 22) (fun _ => rfl) (by decide +kernel) (by decide +kernel) rfl (fun _ => rfl) (wr := [(a_1, .inr (0, [.int 0, .int 0, .int 0, .int 0, .int 0, .int 0, .int 0, .int 0, .ref a_27, .ref a_28, .ref a_29, .ref a_30, .ref a_31, .ref a_32, .ref a_33, .ref a_34, .ref a_35, .ref a_36])), (a_27, .inl (cy 1, 9, .inl (fun _ => 0))), (a_29, .inl (cy 1, 3, .inl (fun _ => 0))), (a_30, .inl (cy 1, 210, .inl (fun _ => 0))), (a_31, .inl (cy 1, 6, .inl (fun _ => 0))), (a_32, .inl (cy 1, 48, .inl (fun _ => 0))), (a_33, .inl (cy 1, 30, .inl (fun _ => 0))), (a_34, .inl (cy 1, 30, .inl (fun _ => 0))), (a_35, .inl (cy 1, 30, .inl (fun _ => 0))), (a_36, .inl (cy 1, 30, .inl (fun _ => 0))), (a_0, .inr (0, [.int 0, .int 0, .int 0, .int 0, .int 0, .int 0, .int 0, .int 0, .ref a_58, .ref a_59, .ref a_60, .ref a_61, .ref a_62, .ref a_63, .ref a_64, .ref a_65, .ref a_66, .ref a_67])), (a_58, .inl (cy 1, 9, .inl n1)), (a_60, .inl (cy 1, 3, .inl (fun _ => 0))), (a_61, .inl (cy 1, 210, .inl (fun _ => 0))), (a_62, .inl (cy 1, 6, .inl (fun _ => 0))), (a_63, .inl (cy 1, 48, .inl (fun _ => 0))), (a_64, .inl (cy 1, 30, .inl (fun _ => 0))), (a_65, .inl (cy 1, 30, .inl (fun _ => 0))), (a_66, .inl (cy 1, 30, .inl (fun _ => 0))), (a_67, .inl (cy 1, 30, .inl (fun _ => 0)))]) rfl (fun _ => rfl) (fun _ => rfl) ?_
  clear hP hD hS
  clear H locs
  intro n3 H locs hw (hP : va_P G vwCl [(a_1, .inr (0, [.int 0, .int 0, .int 0, .int 0, .int 0, .int 0, .int 0, .int 0, .ref a_27, .ref a_28, .ref a_29, .ref a_30, .ref a_31, .ref a_32, .ref a_33, .ref a_34, .ref a_35, .ref a_36])), (a_27, .inl (cy 1, 9, .inl (fun _ => 0))), (a_28, .inl (cy 1, 9, .inl (fun _ => 0))), (a_29, .inl (cy 1, 3, .inl (fun _ => 0))), (a_30, .inl (cy 1, 210, .inl (fun _ => 0))), (a_31, .inl (cy 1, 6, .inl (fun _ => 0))), (a_32, .inl (cy 1, 48, .inl (fun _ => 0))), (a_33, .inl (cy 1, 30, .inl (fun _ => 0))), (a_34, .inl (cy 1, 30, .inl (fun _ => 0))), (a_35, .inl (cy 1, 30, .inl (fun _ => 0))), (a_36, .inl (cy 1, 30, .inl (fun _ => 0))), (a_0, .inr (0, [.int 0, .int 0, .int 0, .int 0, .int 0, .int 0, .int 0, .int 0, .ref a_58, .ref a_59, .ref a_60, .ref a_61, .ref a_62, .ref a_63, .ref a_64, .ref a_65, .ref a_66, .ref a_67])), (a_58, .inl (cy 1, 9, .inl n1)), (a_59, .inl (cy 1, 9, .inl n3)), (a_60, .inl (cy 1, 3, .inl (fun _ => 0))), (a_61, .inl (cy 1, 210, .inl (fun _ => 0))), (a_62, .inl (cy 1, 6, .inl (fun _ => 0))), (a_63, .inl (cy 1, 48, .inl (fun _ => 0))), (a_64, .inl (cy 1, 30, .inl (fun _ => 0))), (a_65, .inl (cy 1, 30, .inl (fun _ => 0))), (a_66, .inl (cy 1, 30, .inl (fun _ => 0))), (a_67, .inl (cy 1, 30, .inl (fun _ => 0)))] H) (hD : va_D A [(a_1, .inr (0, [.int 0, .int 0, .int 0, .int 0, .int 0, .int 0, .int 0, .int 0, .ref a_27, .ref a_28, .ref a_29, .ref a_30, .ref a_31, .ref a_32, .ref a_33, .ref a_34, .ref a_35, .ref a_36])), (a_27, .inl (cy 1, 9, .inl (fun _ => 0))), (a_28, .inl (cy 1, 9, .inl (fun _ => 0))), (a_29, .inl (cy 1, 3, .inl (fun _ => 0))), (a_30, .inl (cy 1, 210, .inl (fun _ => 0))), (a_31, .inl (cy 1, 6, .inl (fun _ => 0))), (a_32, .inl (cy 1, 48, .inl (fun _ => 0))), (a_33, .inl (cy 1, 30, .inl (fun _ => 0))), (a_34, .inl (cy 1, 30, .inl (fun _ => 0))), (a_35, .inl (cy 1, 30, .inl (fun _ => 0))), (a_36, .inl (cy 1, 30, .inl (fun _ => 0))), (a_0, .inr (0, [.int 0, .int 0, .int 0, .int 0, .int 0, .int 0, .int 0, .int 0, .ref a_58, .ref a_59, .ref a_60, .ref a_61, .ref a_62, .ref a_63, .ref a_64, .ref a_65, .ref a_66, .ref a_67])), (a_58, .inl (cy 1, 9, .inl n1)), (a_59, .inl (cy 1, 9, .inl n3)), (a_60, .inl (cy 1, 3, .inl (fun _ => 0))), (a_61, .inl (cy 1, 210, .inl (fun _ => 0))), (a_62, .inl (cy 1, 6, .inl (fun _ => 0))), (a_63, .inl (cy 1, 48, .inl (fun _ => 0))), (a_64, .inl (cy 1, 30, .inl (fun _ => 0))), (a_65, .inl (cy 1, 30, .inl (fun _ => 0))), (a_66, .inl (cy 1, 30, .inl (fun _ => 0))), (a_67, .inl (cy 1, 30, .inl (fun _ => 0)))]) hS
  have w4 := hw
  refine lv_aload_n hx hb dX0_copyFrom_86 rfl (lv_at hl 1 rfl) ?_
  refine va_get (D := G) (ci := 0) (v := .ref a_29) (C := RX0) (T := TX0) (N := 18) hx hb hts (mm_i inlX0) hown hK.1 hP 0 rfl rfl 10 (by decide) (mm_h hts mm_w74) (fun _ h9 => h9) rfl dX0_copyFrom_87 ?_
  refine lv_aload_n hx hb dX0_copyFrom_90 rfl (lv_at hl 0 rfl) ?_
  refine va_get (D := G) (ci := 0) (v := .ref a_60) (C := RX0) (T := TX0) (N := 18) hx hb hts (mm_i inlX0) hown hK.1 hP 11 rfl rfl 10 (by decide) (mm_h hts mm_w74) (fun _ h9 => h9) rfl dX0_copyFrom_91 ?_
  refine mm_finv (va_runS (As := [.ref a_29, .ref a_60]) (rest := []) ⟨hx, hb, hml, hown, hts⟩ (K282_X0_copyRow l G cy H.size a_29 a_60 ) (va_cwS 2 hts (mm_gS mm_w381 mm_w382 mm_w28 mm_w383) rfl rfl rfl hs_X0_copyRow ⟨by rw [hRf]; exact Nat.le_of_ble_eq_true rfl, by rw [hRl]; exact Nat.le_of_ble_eq_true rfl⟩) (mm_preS hK hP hD [3, 14] rfl rfl) rfl rfl hl.1 rfl (lv_room (Nat.le_of_ble_eq_true rfl)) dX0_copyFrom_94 ⟨by rw [hRc]; exact Nat.le_of_ble_eq_true rfl, by rw [hRs]; exact Nat.le_of_ble_eq_true rfl⟩) hP hD hS hA (fun u : (Nat → Int32) => [(a_1, .inr (0, [.int 0, .int 0, .int 0, .int 0, .int 0, .int 0, .int 0, .int 0, .ref a_27, .ref a_28, .ref a_29, .ref a_30, .ref a_31, .ref a_32, .ref a_33, .ref a_34, .ref a_35, .ref a_36])), (a_27, .inl (cy 1, 9, .inl (fun _ => 0))), (a_28, .inl (cy 1, 9, .inl (fun _ => 0))), (a_29, .inl (cy 1, 3, .inl (fun _ => 0))), (a_30, .inl (cy 1, 210, .inl (fun _ => 0))), (a_31, .inl (cy 1, 6, .inl (fun _ => 0))), (a_32, .inl (cy 1, 48, .inl (fun _ => 0))), (a_33, .inl (cy 1, 30, .inl (fun _ => 0))), (a_34, .inl (cy 1, 30, .inl (fun _ => 0))), (a_35, .inl (cy 1, 30, .inl (fun _ => 0))), (a_36, .inl (cy 1, 30, .inl (fun _ => 0))), (a_0, .inr (0, [.int 0, .int 0, .int 0, .int 0, .int 0, .int 0, .int 0, .int 0, .ref a_58, .ref a_59, .ref a_60, .ref a_61, .ref a_62, .ref a_63, .ref a_64, .ref a_65, .ref a_66, .ref a_67])), (a_58, .inl (cy 1, 9, .inl n1)), (a_59, .inl (cy 1, 9, .inl n3)), (a_60, .inl (cy 1, 3, .inl u)), (a_61, .inl (cy 1, 210, .inl (fun _ => 0))), (a_62, .inl (cy 1, 6, .inl (fun _ => 0))), (a_63, .inl (cy 1, 48, .inl (fun _ => 0))), (a_64, .inl (cy 1, 30, .inl (fun _ => 0))), (a_65, .inl (cy 1, 30, .inl (fun _ => 0))), (a_66, .inl (cy 1, 30, .inl (fun _ => 0))), (a_67, .inl (cy 1, 30, .inl (fun _ => 0)))]) [3, 14] [0, 1, 2, 4, 5, 6, 7, 8, 9, 10, 11, 12, 13, 15, 16, 17, 18, 19, 20, 21] (n := 22) (fun _ => rfl) (by decide +kernel) (by decide +kernel) rfl (fun _ => rfl) (wr := [(a_1, .inr (0, [.int 0, .int 0, .int 0, .int 0, .int 0, .int 0, .int 0, .int 0, .ref a_27, .ref a_28, .ref a_29, .ref a_30, .ref a_31, .ref a_32, .ref a_33, .ref a_34, .ref a_35, .ref a_36])), (a_27, .inl (cy 1, 9, .inl (fun _ => 0))), (a_28, .inl (cy 1, 9, .inl (fun _ => 0))), (a_30, .inl (cy 1, 210, .inl (fun _ => 0))), (a_31, .inl (cy 1, 6, .inl (fun _ => 0))), (a_32, .inl (cy 1, 48, .inl (fun _ => 0))), (a_33, .inl (cy 1, 30, .inl (fun _ => 0))), (a_34, .inl (cy 1, 30, .inl (fun _ => 0))), (a_35, .inl (cy 1, 30, .inl (fun _ => 0))), (a_36, .inl (cy 1, 30, .inl (fun _ => 0))), (a_0, .inr (0, [.int 0, .int 0, .int 0, .int 0, .int 0, .int 0, .int 0, .int 0, .ref a_58, .ref a_59, .ref a_60, .ref a_61, .ref a_62, .ref a_63, .ref a_64, .ref a_65, .ref a_66, .ref a_67])), (a_58, .inl (cy 1, 9, .inl n1)), (a_59, .inl (cy 1, 9, .inl n3)), (a_61, .inl (cy 1, 210, .inl (fun _ => 0))), (a_62, .inl (cy 1, 6, .inl (fun _ => 0))), (a_63, .inl (cy 1, 48, .inl (fun _ => 0))), (a_64, .inl (cy 1, 30, .inl (fun _ => 0))), (a_65, .inl (cy 1, 30, .inl (fun _ => 0))), (a_66, .inl (cy 1, 30, .inl (fun _ => 0))), (a_67, .inl (cy 1, 30, .inl (fun _ => 0)))]) rfl (fun _ => rfl) (fun _ => rfl) ?_
  clear hP hD hS
  clear H locs
  intro n5 H locs hw (hP : va_P G vwCl [(a_1, .inr (0, [.int 0, .int 0, .int 0, .int 0, .int 0, .int 0, .int 0, .int 0, .ref a_27, .ref a_28, .ref a_29, .ref a_30, .ref a_31, .ref a_32, .ref a_33, .ref a_34, .ref a_35, .ref a_36])), (a_27, .inl (cy 1, 9, .inl (fun _ => 0))), (a_28, .inl (cy 1, 9, .inl (fun _ => 0))), (a_29, .inl (cy 1, 3, .inl (fun _ => 0))), (a_30, .inl (cy 1, 210, .inl (fun _ => 0))), (a_31, .inl (cy 1, 6, .inl (fun _ => 0))), (a_32, .inl (cy 1, 48, .inl (fun _ => 0))), (a_33, .inl (cy 1, 30, .inl (fun _ => 0))), (a_34, .inl (cy 1, 30, .inl (fun _ => 0))), (a_35, .inl (cy 1, 30, .inl (fun _ => 0))), (a_36, .inl (cy 1, 30, .inl (fun _ => 0))), (a_0, .inr (0, [.int 0, .int 0, .int 0, .int 0, .int 0, .int 0, .int 0, .int 0, .ref a_58, .ref a_59, .ref a_60, .ref a_61, .ref a_62, .ref a_63, .ref a_64, .ref a_65, .ref a_66, .ref a_67])), (a_58, .inl (cy 1, 9, .inl n1)), (a_59, .inl (cy 1, 9, .inl n3)), (a_60, .inl (cy 1, 3, .inl n5)), (a_61, .inl (cy 1, 210, .inl (fun _ => 0))), (a_62, .inl (cy 1, 6, .inl (fun _ => 0))), (a_63, .inl (cy 1, 48, .inl (fun _ => 0))), (a_64, .inl (cy 1, 30, .inl (fun _ => 0))), (a_65, .inl (cy 1, 30, .inl (fun _ => 0))), (a_66, .inl (cy 1, 30, .inl (fun _ => 0))), (a_67, .inl (cy 1, 30, .inl (fun _ => 0)))] H) (hD : va_D A [(a_1, .inr (0, [.int 0, .int 0, .int 0, .int 0, .int 0, .int 0, .int 0, .int 0, .ref a_27, .ref a_28, .ref a_29, .ref a_30, .ref a_31, .ref a_32, .ref a_33, .ref a_34, .ref a_35, .ref a_36])), (a_27, .inl (cy 1, 9, .inl (fun _ => 0))), (a_28, .inl (cy 1, 9, .inl (fun _ => 0))), (a_29, .inl (cy 1, 3, .inl (fun _ => 0))), (a_30, .inl (cy 1, 210, .inl (fun _ => 0))), (a_31, .inl (cy 1, 6, .inl (fun _ => 0))), (a_32, .inl (cy 1, 48, .inl (fun _ => 0))), (a_33, .inl (cy 1, 30, .inl (fun _ => 0))), (a_34, .inl (cy 1, 30, .inl (fun _ => 0))), (a_35, .inl (cy 1, 30, .inl (fun _ => 0))), (a_36, .inl (cy 1, 30, .inl (fun _ => 0))), (a_0, .inr (0, [.int 0, .int 0, .int 0, .int 0, .int 0, .int 0, .int 0, .int 0, .ref a_58, .ref a_59, .ref a_60, .ref a_61, .ref a_62, .ref a_63, .ref a_64, .ref a_65, .ref a_66, .ref a_67])), (a_58, .inl (cy 1, 9, .inl n1)), (a_59, .inl (cy 1, 9, .inl n3)), (a_60, .inl (cy 1, 3, .inl n5)), (a_61, .inl (cy 1, 210, .inl (fun _ => 0))), (a_62, .inl (cy 1, 6, .inl (fun _ => 0))), (a_63, .inl (cy 1, 48, .inl (fun _ => 0))), (a_64, .inl (cy 1, 30, .inl (fun _ => 0))), (a_65, .inl (cy 1, 30, .inl (fun _ => 0))), (a_66, .inl (cy 1, 30, .inl (fun _ => 0))), (a_67, .inl (cy 1, 30, .inl (fun _ => 0)))]) hS
  have w6 := hw
  refine lv_aload_n hx hb dX0_copyFrom_97 rfl (lv_at hl 1 rfl) ?_
  refine va_get (D := G) (ci := 0) (v := .ref a_30) (C := RX0) (T := TX0) (N := 18) hx hb hts (mm_i inlX0) hown hK.1 hP 0 rfl rfl 11 (by decide) (mm_h hts mm_w75) (fun _ h9 => h9) rfl dX0_copyFrom_98 ?_
  refine lv_aload_n hx hb dX0_copyFrom_101 rfl (lv_at hl 0 rfl) ?_
  refine va_get (D := G) (ci := 0) (v := .ref a_61) (C := RX0) (T := TX0) (N := 18) hx hb hts (mm_i inlX0) hown hK.1 hP 11 rfl rfl 11 (by decide) (mm_h hts mm_w75) (fun _ h9 => h9) rfl dX0_copyFrom_102 ?_
  refine mm_finv (va_runS (As := [.ref a_30, .ref a_61]) (rest := []) ⟨hx, hb, hml, hown, hts⟩ (K46_X0_copyRow l G cy H.size a_30 a_61 ) (va_cwS 2 hts (mm_gS mm_w381 mm_w382 mm_w28 mm_w383) rfl rfl rfl hs_X0_copyRow ⟨by rw [hRf]; exact Nat.le_of_ble_eq_true rfl, by rw [hRl]; exact Nat.le_of_ble_eq_true rfl⟩) (mm_preS hK hP hD [4, 15] rfl rfl) rfl rfl hl.1 rfl (lv_room (Nat.le_of_ble_eq_true rfl)) dX0_copyFrom_105 ⟨by rw [hRc]; exact Nat.le_of_ble_eq_true rfl, by rw [hRs]; exact Nat.le_of_ble_eq_true rfl⟩) hP hD hS hA (fun u : (Nat → Int32) => [(a_1, .inr (0, [.int 0, .int 0, .int 0, .int 0, .int 0, .int 0, .int 0, .int 0, .ref a_27, .ref a_28, .ref a_29, .ref a_30, .ref a_31, .ref a_32, .ref a_33, .ref a_34, .ref a_35, .ref a_36])), (a_27, .inl (cy 1, 9, .inl (fun _ => 0))), (a_28, .inl (cy 1, 9, .inl (fun _ => 0))), (a_29, .inl (cy 1, 3, .inl (fun _ => 0))), (a_30, .inl (cy 1, 210, .inl (fun _ => 0))), (a_31, .inl (cy 1, 6, .inl (fun _ => 0))), (a_32, .inl (cy 1, 48, .inl (fun _ => 0))), (a_33, .inl (cy 1, 30, .inl (fun _ => 0))), (a_34, .inl (cy 1, 30, .inl (fun _ => 0))), (a_35, .inl (cy 1, 30, .inl (fun _ => 0))), (a_36, .inl (cy 1, 30, .inl (fun _ => 0))), (a_0, .inr (0, [.int 0, .int 0, .int 0, .int 0, .int 0, .int 0, .int 0, .int 0, .ref a_58, .ref a_59, .ref a_60, .ref a_61, .ref a_62, .ref a_63, .ref a_64, .ref a_65, .ref a_66, .ref a_67])), (a_58, .inl (cy 1, 9, .inl n1)), (a_59, .inl (cy 1, 9, .inl n3)), (a_60, .inl (cy 1, 3, .inl n5)), (a_61, .inl (cy 1, 210, .inl u)), (a_62, .inl (cy 1, 6, .inl (fun _ => 0))), (a_63, .inl (cy 1, 48, .inl (fun _ => 0))), (a_64, .inl (cy 1, 30, .inl (fun _ => 0))), (a_65, .inl (cy 1, 30, .inl (fun _ => 0))), (a_66, .inl (cy 1, 30, .inl (fun _ => 0))), (a_67, .inl (cy 1, 30, .inl (fun _ => 0)))]) [4, 15] [0, 1, 2, 3, 5, 6, 7, 8, 9, 10, 11, 12, 13, 14, 16, 17, 18, 19, 20, 21] (n := 22) (fun _ => rfl) (by decide +kernel) (by decide +kernel) rfl (fun _ => rfl) (wr := [(a_1, .inr (0, [.int 0, .int 0, .int 0, .int 0, .int 0, .int 0, .int 0, .int 0, .ref a_27, .ref a_28, .ref a_29, .ref a_30, .ref a_31, .ref a_32, .ref a_33, .ref a_34, .ref a_35, .ref a_36])), (a_27, .inl (cy 1, 9, .inl (fun _ => 0))), (a_28, .inl (cy 1, 9, .inl (fun _ => 0))), (a_29, .inl (cy 1, 3, .inl (fun _ => 0))), (a_31, .inl (cy 1, 6, .inl (fun _ => 0))), (a_32, .inl (cy 1, 48, .inl (fun _ => 0))), (a_33, .inl (cy 1, 30, .inl (fun _ => 0))), (a_34, .inl (cy 1, 30, .inl (fun _ => 0))), (a_35, .inl (cy 1, 30, .inl (fun _ => 0))), (a_36, .inl (cy 1, 30, .inl (fun _ => 0))), (a_0, .inr (0, [.int 0, .int 0, .int 0, .int 0, .int 0, .int 0, .int 0, .int 0, .ref a_58, .ref a_59, .ref a_60, .ref a_61, .ref a_62, .ref a_63, .ref a_64, .ref a_65, .ref a_66, .ref a_67])), (a_58, .inl (cy 1, 9, .inl n1)), (a_59, .inl (cy 1, 9, .inl n3)), (a_60, .inl (cy 1, 3, .inl n5)), (a_62, .inl (cy 1, 6, .inl (fun _ => 0))), (a_63, .inl (cy 1, 48, .inl (fun _ => 0))), (a_64, .inl (cy 1, 30, .inl (fun _ => 0))), (a_65, .inl (cy 1, 30, .inl (fun _ => 0))), (a_66, .inl (cy 1, 30, .inl (fun _ => 0))), (a_67, .inl (cy 1, 30, .inl (fun _ => 0)))]) rfl (fun _ => rfl) (fun _ => rfl) ?_
  clear hP hD hS
  clear H locs
  intro n7 H locs hw (hP : va_P G vwCl [(a_1, .inr (0, [.int 0, .int 0, .int 0, .int 0, .int 0, .int 0, .int 0, .int 0, .ref a_27, .ref a_28, .ref a_29, .ref a_30, .ref a_31, .ref a_32, .ref a_33, .ref a_34, .ref a_35, .ref a_36])), (a_27, .inl (cy 1, 9, .inl (fun _ => 0))), (a_28, .inl (cy 1, 9, .inl (fun _ => 0))), (a_29, .inl (cy 1, 3, .inl (fun _ => 0))), (a_30, .inl (cy 1, 210, .inl (fun _ => 0))), (a_31, .inl (cy 1, 6, .inl (fun _ => 0))), (a_32, .inl (cy 1, 48, .inl (fun _ => 0))), (a_33, .inl (cy 1, 30, .inl (fun _ => 0))), (a_34, .inl (cy 1, 30, .inl (fun _ => 0))), (a_35, .inl (cy 1, 30, .inl (fun _ => 0))), (a_36, .inl (cy 1, 30, .inl (fun _ => 0))), (a_0, .inr (0, [.int 0, .int 0, .int 0, .int 0, .int 0, .int 0, .int 0, .int 0, .ref a_58, .ref a_59, .ref a_60, .ref a_61, .ref a_62, .ref a_63, .ref a_64, .ref a_65, .ref a_66, .ref a_67])), (a_58, .inl (cy 1, 9, .inl n1)), (a_59, .inl (cy 1, 9, .inl n3)), (a_60, .inl (cy 1, 3, .inl n5)), (a_61, .inl (cy 1, 210, .inl n7)), (a_62, .inl (cy 1, 6, .inl (fun _ => 0))), (a_63, .inl (cy 1, 48, .inl (fun _ => 0))), (a_64, .inl (cy 1, 30, .inl (fun _ => 0))), (a_65, .inl (cy 1, 30, .inl (fun _ => 0))), (a_66, .inl (cy 1, 30, .inl (fun _ => 0))), (a_67, .inl (cy 1, 30, .inl (fun _ => 0)))] H) (hD : va_D A [(a_1, .inr (0, [.int 0, .int 0, .int 0, .int 0, .int 0, .int 0, .int 0, .int 0, .ref a_27, .ref a_28, .ref a_29, .ref a_30, .ref a_31, .ref a_32, .ref a_33, .ref a_34, .ref a_35, .ref a_36])), (a_27, .inl (cy 1, 9, .inl (fun _ => 0))), (a_28, .inl (cy 1, 9, .inl (fun _ => 0))), (a_29, .inl (cy 1, 3, .inl (fun _ => 0))), (a_30, .inl (cy 1, 210, .inl (fun _ => 0))), (a_31, .inl (cy 1, 6, .inl (fun _ => 0))), (a_32, .inl (cy 1, 48, .inl (fun _ => 0))), (a_33, .inl (cy 1, 30, .inl (fun _ => 0))), (a_34, .inl (cy 1, 30, .inl (fun _ => 0))), (a_35, .inl (cy 1, 30, .inl (fun _ => 0))), (a_36, .inl (cy 1, 30, .inl (fun _ => 0))), (a_0, .inr (0, [.int 0, .int 0, .int 0, .int 0, .int 0, .int 0, .int 0, .int 0, .ref a_58, .ref a_59, .ref a_60, .ref a_61, .ref a_62, .ref a_63, .ref a_64, .ref a_65, .ref a_66, .ref a_67])), (a_58, .inl (cy 1, 9, .inl n1)), (a_59, .inl (cy 1, 9, .inl n3)), (a_60, .inl (cy 1, 3, .inl n5)), (a_61, .inl (cy 1, 210, .inl n7)), (a_62, .inl (cy 1, 6, .inl (fun _ => 0))), (a_63, .inl (cy 1, 48, .inl (fun _ => 0))), (a_64, .inl (cy 1, 30, .inl (fun _ => 0))), (a_65, .inl (cy 1, 30, .inl (fun _ => 0))), (a_66, .inl (cy 1, 30, .inl (fun _ => 0))), (a_67, .inl (cy 1, 30, .inl (fun _ => 0)))]) hS
  have w8 := hw
  refine lv_aload_n hx hb dX0_copyFrom_108 rfl (lv_at hl 1 rfl) ?_
  refine va_get (D := G) (ci := 0) (v := .ref a_31) (C := RX0) (T := TX0) (N := 18) hx hb hts (mm_i inlX0) hown hK.1 hP 0 rfl rfl 12 (by decide) (mm_h hts mm_w76) (fun _ h9 => h9) rfl dX0_copyFrom_109 ?_
  refine lv_aload_n hx hb dX0_copyFrom_112 rfl (lv_at hl 0 rfl) ?_
  refine va_get (D := G) (ci := 0) (v := .ref a_62) (C := RX0) (T := TX0) (N := 18) hx hb hts (mm_i inlX0) hown hK.1 hP 11 rfl rfl 12 (by decide) (mm_h hts mm_w76) (fun _ h9 => h9) rfl dX0_copyFrom_113 ?_
  refine mm_finv (va_runS (As := [.ref a_31, .ref a_62]) (rest := []) ⟨hx, hb, hml, hown, hts⟩ (K283_X0_copyRow l G cy H.size a_31 a_62 ) (va_cwS 2 hts (mm_gS mm_w381 mm_w382 mm_w28 mm_w383) rfl rfl rfl hs_X0_copyRow ⟨by rw [hRf]; exact Nat.le_of_ble_eq_true rfl, by rw [hRl]; exact Nat.le_of_ble_eq_true rfl⟩) (mm_preS hK hP hD [5, 16] rfl rfl) rfl rfl hl.1 rfl (lv_room (Nat.le_of_ble_eq_true rfl)) dX0_copyFrom_116 ⟨by rw [hRc]; exact Nat.le_of_ble_eq_true rfl, by rw [hRs]; exact Nat.le_of_ble_eq_true rfl⟩) hP hD hS hA (fun u : (Nat → Int32) => [(a_1, .inr (0, [.int 0, .int 0, .int 0, .int 0, .int 0, .int 0, .int 0, .int 0, .ref a_27, .ref a_28, .ref a_29, .ref a_30, .ref a_31, .ref a_32, .ref a_33, .ref a_34, .ref a_35, .ref a_36])), (a_27, .inl (cy 1, 9, .inl (fun _ => 0))), (a_28, .inl (cy 1, 9, .inl (fun _ => 0))), (a_29, .inl (cy 1, 3, .inl (fun _ => 0))), (a_30, .inl (cy 1, 210, .inl (fun _ => 0))), (a_31, .inl (cy 1, 6, .inl (fun _ => 0))), (a_32, .inl (cy 1, 48, .inl (fun _ => 0))), (a_33, .inl (cy 1, 30, .inl (fun _ => 0))), (a_34, .inl (cy 1, 30, .inl (fun _ => 0))), (a_35, .inl (cy 1, 30, .inl (fun _ => 0))), (a_36, .inl (cy 1, 30, .inl (fun _ => 0))), (a_0, .inr (0, [.int 0, .int 0, .int 0, .int 0, .int 0, .int 0, .int 0, .int 0, .ref a_58, .ref a_59, .ref a_60, .ref a_61, .ref a_62, .ref a_63, .ref a_64, .ref a_65, .ref a_66, .ref a_67])), (a_58, .inl (cy 1, 9, .inl n1)), (a_59, .inl (cy 1, 9, .inl n3)), (a_60, .inl (cy 1, 3, .inl n5)), (a_61, .inl (cy 1, 210, .inl n7)), (a_62, .inl (cy 1, 6, .inl u)), (a_63, .inl (cy 1, 48, .inl (fun _ => 0))), (a_64, .inl (cy 1, 30, .inl (fun _ => 0))), (a_65, .inl (cy 1, 30, .inl (fun _ => 0))), (a_66, .inl (cy 1, 30, .inl (fun _ => 0))), (a_67, .inl (cy 1, 30, .inl (fun _ => 0)))]) [5, 16] [0, 1, 2, 3, 4, 6, 7, 8, 9, 10, 11, 12, 13, 14, 15, 17, 18, 19, 20, 21] (n := 22) (fun _ => rfl) (by decide +kernel) (by decide +kernel) rfl (fun _ => rfl) (wr := [(a_1, .inr (0, [.int 0, .int 0, .int 0, .int 0, .int 0, .int 0, .int 0, .int 0, .ref a_27, .ref a_28, .ref a_29, .ref a_30, .ref a_31, .ref a_32, .ref a_33, .ref a_34, .ref a_35, .ref a_36])), (a_27, .inl (cy 1, 9, .inl (fun _ => 0))), (a_28, .inl (cy 1, 9, .inl (fun _ => 0))), (a_29, .inl (cy 1, 3, .inl (fun _ => 0))), (a_30, .inl (cy 1, 210, .inl (fun _ => 0))), (a_32, .inl (cy 1, 48, .inl (fun _ => 0))), (a_33, .inl (cy 1, 30, .inl (fun _ => 0))), (a_34, .inl (cy 1, 30, .inl (fun _ => 0))), (a_35, .inl (cy 1, 30, .inl (fun _ => 0))), (a_36, .inl (cy 1, 30, .inl (fun _ => 0))), (a_0, .inr (0, [.int 0, .int 0, .int 0, .int 0, .int 0, .int 0, .int 0, .int 0, .ref a_58, .ref a_59, .ref a_60, .ref a_61, .ref a_62, .ref a_63, .ref a_64, .ref a_65, .ref a_66, .ref a_67])), (a_58, .inl (cy 1, 9, .inl n1)), (a_59, .inl (cy 1, 9, .inl n3)), (a_60, .inl (cy 1, 3, .inl n5)), (a_61, .inl (cy 1, 210, .inl n7)), (a_63, .inl (cy 1, 48, .inl (fun _ => 0))), (a_64, .inl (cy 1, 30, .inl (fun _ => 0))), (a_65, .inl (cy 1, 30, .inl (fun _ => 0))), (a_66, .inl (cy 1, 30, .inl (fun _ => 0))), (a_67, .inl (cy 1, 30, .inl (fun _ => 0)))]) rfl (fun _ => rfl) (fun _ => rfl) ?_
  clear hP hD hS
  clear H locs
  intro n9 H locs hw (hP : va_P G vwCl [(a_1, .inr (0, [.int 0, .int 0, .int 0, .int 0, .int 0, .int 0, .int 0, .int 0, .ref a_27, .ref a_28, .ref a_29, .ref a_30, .ref a_31, .ref a_32, .ref a_33, .ref a_34, .ref a_35, .ref a_36])), (a_27, .inl (cy 1, 9, .inl (fun _ => 0))), (a_28, .inl (cy 1, 9, .inl (fun _ => 0))), (a_29, .inl (cy 1, 3, .inl (fun _ => 0))), (a_30, .inl (cy 1, 210, .inl (fun _ => 0))), (a_31, .inl (cy 1, 6, .inl (fun _ => 0))), (a_32, .inl (cy 1, 48, .inl (fun _ => 0))), (a_33, .inl (cy 1, 30, .inl (fun _ => 0))), (a_34, .inl (cy 1, 30, .inl (fun _ => 0))), (a_35, .inl (cy 1, 30, .inl (fun _ => 0))), (a_36, .inl (cy 1, 30, .inl (fun _ => 0))), (a_0, .inr (0, [.int 0, .int 0, .int 0, .int 0, .int 0, .int 0, .int 0, .int 0, .ref a_58, .ref a_59, .ref a_60, .ref a_61, .ref a_62, .ref a_63, .ref a_64, .ref a_65, .ref a_66, .ref a_67])), (a_58, .inl (cy 1, 9, .inl n1)), (a_59, .inl (cy 1, 9, .inl n3)), (a_60, .inl (cy 1, 3, .inl n5)), (a_61, .inl (cy 1, 210, .inl n7)), (a_62, .inl (cy 1, 6, .inl n9)), (a_63, .inl (cy 1, 48, .inl (fun _ => 0))), (a_64, .inl (cy 1, 30, .inl (fun _ => 0))), (a_65, .inl (cy 1, 30, .inl (fun _ => 0))), (a_66, .inl (cy 1, 30, .inl (fun _ => 0))), (a_67, .inl (cy 1, 30, .inl (fun _ => 0)))] H) (hD : va_D A [(a_1, .inr (0, [.int 0, .int 0, .int 0, .int 0, .int 0, .int 0, .int 0, .int 0, .ref a_27, .ref a_28, .ref a_29, .ref a_30, .ref a_31, .ref a_32, .ref a_33, .ref a_34, .ref a_35, .ref a_36])), (a_27, .inl (cy 1, 9, .inl (fun _ => 0))), (a_28, .inl (cy 1, 9, .inl (fun _ => 0))), (a_29, .inl (cy 1, 3, .inl (fun _ => 0))), (a_30, .inl (cy 1, 210, .inl (fun _ => 0))), (a_31, .inl (cy 1, 6, .inl (fun _ => 0))), (a_32, .inl (cy 1, 48, .inl (fun _ => 0))), (a_33, .inl (cy 1, 30, .inl (fun _ => 0))), (a_34, .inl (cy 1, 30, .inl (fun _ => 0))), (a_35, .inl (cy 1, 30, .inl (fun _ => 0))), (a_36, .inl (cy 1, 30, .inl (fun _ => 0))), (a_0, .inr (0, [.int 0, .int 0, .int 0, .int 0, .int 0, .int 0, .int 0, .int 0, .ref a_58, .ref a_59, .ref a_60, .ref a_61, .ref a_62, .ref a_63, .ref a_64, .ref a_65, .ref a_66, .ref a_67])), (a_58, .inl (cy 1, 9, .inl n1)), (a_59, .inl (cy 1, 9, .inl n3)), (a_60, .inl (cy 1, 3, .inl n5)), (a_61, .inl (cy 1, 210, .inl n7)), (a_62, .inl (cy 1, 6, .inl n9)), (a_63, .inl (cy 1, 48, .inl (fun _ => 0))), (a_64, .inl (cy 1, 30, .inl (fun _ => 0))), (a_65, .inl (cy 1, 30, .inl (fun _ => 0))), (a_66, .inl (cy 1, 30, .inl (fun _ => 0))), (a_67, .inl (cy 1, 30, .inl (fun _ => 0)))]) hS
  have w10 := hw
  refine lv_aload_n hx hb dX0_copyFrom_119 rfl (lv_at hl 1 rfl) ?_
  refine va_get (D := G) (ci := 0) (v := .ref a_32) (C := RX0) (T := TX0) (N := 18) hx hb hts (mm_i inlX0) hown hK.1 hP 0 rfl rfl 13 (by decide) (mm_h hts mm_w77) (fun _ h9 => h9) rfl dX0_copyFrom_120 ?_
  refine lv_aload_n hx hb dX0_copyFrom_123 rfl (lv_at hl 0 rfl) ?_
  refine va_get (D := G) (ci := 0) (v := .ref a_63) (C := RX0) (T := TX0) (N := 18) hx hb hts (mm_i inlX0) hown hK.1 hP 11 rfl rfl 13 (by decide) (mm_h hts mm_w77) (fun _ h9 => h9) rfl dX0_copyFrom_124 ?_
  refine mm_finv (va_runS (As := [.ref a_32, .ref a_63]) (rest := []) ⟨hx, hb, hml, hown, hts⟩ (K48_X0_copyRow l G cy H.size a_32 a_63 ) (va_cwS 2 hts (mm_gS mm_w381 mm_w382 mm_w28 mm_w383) rfl rfl rfl hs_X0_copyRow ⟨by rw [hRf]; exact Nat.le_of_ble_eq_true rfl, by rw [hRl]; exact Nat.le_of_ble_eq_true rfl⟩) (mm_preS hK hP hD [6, 17] rfl rfl) rfl rfl hl.1 rfl (lv_room (Nat.le_of_ble_eq_true rfl)) dX0_copyFrom_127 ⟨by rw [hRc]; exact Nat.le_of_ble_eq_true rfl, by rw [hRs]; exact Nat.le_of_ble_eq_true rfl⟩) hP hD hS hA (fun u : (Nat → Int32) => [(a_1, .inr (0, [.int 0, .int 0, .int 0, .int 0, .int 0, .int 0, .int 0, .int 0, .ref a_27, .ref a_28, .ref a_29, .ref a_30, .ref a_31, .ref a_32, .ref a_33, .ref a_34, .ref a_35, .ref a_36])), (a_27, .inl (cy 1, 9, .inl (fun _ => 0))), (a_28, .inl (cy 1, 9, .inl (fun _ => 0))), (a_29, .inl (cy 1, 3, .inl (fun _ => 0))), (a_30, .inl (cy 1, 210, .inl (fun _ => 0))), (a_31, .inl (cy 1, 6, .inl (fun _ => 0))), (a_32, .inl (cy 1, 48, .inl (fun _ => 0))), (a_33, .inl (cy 1, 30, .inl (fun _ => 0))), (a_34, .inl (cy 1, 30, .inl (fun _ => 0))), (a_35, .inl (cy 1, 30, .inl (fun _ => 0))), (a_36, .inl (cy 1, 30, .inl (fun _ => 0))), (a_0, .inr (0, [.int 0, .int 0, .int 0, .int 0, .int 0, .int 0, .int 0, .int 0, .ref a_58, .ref a_59, .ref a_60, .ref a_61, .ref a_62, .ref a_63, .ref a_64, .ref a_65, .ref a_66, .ref a_67])), (a_58, .inl (cy 1, 9, .inl n1)), (a_59, .inl (cy 1, 9, .inl n3)), (a_60, .inl (cy 1, 3, .inl n5)), (a_61, .inl (cy 1, 210, .inl n7)), (a_62, .inl (cy 1, 6, .inl n9)), (a_63, .inl (cy 1, 48, .inl u)), (a_64, .inl (cy 1, 30, .inl (fun _ => 0))), (a_65, .inl (cy 1, 30, .inl (fun _ => 0))), (a_66, .inl (cy 1, 30, .inl (fun _ => 0))), (a_67, .inl (cy 1, 30, .inl (fun _ => 0)))]) [6, 17] [0, 1, 2, 3, 4, 5, 7, 8, 9, 10, 11, 12, 13, 14, 15, 16, 18, 19, 20, 21] (n := 22) (fun _ => rfl) (by decide +kernel) (by decide +kernel) rfl (fun _ => rfl) (wr := [(a_1, .inr (0, [.int 0, .int 0, .int 0, .int 0, .int 0, .int 0, .int 0, .int 0, .ref a_27, .ref a_28, .ref a_29, .ref a_30, .ref a_31, .ref a_32, .ref a_33, .ref a_34, .ref a_35, .ref a_36])), (a_27, .inl (cy 1, 9, .inl (fun _ => 0))), (a_28, .inl (cy 1, 9, .inl (fun _ => 0))), (a_29, .inl (cy 1, 3, .inl (fun _ => 0))), (a_30, .inl (cy 1, 210, .inl (fun _ => 0))), (a_31, .inl (cy 1, 6, .inl (fun _ => 0))), (a_33, .inl (cy 1, 30, .inl (fun _ => 0))), (a_34, .inl (cy 1, 30, .inl (fun _ => 0))), (a_35, .inl (cy 1, 30, .inl (fun _ => 0))), (a_36, .inl (cy 1, 30, .inl (fun _ => 0))), (a_0, .inr (0, [.int 0, .int 0, .int 0, .int 0, .int 0, .int 0, .int 0, .int 0, .ref a_58, .ref a_59, .ref a_60, .ref a_61, .ref a_62, .ref a_63, .ref a_64, .ref a_65, .ref a_66, .ref a_67])), (a_58, .inl (cy 1, 9, .inl n1)), (a_59, .inl (cy 1, 9, .inl n3)), (a_60, .inl (cy 1, 3, .inl n5)), (a_61, .inl (cy 1, 210, .inl n7)), (a_62, .inl (cy 1, 6, .inl n9)), (a_64, .inl (cy 1, 30, .inl (fun _ => 0))), (a_65, .inl (cy 1, 30, .inl (fun _ => 0))), (a_66, .inl (cy 1, 30, .inl (fun _ => 0))), (a_67, .inl (cy 1, 30, .inl (fun _ => 0)))]) rfl (fun _ => rfl) (fun _ => rfl) ?_
  clear hP hD hS
  clear H locs
  intro n11 H locs hw (hP : va_P G vwCl [(a_1, .inr (0, [.int 0, .int 0, .int 0, .int 0, .int 0, .int 0, .int 0, .int 0, .ref a_27, .ref a_28, .ref a_29, .ref a_30, .ref a_31, .ref a_32, .ref a_33, .ref a_34, .ref a_35, .ref a_36])), (a_27, .inl (cy 1, 9, .inl (fun _ => 0))), (a_28, .inl (cy 1, 9, .inl (fun _ => 0))), (a_29, .inl (cy 1, 3, .inl (fun _ => 0))), (a_30, .inl (cy 1, 210, .inl (fun _ => 0))), (a_31, .inl (cy 1, 6, .inl (fun _ => 0))), (a_32, .inl (cy 1, 48, .inl (fun _ => 0))), (a_33, .inl (cy 1, 30, .inl (fun _ => 0))), (a_34, .inl (cy 1, 30, .inl (fun _ => 0))), (a_35, .inl (cy 1, 30, .inl (fun _ => 0))), (a_36, .inl (cy 1, 30, .inl (fun _ => 0))), (a_0, .inr (0, [.int 0, .int 0, .int 0, .int 0, .int 0, .int 0, .int 0, .int 0, .ref a_58, .ref a_59, .ref a_60, .ref a_61, .ref a_62, .ref a_63, .ref a_64, .ref a_65, .ref a_66, .ref a_67])), (a_58, .inl (cy 1, 9, .inl n1)), (a_59, .inl (cy 1, 9, .inl n3)), (a_60, .inl (cy 1, 3, .inl n5)), (a_61, .inl (cy 1, 210, .inl n7)), (a_62, .inl (cy 1, 6, .inl n9)), (a_63, .inl (cy 1, 48, .inl n11)), (a_64, .inl (cy 1, 30, .inl (fun _ => 0))), (a_65, .inl (cy 1, 30, .inl (fun _ => 0))), (a_66, .inl (cy 1, 30, .inl (fun _ => 0))), (a_67, .inl (cy 1, 30, .inl (fun _ => 0)))] H) (hD : va_D A [(a_1, .inr (0, [.int 0, .int 0, .int 0, .int 0, .int 0, .int 0, .int 0, .int 0, .ref a_27, .ref a_28, .ref a_29, .ref a_30, .ref a_31, .ref a_32, .ref a_33, .ref a_34, .ref a_35, .ref a_36])), (a_27, .inl (cy 1, 9, .inl (fun _ => 0))), (a_28, .inl (cy 1, 9, .inl (fun _ => 0))), (a_29, .inl (cy 1, 3, .inl (fun _ => 0))), (a_30, .inl (cy 1, 210, .inl (fun _ => 0))), (a_31, .inl (cy 1, 6, .inl (fun _ => 0))), (a_32, .inl (cy 1, 48, .inl (fun _ => 0))), (a_33, .inl (cy 1, 30, .inl (fun _ => 0))), (a_34, .inl (cy 1, 30, .inl (fun _ => 0))), (a_35, .inl (cy 1, 30, .inl (fun _ => 0))), (a_36, .inl (cy 1, 30, .inl (fun _ => 0))), (a_0, .inr (0, [.int 0, .int 0, .int 0, .int 0, .int 0, .int 0, .int 0, .int 0, .ref a_58, .ref a_59, .ref a_60, .ref a_61, .ref a_62, .ref a_63, .ref a_64, .ref a_65, .ref a_66, .ref a_67])), (a_58, .inl (cy 1, 9, .inl n1)), (a_59, .inl (cy 1, 9, .inl n3)), (a_60, .inl (cy 1, 3, .inl n5)), (a_61, .inl (cy 1, 210, .inl n7)), (a_62, .inl (cy 1, 6, .inl n9)), (a_63, .inl (cy 1, 48, .inl n11)), (a_64, .inl (cy 1, 30, .inl (fun _ => 0))), (a_65, .inl (cy 1, 30, .inl (fun _ => 0))), (a_66, .inl (cy 1, 30, .inl (fun _ => 0))), (a_67, .inl (cy 1, 30, .inl (fun _ => 0)))]) hS
  have w12 := hw
  refine lv_aload_n hx hb dX0_copyFrom_130 rfl (lv_at hl 1 rfl) ?_
  refine va_get (D := G) (ci := 0) (v := .ref a_33) (C := RX0) (T := TX0) (N := 18) hx hb hts (mm_i inlX0) hown hK.1 hP 0 rfl rfl 14 (by decide) (mm_h hts mm_w78) (fun _ h9 => h9) rfl dX0_copyFrom_131 ?_
  refine lv_aload_n hx hb dX0_copyFrom_134 rfl (lv_at hl 0 rfl) ?_
  refine va_get (D := G) (ci := 0) (v := .ref a_64) (C := RX0) (T := TX0) (N := 18) hx hb hts (mm_i inlX0) hown hK.1 hP 11 rfl rfl 14 (by decide) (mm_h hts mm_w78) (fun _ h9 => h9) rfl dX0_copyFrom_135 ?_
  refine mm_finv (va_runS (As := [.ref a_33, .ref a_64]) (rest := []) ⟨hx, hb, hml, hown, hts⟩ (K50_X0_copyRow l G cy H.size a_33 a_64 ) (va_cwS 2 hts (mm_gS mm_w381 mm_w382 mm_w28 mm_w383) rfl rfl rfl hs_X0_copyRow ⟨by rw [hRf]; exact Nat.le_of_ble_eq_true rfl, by rw [hRl]; exact Nat.le_of_ble_eq_true rfl⟩) (mm_preS hK hP hD [7, 18] rfl rfl) rfl rfl hl.1 rfl (lv_room (Nat.le_of_ble_eq_true rfl)) dX0_copyFrom_138 ⟨by rw [hRc]; exact Nat.le_of_ble_eq_true rfl, by rw [hRs]; exact Nat.le_of_ble_eq_true rfl⟩) hP hD hS hA (fun u : (Nat → Int32) => [(a_1, .inr (0, [.int 0, .int 0, .int 0, .int 0, .int 0, .int 0, .int 0, .int 0, .ref a_27, .ref a_28, .ref a_29, .ref a_30, .ref a_31, .ref a_32, .ref a_33, .ref a_34, .ref a_35, .ref a_36])), (a_27, .inl (cy 1, 9, .inl (fun _ => 0))), (a_28, .inl (cy 1, 9, .inl (fun _ => 0))), (a_29, .inl (cy 1, 3, .inl (fun _ => 0))), (a_30, .inl (cy 1, 210, .inl (fun _ => 0))), (a_31, .inl (cy 1, 6, .inl (fun _ => 0))), (a_32, .inl (cy 1, 48, .inl (fun _ => 0))), (a_33, .inl (cy 1, 30, .inl (fun _ => 0))), (a_34, .inl (cy 1, 30, .inl (fun _ => 0))), (a_35, .inl (cy 1, 30, .inl (fun _ => 0))), (a_36, .inl (cy 1, 30, .inl (fun _ => 0))), (a_0, .inr (0, [.int 0, .int 0, .int 0, .int 0, .int 0, .int 0, .int 0, .int 0, .ref a_58, .ref a_59, .ref a_60, .ref a_61, .ref a_62, .ref a_63, .ref a_64, .ref a_65, .ref a_66, .ref a_67])), (a_58, .inl (cy 1, 9, .inl n1)), (a_59, .inl (cy 1, 9, .inl n3)), (a_60, .inl (cy 1, 3, .inl n5)), (a_61, .inl (cy 1, 210, .inl n7)), (a_62, .inl (cy 1, 6, .inl n9)), (a_63, .inl (cy 1, 48, .inl n11)), (a_64, .inl (cy 1, 30, .inl u)), (a_65, .inl (cy 1, 30, .inl (fun _ => 0))), (a_66, .inl (cy 1, 30, .inl (fun _ => 0))), (a_67, .inl (cy 1, 30, .inl (fun _ => 0)))]) [7, 18] [0, 1, 2, 3, 4, 5, 6, 8, 9, 10, 11, 12, 13, 14, 15, 16, 17, 19, 20, 21] (n := 22) (fun _ => rfl) (by decide +kernel) (by decide +kernel) rfl (fun _ => rfl) (wr := [(a_1, .inr (0, [.int 0, .int 0, .int 0, .int 0, .int 0, .int 0, .int 0, .int 0, .ref a_27, .ref a_28, .ref a_29, .ref a_30, .ref a_31, .ref a_32, .ref a_33, .ref a_34, .ref a_35, .ref a_36])), (a_27, .inl (cy 1, 9, .inl (fun _ => 0))), (a_28, .inl (cy 1, 9, .inl (fun _ => 0))), (a_29, .inl (cy 1, 3, .inl (fun _ => 0))), (a_30, .inl (cy 1, 210, .inl (fun _ => 0))), (a_31, .inl (cy 1, 6, .inl (fun _ => 0))), (a_32, .inl (cy 1, 48, .inl (fun _ => 0))), (a_34, .inl (cy 1, 30, .inl (fun _ => 0))), (a_35, .inl (cy 1, 30, .inl (fun _ => 0))), (a_36, .inl (cy 1, 30, .inl (fun _ => 0))), (a_0, .inr (0, [.int 0, .int 0, .int 0, .int 0, .int 0, .int 0, .int 0, .int 0, .ref a_58, .ref a_59, .ref a_60, .ref a_61, .ref a_62, .ref a_63, .ref a_64, .ref a_65, .ref a_66, .ref a_67])), (a_58, .inl (cy 1, 9, .inl n1)), (a_59, .inl (cy 1, 9, .inl n3)), (a_60, .inl (cy 1, 3, .inl n5)), (a_61, .inl (cy 1, 210, .inl n7)), (a_62, .inl (cy 1, 6, .inl n9)), (a_63, .inl (cy 1, 48, .inl n11)), (a_65, .inl (cy 1, 30, .inl (fun _ => 0))), (a_66, .inl (cy 1, 30, .inl (fun _ => 0))), (a_67, .inl (cy 1, 30, .inl (fun _ => 0)))]) rfl (fun _ => rfl) (fun _ => rfl) ?_
  clear hP hD hS
  clear H locs
  intro n13 H locs hw (hP : va_P G vwCl [(a_1, .inr (0, [.int 0, .int 0, .int 0, .int 0, .int 0, .int 0, .int 0, .int 0, .ref a_27, .ref a_28, .ref a_29, .ref a_30, .ref a_31, .ref a_32, .ref a_33, .ref a_34, .ref a_35, .ref a_36])), (a_27, .inl (cy 1, 9, .inl (fun _ => 0))), (a_28, .inl (cy 1, 9, .inl (fun _ => 0))), (a_29, .inl (cy 1, 3, .inl (fun _ => 0))), (a_30, .inl (cy 1, 210, .inl (fun _ => 0))), (a_31, .inl (cy 1, 6, .inl (fun _ => 0))), (a_32, .inl (cy 1, 48, .inl (fun _ => 0))), (a_33, .inl (cy 1, 30, .inl (fun _ => 0))), (a_34, .inl (cy 1, 30, .inl (fun _ => 0))), (a_35, .inl (cy 1, 30, .inl (fun _ => 0))), (a_36, .inl (cy 1, 30, .inl (fun _ => 0))), (a_0, .inr (0, [.int 0, .int 0, .int 0, .int 0, .int 0, .int 0, .int 0, .int 0, .ref a_58, .ref a_59, .ref a_60, .ref a_61, .ref a_62, .ref a_63, .ref a_64, .ref a_65, .ref a_66, .ref a_67])), (a_58, .inl (cy 1, 9, .inl n1)), (a_59, .inl (cy 1, 9, .inl n3)), (a_60, .inl (cy 1, 3, .inl n5)), (a_61, .inl (cy 1, 210, .inl n7)), (a_62, .inl (cy 1, 6, .inl n9)), (a_63, .inl (cy 1, 48, .inl n11)), (a_64, .inl (cy 1, 30, .inl n13)), (a_65, .inl (cy 1, 30, .inl (fun _ => 0))), (a_66, .inl (cy 1, 30, .inl (fun _ => 0))), (a_67, .inl (cy 1, 30, .inl (fun _ => 0)))] H) (hD : va_D A [(a_1, .inr (0, [.int 0, .int 0, .int 0, .int 0, .int 0, .int 0, .int 0, .int 0, .ref a_27, .ref a_28, .ref a_29, .ref a_30, .ref a_31, .ref a_32, .ref a_33, .ref a_34, .ref a_35, .ref a_36])), (a_27, .inl (cy 1, 9, .inl (fun _ => 0))), (a_28, .inl (cy 1, 9, .inl (fun _ => 0))), (a_29, .inl (cy 1, 3, .inl (fun _ => 0))), (a_30, .inl (cy 1, 210, .inl (fun _ => 0))), (a_31, .inl (cy 1, 6, .inl (fun _ => 0))), (a_32, .inl (cy 1, 48, .inl (fun _ => 0))), (a_33, .inl (cy 1, 30, .inl (fun _ => 0))), (a_34, .inl (cy 1, 30, .inl (fun _ => 0))), (a_35, .inl (cy 1, 30, .inl (fun _ => 0))), (a_36, .inl (cy 1, 30, .inl (fun _ => 0))), (a_0, .inr (0, [.int 0, .int 0, .int 0, .int 0, .int 0, .int 0, .int 0, .int 0, .ref a_58, .ref a_59, .ref a_60, .ref a_61, .ref a_62, .ref a_63, .ref a_64, .ref a_65, .ref a_66, .ref a_67])), (a_58, .inl (cy 1, 9, .inl n1)), (a_59, .inl (cy 1, 9, .inl n3)), (a_60, .inl (cy 1, 3, .inl n5)), (a_61, .inl (cy 1, 210, .inl n7)), (a_62, .inl (cy 1, 6, .inl n9)), (a_63, .inl (cy 1, 48, .inl n11)), (a_64, .inl (cy 1, 30, .inl n13)), (a_65, .inl (cy 1, 30, .inl (fun _ => 0))), (a_66, .inl (cy 1, 30, .inl (fun _ => 0))), (a_67, .inl (cy 1, 30, .inl (fun _ => 0)))]) hS
  have w14 := hw
  refine lv_aload_n hx hb dX0_copyFrom_141 rfl (lv_at hl 1 rfl) ?_
  refine va_get (D := G) (ci := 0) (v := .ref a_34) (C := RX0) (T := TX0) (N := 18) hx hb hts (mm_i inlX0) hown hK.1 hP 0 rfl rfl 15 (by decide) (mm_h hts mm_w79) (fun _ h9 => h9) rfl dX0_copyFrom_142 ?_
  refine lv_aload_n hx hb dX0_copyFrom_145 rfl (lv_at hl 0 rfl) ?_
  refine va_get (D := G) (ci := 0) (v := .ref a_65) (C := RX0) (T := TX0) (N := 18) hx hb hts (mm_i inlX0) hown hK.1 hP 11 rfl rfl 15 (by decide) (mm_h hts mm_w79) (fun _ h9 => h9) rfl dX0_copyFrom_146 ?_
  refine mm_finv (va_runS (As := [.ref a_34, .ref a_65]) (rest := []) ⟨hx, hb, hml, hown, hts⟩ (K50_X0_copyRow l G cy H.size a_34 a_65 ) (va_cwS 2 hts (mm_gS mm_w381 mm_w382 mm_w28 mm_w383) rfl rfl rfl hs_X0_copyRow ⟨by rw [hRf]; exact Nat.le_of_ble_eq_true rfl, by rw [hRl]; exact Nat.le_of_ble_eq_true rfl⟩) (mm_preS hK hP hD [8, 19] rfl rfl) rfl rfl hl.1 rfl (lv_room (Nat.le_of_ble_eq_true rfl)) dX0_copyFrom_149 ⟨by rw [hRc]; exact Nat.le_of_ble_eq_true rfl, by rw [hRs]; exact Nat.le_of_ble_eq_true rfl⟩) hP hD hS hA (fun u : (Nat → Int32) => [(a_1, .inr (0, [.int 0, .int 0, .int 0, .int 0, .int 0, .int 0, .int 0, .int 0, .ref a_27, .ref a_28, .ref a_29, .ref a_30, .ref a_31, .ref a_32, .ref a_33, .ref a_34, .ref a_35, .ref a_36])), (a_27, .inl (cy 1, 9, .inl (fun _ => 0))), (a_28, .inl (cy 1, 9, .inl (fun _ => 0))), (a_29, .inl (cy 1, 3, .inl (fun _ => 0))), (a_30, .inl (cy 1, 210, .inl (fun _ => 0))), (a_31, .inl (cy 1, 6, .inl (fun _ => 0))), (a_32, .inl (cy 1, 48, .inl (fun _ => 0))), (a_33, .inl (cy 1, 30, .inl (fun _ => 0))), (a_34, .inl (cy 1, 30, .inl (fun _ => 0))), (a_35, .inl (cy 1, 30, .inl (fun _ => 0))), (a_36, .inl (cy 1, 30, .inl (fun _ => 0))), (a_0, .inr (0, [.int 0, .int 0, .int 0, .int 0, .int 0, .int 0, .int 0, .int 0, .ref a_58, .ref a_59, .ref a_60, .ref a_61, .ref a_62, .ref a_63, .ref a_64, .ref a_65, .ref a_66, .ref a_67])), (a_58, .inl (cy 1, 9, .inl n1)), (a_59, .inl (cy 1, 9, .inl n3)), (a_60, .inl (cy 1, 3, .inl n5)), (a_61, .inl (cy 1, 210, .inl n7)), (a_62, .inl (cy 1, 6, .inl n9)), (a_63, .inl (cy 1, 48, .inl n11)), (a_64, .inl (cy 1, 30, .inl n13)), (a_65, .inl (cy 1, 30, .inl u)), (a_66, .inl (cy 1, 30, .inl (fun _ => 0))), (a_67, .inl (cy 1, 30, .inl (fun _ => 0)))]) [8, 19] [0, 1, 2, 3, 4, 5, 6, 7, 9, 10, 11, 12, 13, 14, 15, 16, 17, 18, 20, 21] (n := 22) (fun _ => rfl) (by decide +kernel) (by decide +kernel) rfl (fun _ => rfl) (wr := [(a_1, .inr (0, [.int 0, .int 0, .int 0, .int 0, .int 0, .int 0, .int 0, .int 0, .ref a_27, .ref a_28, .ref a_29, .ref a_30, .ref a_31, .ref a_32, .ref a_33, .ref a_34, .ref a_35, .ref a_36])), (a_27, .inl (cy 1, 9, .inl (fun _ => 0))), (a_28, .inl (cy 1, 9, .inl (fun _ => 0))), (a_29, .inl (cy 1, 3, .inl (fun _ => 0))), (a_30, .inl (cy 1, 210, .inl (fun _ => 0))), (a_31, .inl (cy 1, 6, .inl (fun _ => 0))), (a_32, .inl (cy 1, 48, .inl (fun _ => 0))), (a_33, .inl (cy 1, 30, .inl (fun _ => 0))), (a_35, .inl (cy 1, 30, .inl (fun _ => 0))), (a_36, .inl (cy 1, 30, .inl (fun _ => 0))), (a_0, .inr (0, [.int 0, .int 0, .int 0, .int 0, .int 0, .int 0, .int 0, .int 0, .ref a_58, .ref a_59, .ref a_60, .ref a_61, .ref a_62, .ref a_63, .ref a_64, .ref a_65, .ref a_66, .ref a_67])), (a_58, .inl (cy 1, 9, .inl n1)), (a_59, .inl (cy 1, 9, .inl n3)), (a_60, .inl (cy 1, 3, .inl n5)), (a_61, .inl (cy 1, 210, .inl n7)), (a_62, .inl (cy 1, 6, .inl n9)), (a_63, .inl (cy 1, 48, .inl n11)), (a_64, .inl (cy 1, 30, .inl n13)), (a_66, .inl (cy 1, 30, .inl (fun _ => 0))), (a_67, .inl (cy 1, 30, .inl (fun _ => 0)))]) rfl (fun _ => rfl) (fun _ => rfl) ?_
  clear hP hD hS
  clear H locs
  intro n15 H locs hw (hP : va_P G vwCl [(a_1, .inr (0, [.int 0, .int 0, .int 0, .int 0, .int 0, .int 0, .int 0, .int 0, .ref a_27, .ref a_28, .ref a_29, .ref a_30, .ref a_31, .ref a_32, .ref a_33, .ref a_34, .ref a_35, .ref a_36])), (a_27, .inl (cy 1, 9, .inl (fun _ => 0))), (a_28, .inl (cy 1, 9, .inl (fun _ => 0))), (a_29, .inl (cy 1, 3, .inl (fun _ => 0))), (a_30, .inl (cy 1, 210, .inl (fun _ => 0))), (a_31, .inl (cy 1, 6, .inl (fun _ => 0))), (a_32, .inl (cy 1, 48, .inl (fun _ => 0))), (a_33, .inl (cy 1, 30, .inl (fun _ => 0))), (a_34, .inl (cy 1, 30, .inl (fun _ => 0))), (a_35, .inl (cy 1, 30, .inl (fun _ => 0))), (a_36, .inl (cy 1, 30, .inl (fun _ => 0))), (a_0, .inr (0, [.int 0, .int 0, .int 0, .int 0, .int 0, .int 0, .int 0, .int 0, .ref a_58, .ref a_59, .ref a_60, .ref a_61, .ref a_62, .ref a_63, .ref a_64, .ref a_65, .ref a_66, .ref a_67])), (a_58, .inl (cy 1, 9, .inl n1)), (a_59, .inl (cy 1, 9, .inl n3)), (a_60, .inl (cy 1, 3, .inl n5)), (a_61, .inl (cy 1, 210, .inl n7)), (a_62, .inl (cy 1, 6, .inl n9)), (a_63, .inl (cy 1, 48, .inl n11)), (a_64, .inl (cy 1, 30, .inl n13)), (a_65, .inl (cy 1, 30, .inl n15)), (a_66, .inl (cy 1, 30, .inl (fun _ => 0))), (a_67, .inl (cy 1, 30, .inl (fun _ => 0)))] H) (hD : va_D A [(a_1, .inr (0, [.int 0, .int 0, .int 0, .int 0, .int 0, .int 0, .int 0, .int 0, .ref a_27, .ref a_28, .ref a_29, .ref a_30, .ref a_31, .ref a_32, .ref a_33, .ref a_34, .ref a_35, .ref a_36])), (a_27, .inl (cy 1, 9, .inl (fun _ => 0))), (a_28, .inl (cy 1, 9, .inl (fun _ => 0))), (a_29, .inl (cy 1, 3, .inl (fun _ => 0))), (a_30, .inl (cy 1, 210, .inl (fun _ => 0))), (a_31, .inl (cy 1, 6, .inl (fun _ => 0))), (a_32, .inl (cy 1, 48, .inl (fun _ => 0))), (a_33, .inl (cy 1, 30, .inl (fun _ => 0))), (a_34, .inl (cy 1, 30, .inl (fun _ => 0))), (a_35, .inl (cy 1, 30, .inl (fun _ => 0))), (a_36, .inl (cy 1, 30, .inl (fun _ => 0))), (a_0, .inr (0, [.int 0, .int 0, .int 0, .int 0, .int 0, .int 0, .int 0, .int 0, .ref a_58, .ref a_59, .ref a_60, .ref a_61, .ref a_62, .ref a_63, .ref a_64, .ref a_65, .ref a_66, .ref a_67])), (a_58, .inl (cy 1, 9, .inl n1)), (a_59, .inl (cy 1, 9, .inl n3)), (a_60, .inl (cy 1, 3, .inl n5)), (a_61, .inl (cy 1, 210, .inl n7)), (a_62, .inl (cy 1, 6, .inl n9)), (a_63, .inl (cy 1, 48, .inl n11)), (a_64, .inl (cy 1, 30, .inl n13)), (a_65, .inl (cy 1, 30, .inl n15)), (a_66, .inl (cy 1, 30, .inl (fun _ => 0))), (a_67, .inl (cy 1, 30, .inl (fun _ => 0)))]) hS
  have w16 := hw
  refine lv_aload_n hx hb dX0_copyFrom_152 rfl (lv_at hl 1 rfl) ?_
  refine va_get (D := G) (ci := 0) (v := .ref a_35) (C := RX0) (T := TX0) (N := 18) hx hb hts (mm_i inlX0) hown hK.1 hP 0 rfl rfl 16 (by decide) (mm_h hts mm_w80) (fun _ h9 => h9) rfl dX0_copyFrom_153 ?_
  refine lv_aload_n hx hb dX0_copyFrom_156 rfl (lv_at hl 0 rfl) ?_
  refine va_get (D := G) (ci := 0) (v := .ref a_66) (C := RX0) (T := TX0) (N := 18) hx hb hts (mm_i inlX0) hown hK.1 hP 11 rfl rfl 16 (by decide) (mm_h hts mm_w80) (fun _ h9 => h9) rfl dX0_copyFrom_157 ?_
  refine mm_finv (va_runS (As := [.ref a_35, .ref a_66]) (rest := []) ⟨hx, hb, hml, hown, hts⟩ (K50_X0_copyRow l G cy H.size a_35 a_66 ) (va_cwS 2 hts (mm_gS mm_w381 mm_w382 mm_w28 mm_w383) rfl rfl rfl hs_X0_copyRow ⟨by rw [hRf]; exact Nat.le_of_ble_eq_true rfl, by rw [hRl]; exact Nat.le_of_ble_eq_true rfl⟩) (mm_preS hK hP hD [9, 20] rfl rfl) rfl rfl hl.1 rfl (lv_room (Nat.le_of_ble_eq_true rfl)) dX0_copyFrom_160 ⟨by rw [hRc]; exact Nat.le_of_ble_eq_true rfl, by rw [hRs]; exact Nat.le_of_ble_eq_true rfl⟩) hP hD hS hA (fun u : (Nat → Int32) => [(a_1, .inr (0, [.int 0, .int 0, .int 0, .int 0, .int 0, .int 0, .int 0, .int 0, .ref a_27, .ref a_28, .ref a_29, .ref a_30, .ref a_31, .ref a_32, .ref a_33, .ref a_34, .ref a_35, .ref a_36])), (a_27, .inl (cy 1, 9, .inl (fun _ => 0))), (a_28, .inl (cy 1, 9, .inl (fun _ => 0))), (a_29, .inl (cy 1, 3, .inl (fun _ => 0))), (a_30, .inl (cy 1, 210, .inl (fun _ => 0))), (a_31, .inl (cy 1, 6, .inl (fun _ => 0))), (a_32, .inl (cy 1, 48, .inl (fun _ => 0))), (a_33, .inl (cy 1, 30, .inl (fun _ => 0))), (a_34, .inl (cy 1, 30, .inl (fun _ => 0))), (a_35, .inl (cy 1, 30, .inl (fun _ => 0))), (a_36, .inl (cy 1, 30, .inl (fun _ => 0))), (a_0, .inr (0, [.int 0, .int 0, .int 0, .int 0, .int 0, .int 0, .int 0, .int 0, .ref a_58, .ref a_59, .ref a_60, .ref a_61, .ref a_62, .ref a_63, .ref a_64, .ref a_65, .ref a_66, .ref a_67])), (a_58, .inl (cy 1, 9, .inl n1)), (a_59, .inl (cy 1, 9, .inl n3)), (a_60, .inl (cy 1, 3, .inl n5)), (a_61, .inl (cy 1, 210, .inl n7)), (a_62, .inl (cy 1, 6, .inl n9)), (a_63, .inl (cy 1, 48, .inl n11)), (a_64, .inl (cy 1, 30, .inl n13)), (a_65, .inl (cy 1, 30, .inl n15)), (a_66, .inl (cy 1, 30, .inl u)), (a_67, .inl (cy 1, 30, .inl (fun _ => 0)))]) [9, 20] [0, 1, 2, 3, 4, 5, 6, 7, 8, 10, 11, 12, 13, 14, 15, 16, 17, 18, 19, 21] (n := 22) (fun _ => rfl) (by decide +kernel) (by decide +kernel) rfl (fun _ => rfl) (wr := [(a_1, .inr (0, [.int 0, .int 0, .int 0, .int 0, .int 0, .int 0, .int 0, .int 0, .ref a_27, .ref a_28, .ref a_29, .ref a_30, .ref a_31, .ref a_32, .ref a_33, .ref a_34, .ref a_35, .ref a_36])), (a_27, .inl (cy 1, 9, .inl (fun _ => 0))), (a_28, .inl (cy 1, 9, .inl (fun _ => 0))), (a_29, .inl (cy 1, 3, .inl (fun _ => 0))), (a_30, .inl (cy 1, 210, .inl (fun _ => 0))), (a_31, .inl (cy 1, 6, .inl (fun _ => 0))), (a_32, .inl (cy 1, 48, .inl (fun _ => 0))), (a_33, .inl (cy 1, 30, .inl (fun _ => 0))), (a_34, .inl (cy 1, 30, .inl (fun _ => 0))), (a_36, .inl (cy 1, 30, .inl (fun _ => 0))), (a_0, .inr (0, [.int 0, .int 0, .int 0, .int 0, .int 0, .int 0, .int 0, .int 0, .ref a_58, .ref a_59, .ref a_60, .ref a_61, .ref a_62, .ref a_63, .ref a_64, .ref a_65, .ref a_66, .ref a_67])), (a_58, .inl (cy 1, 9, .inl n1)), (a_59, .inl (cy 1, 9, .inl n3)), (a_60, .inl (cy 1, 3, .inl n5)), (a_61, .inl (cy 1, 210, .inl n7)), (a_62, .inl (cy 1, 6, .inl n9)), (a_63, .inl (cy 1, 48, .inl n11)), (a_64, .inl (cy 1, 30, .inl n13)), (a_65, .inl (cy 1, 30, .inl n15)), (a_67, .inl (cy 1, 30, .inl (fun _ => 0)))]) rfl (fun _ => rfl) (fun _ => rfl) ?_
  clear hP hD hS
  clear H locs
  intro n17 H locs hw (hP : va_P G vwCl [(a_1, .inr (0, [.int 0, .int 0, .int 0, .int 0, .int 0, .int 0, .int 0, .int 0, .ref a_27, .ref a_28, .ref a_29, .ref a_30, .ref a_31, .ref a_32, .ref a_33, .ref a_34, .ref a_35, .ref a_36])), (a_27, .inl (cy 1, 9, .inl (fun _ => 0))), (a_28, .inl (cy 1, 9, .inl (fun _ => 0))), (a_29, .inl (cy 1, 3, .inl (fun _ => 0))), (a_30, .inl (cy 1, 210, .inl (fun _ => 0))), (a_31, .inl (cy 1, 6, .inl (fun _ => 0))), (a_32, .inl (cy 1, 48, .inl (fun _ => 0))), (a_33, .inl (cy 1, 30, .inl (fun _ => 0))), (a_34, .inl (cy 1, 30, .inl (fun _ => 0))), (a_35, .inl (cy 1, 30, .inl (fun _ => 0))), (a_36, .inl (cy 1, 30, .inl (fun _ => 0))), (a_0, .inr (0, [.int 0, .int 0, .int 0, .int 0, .int 0, .int 0, .int 0, .int 0, .ref a_58, .ref a_59, .ref a_60, .ref a_61, .ref a_62, .ref a_63, .ref a_64, .ref a_65, .ref a_66, .ref a_67])), (a_58, .inl (cy 1, 9, .inl n1)), (a_59, .inl (cy 1, 9, .inl n3)), (a_60, .inl (cy 1, 3, .inl n5)), (a_61, .inl (cy 1, 210, .inl n7)), (a_62, .inl (cy 1, 6, .inl n9)), (a_63, .inl (cy 1, 48, .inl n11)), (a_64, .inl (cy 1, 30, .inl n13)), (a_65, .inl (cy 1, 30, .inl n15)), (a_66, .inl (cy 1, 30, .inl n17)), (a_67, .inl (cy 1, 30, .inl (fun _ => 0)))] H) (hD : va_D A [(a_1, .inr (0, [.int 0, .int 0, .int 0, .int 0, .int 0, .int 0, .int 0, .int 0, .ref a_27, .ref a_28, .ref a_29, .ref a_30, .ref a_31, .ref a_32, .ref a_33, .ref a_34, .ref a_35, .ref a_36])), (a_27, .inl (cy 1, 9, .inl (fun _ => 0))), (a_28, .inl (cy 1, 9, .inl (fun _ => 0))), (a_29, .inl (cy 1, 3, .inl (fun _ => 0))), (a_30, .inl (cy 1, 210, .inl (fun _ => 0))), (a_31, .inl (cy 1, 6, .inl (fun _ => 0))), (a_32, .inl (cy 1, 48, .inl (fun _ => 0))), (a_33, .inl (cy 1, 30, .inl (fun _ => 0))), (a_34, .inl (cy 1, 30, .inl (fun _ => 0))), (a_35, .inl (cy 1, 30, .inl (fun _ => 0))), (a_36, .inl (cy 1, 30, .inl (fun _ => 0))), (a_0, .inr (0, [.int 0, .int 0, .int 0, .int 0, .int 0, .int 0, .int 0, .int 0, .ref a_58, .ref a_59, .ref a_60, .ref a_61, .ref a_62, .ref a_63, .ref a_64, .ref a_65, .ref a_66, .ref a_67])), (a_58, .inl (cy 1, 9, .inl n1)), (a_59, .inl (cy 1, 9, .inl n3)), (a_60, .inl (cy 1, 3, .inl n5)), (a_61, .inl (cy 1, 210, .inl n7)), (a_62, .inl (cy 1, 6, .inl n9)), (a_63, .inl (cy 1, 48, .inl n11)), (a_64, .inl (cy 1, 30, .inl n13)), (a_65, .inl (cy 1, 30, .inl n15)), (a_66, .inl (cy 1, 30, .inl n17)), (a_67, .inl (cy 1, 30, .inl (fun _ => 0)))]) hS
  have w18 := hw
  refine lv_aload_n hx hb dX0_copyFrom_163 rfl (lv_at hl 1 rfl) ?_
  refine va_get (D := G) (ci := 0) (v := .ref a_36) (C := RX0) (T := TX0) (N := 18) hx hb hts (mm_i inlX0) hown hK.1 hP 0 rfl rfl 17 (by decide) (mm_h hts mm_w81) (fun _ h9 => h9) rfl dX0_copyFrom_164 ?_
  refine lv_aload_n hx hb dX0_copyFrom_167 rfl (lv_at hl 0 rfl) ?_
  refine va_get (D := G) (ci := 0) (v := .ref a_67) (C := RX0) (T := TX0) (N := 18) hx hb hts (mm_i inlX0) hown hK.1 hP 11 rfl rfl 17 (by decide) (mm_h hts mm_w81) (fun _ h9 => h9) rfl dX0_copyFrom_168 ?_
  refine mm_finv (va_runS (As := [.ref a_36, .ref a_67]) (rest := []) ⟨hx, hb, hml, hown, hts⟩ (K50_X0_copyRow l G cy H.size a_36 a_67 ) (va_cwS 2 hts (mm_gS mm_w381 mm_w382 mm_w28 mm_w383) rfl rfl rfl hs_X0_copyRow ⟨by rw [hRf]; exact Nat.le_of_ble_eq_true rfl, by rw [hRl]; exact Nat.le_of_ble_eq_true rfl⟩) (mm_preS hK hP hD [10, 21] rfl rfl) rfl rfl hl.1 rfl (lv_room (Nat.le_of_ble_eq_true rfl)) dX0_copyFrom_171 ⟨by rw [hRc]; exact Nat.le_of_ble_eq_true rfl, by rw [hRs]; exact Nat.le_of_ble_eq_true rfl⟩) hP hD hS hA (fun u : (Nat → Int32) => [(a_1, .inr (0, [.int 0, .int 0, .int 0, .int 0, .int 0, .int 0, .int 0, .int 0, .ref a_27, .ref a_28, .ref a_29, .ref a_30, .ref a_31, .ref a_32, .ref a_33, .ref a_34, .ref a_35, .ref a_36])), (a_27, .inl (cy 1, 9, .inl (fun _ => 0))), (a_28, .inl (cy 1, 9, .inl (fun _ => 0))), (a_29, .inl (cy 1, 3, .inl (fun _ => 0))), (a_30, .inl (cy 1, 210, .inl (fun _ => 0))), (a_31, .inl (cy 1, 6, .inl (fun _ => 0))), (a_32, .inl (cy 1, 48, .inl (fun _ => 0))), (a_33, .inl (cy 1, 30, .inl (fun _ => 0))), (a_34, .inl (cy 1, 30, .inl (fun _ => 0))), (a_35, .inl (cy 1, 30, .inl (fun _ => 0))), (a_36, .inl (cy 1, 30, .inl (fun _ => 0))), (a_0, .inr (0, [.int 0, .int 0, .int 0, .int 0, .int 0, .int 0, .int 0, .int 0, .ref a_58, .ref a_59, .ref a_60, .ref a_61, .ref a_62, .ref a_63, .ref a_64, .ref a_65, .ref a_66, .ref a_67])), (a_58, .inl (cy 1, 9, .inl n1)), (a_59, .inl (cy 1, 9, .inl n3)), (a_60, .inl (cy 1, 3, .inl n5)), (a_61, .inl (cy 1, 210, .inl n7)), (a_62, .inl (cy 1, 6, .inl n9)), (a_63, .inl (cy 1, 48, .inl n11)), (a_64, .inl (cy 1, 30, .inl n13)), (a_65, .inl (cy 1, 30, .inl n15)), (a_66, .inl (cy 1, 30, .inl n17)), (a_67, .inl (cy 1, 30, .inl u))]) [10, 21] [0, 1, 2, 3, 4, 5, 6, 7, 8, 9, 11, 12, 13, 14, 15, 16, 17, 18, 19, 20] (n := 22) (fun _ => rfl) (by decide +kernel) (by decide +kernel) rfl (fun _ => rfl) (wr := [(a_1, .inr (0, [.int 0, .int 0, .int 0, .int 0, .int 0, .int 0, .int 0, .int 0, .ref a_27, .ref a_28, .ref a_29, .ref a_30, .ref a_31, .ref a_32, .ref a_33, .ref a_34, .ref a_35, .ref a_36])), (a_27, .inl (cy 1, 9, .inl (fun _ => 0))), (a_28, .inl (cy 1, 9, .inl (fun _ => 0))), (a_29, .inl (cy 1, 3, .inl (fun _ => 0))), (a_30, .inl (cy 1, 210, .inl (fun _ => 0))), (a_31, .inl (cy 1, 6, .inl (fun _ => 0))), (a_32, .inl (cy 1, 48, .inl (fun _ => 0))), (a_33, .inl (cy 1, 30, .inl (fun _ => 0))), (a_34, .inl (cy 1, 30, .inl (fun _ => 0))), (a_35, .inl (cy 1, 30, .inl (fun _ => 0))), (a_0, .inr (0, [.int 0, .int 0, .int 0, .int 0, .int 0, .int 0, .int 0, .int 0, .ref a_58, .ref a_59, .ref a_60, .ref a_61, .ref a_62, .ref a_63, .ref a_64, .ref a_65, .ref a_66, .ref a_67])), (a_58, .inl (cy 1, 9, .inl n1)), (a_59, .inl (cy 1, 9, .inl n3)), (a_60, .inl (cy 1, 3, .inl n5)), (a_61, .inl (cy 1, 210, .inl n7)), (a_62, .inl (cy 1, 6, .inl n9)), (a_63, .inl (cy 1, 48, .inl n11)), (a_64, .inl (cy 1, 30, .inl n13)), (a_65, .inl (cy 1, 30, .inl n15)), (a_66, .inl (cy 1, 30, .inl n17))]) rfl (fun _ => rfl) (fun _ => rfl) ?_
  clear hP hD hS
  clear H locs
  intro n19 H locs hw (hP : va_P G vwCl [(a_1, .inr (0, [.int 0, .int 0, .int 0, .int 0, .int 0, .int 0, .int 0, .int 0, .ref a_27, .ref a_28, .ref a_29, .ref a_30, .ref a_31, .ref a_32, .ref a_33, .ref a_34, .ref a_35, .ref a_36])), (a_27, .inl (cy 1, 9, .inl (fun _ => 0))), (a_28, .inl (cy 1, 9, .inl (fun _ => 0))), (a_29, .inl (cy 1, 3, .inl (fun _ => 0))), (a_30, .inl (cy 1, 210, .inl (fun _ => 0))), (a_31, .inl (cy 1, 6, .inl (fun _ => 0))), (a_32, .inl (cy 1, 48, .inl (fun _ => 0))), (a_33, .inl (cy 1, 30, .inl (fun _ => 0))), (a_34, .inl (cy 1, 30, .inl (fun _ => 0))), (a_35, .inl (cy 1, 30, .inl (fun _ => 0))), (a_36, .inl (cy 1, 30, .inl (fun _ => 0))), (a_0, .inr (0, [.int 0, .int 0, .int 0, .int 0, .int 0, .int 0, .int 0, .int 0, .ref a_58, .ref a_59, .ref a_60, .ref a_61, .ref a_62, .ref a_63, .ref a_64, .ref a_65, .ref a_66, .ref a_67])), (a_58, .inl (cy 1, 9, .inl n1)), (a_59, .inl (cy 1, 9, .inl n3)), (a_60, .inl (cy 1, 3, .inl n5)), (a_61, .inl (cy 1, 210, .inl n7)), (a_62, .inl (cy 1, 6, .inl n9)), (a_63, .inl (cy 1, 48, .inl n11)), (a_64, .inl (cy 1, 30, .inl n13)), (a_65, .inl (cy 1, 30, .inl n15)), (a_66, .inl (cy 1, 30, .inl n17)), (a_67, .inl (cy 1, 30, .inl n19))] H) (hD : va_D A [(a_1, .inr (0, [.int 0, .int 0, .int 0, .int 0, .int 0, .int 0, .int 0, .int 0, .ref a_27, .ref a_28, .ref a_29, .ref a_30, .ref a_31, .ref a_32, .ref a_33, .ref a_34, .ref a_35, .ref a_36])), (a_27, .inl (cy 1, 9, .inl (fun _ => 0))), (a_28, .inl (cy 1, 9, .inl (fun _ => 0))), (a_29, .inl (cy 1, 3, .inl (fun _ => 0))), (a_30, .inl (cy 1, 210, .inl (fun _ => 0))), (a_31, .inl (cy 1, 6, .inl (fun _ => 0))), (a_32, .inl (cy 1, 48, .inl (fun _ => 0))), (a_33, .inl (cy 1, 30, .inl (fun _ => 0))), (a_34, .inl (cy 1, 30, .inl (fun _ => 0))), (a_35, .inl (cy 1, 30, .inl (fun _ => 0))), (a_36, .inl (cy 1, 30, .inl (fun _ => 0))), (a_0, .inr (0, [.int 0, .int 0, .int 0, .int 0, .int 0, .int 0, .int 0, .int 0, .ref a_58, .ref a_59, .ref a_60, .ref a_61, .ref a_62, .ref a_63, .ref a_64, .ref a_65, .ref a_66, .ref a_67])), (a_58, .inl (cy 1, 9, .inl n1)), (a_59, .inl (cy 1, 9, .inl n3)), (a_60, .inl (cy 1, 3, .inl n5)), (a_61, .inl (cy 1, 210, .inl n7)), (a_62, .inl (cy 1, 6, .inl n9)), (a_63, .inl (cy 1, 48, .inl n11)), (a_64, .inl (cy 1, 30, .inl n13)), (a_65, .inl (cy 1, 30, .inl n15)), (a_66, .inl (cy 1, 30, .inl n17)), (a_67, .inl (cy 1, 30, .inl n19))]) hS
  have w20 := hw
  subst hAe
  rw [hQ]
  exact W.vret hx hb hr (fun t ht hW => ⟨⟨(n1, n3, n5, n7, n9, n11, n13, n15, n17, n19), rfl, ⟨w2, w4, w6, w8, w10, w12, w14, w16, w18, w20⟩, by rw [ht]; exact hP, hK.warm hW, hD⟩, hS.F ht⟩) hS.2.2 dX0_copyFrom_174

set_option maxHeartbeats 4000000 in
set_option maxRecDepth 100000 in
theorem K286_X0_copyFrom (l : Launch) (G : va_G) (cy : Nat → ClassId) (sz : Nat) (a_0 : Nat) (a_1 : Nat) (a_27 : Nat) (a_28 : Nat) (a_29 : Nat) (a_30 : Nat) (a_31 : Nat) (a_32 : Nat) (a_33 : Nat) (a_34 : Nat) (a_35 : Nat) (a_36 : Nat) (a_68 : Nat) (a_69 : Nat) (a_70 : Nat) (a_71 : Nat) (a_72 : Nat) (a_73 : Nat) (a_74 : Nat) (a_75 : Nat) (a_76 : Nat) (a_77 : Nat)   : mm_CV l yX0_copyFrom (mm_ws yX0_copyFrom cX0_copyFrom 2 (none)) ({ frames := 2, cells := 0, slots := 0, locals := 85 } : Room) G cy sz [(a_1, .inr (0, [.int 0, .int 0, .int 0, .int 0, .int 0, .int 0, .int 0, .int 0, .ref a_27, .ref a_28, .ref a_29, .ref a_30, .ref a_31, .ref a_32, .ref a_33, .ref a_34, .ref a_35, .ref a_36])), (a_27, .inl (cy 1, 9, .inl (fun _ => 0))), (a_28, .inl (cy 1, 9, .inl (fun _ => 0))), (a_29, .inl (cy 1, 3, .inl (fun _ => 0))), (a_30, .inl (cy 1, 210, .inl (fun _ => 0))), (a_31, .inl (cy 1, 6, .inl (fun _ => 0))), (a_32, .inl (cy 1, 48, .inl (fun _ => 0))), (a_33, .inl (cy 1, 30, .inl (fun _ => 0))), (a_34, .inl (cy 1, 30, .inl (fun _ => 0))), (a_35, .inl (cy 1, 30, .inl (fun _ => 0))), (a_36, .inl (cy 1, 30, .inl (fun _ => 0))), (a_0, .inr (0, [.int 0, .int 0, .int 0, .int 0, .int 0, .int 0, .int 0, .int 0, .ref a_68, .ref a_69, .ref a_70, .ref a_71, .ref a_72, .ref a_73, .ref a_74, .ref a_75, .ref a_76, .ref a_77])), (a_68, .inl (cy 1, 9, .inl (fun _ => 0))), (a_69, .inl (cy 1, 9, .inl (fun _ => 0))), (a_70, .inl (cy 1, 3, .inl (fun _ => 0))), (a_71, .inl (cy 1, 210, .inl (fun _ => 0))), (a_72, .inl (cy 1, 6, .inl (fun _ => 0))), (a_73, .inl (cy 1, 48, .inl (fun _ => 0))), (a_74, .inl (cy 1, 30, .inl (fun _ => 0))), (a_75, .inl (cy 1, 30, .inl (fun _ => 0))), (a_76, .inl (cy 1, 30, .inl (fun _ => 0))), (a_77, .inl (cy 1, 30, .inl (fun _ => 0)))] [.ref a_0, .ref a_1] (fun u : (Nat → Int32) × (Nat → Int32) × (Nat → Int32) × (Nat → Int32) × (Nat → Int32) × (Nat → Int32) × (Nat → Int32) × (Nat → Int32) × (Nat → Int32) × (Nat → Int32) => [(a_1, .inr (0, [.int 0, .int 0, .int 0, .int 0, .int 0, .int 0, .int 0, .int 0, .ref a_27, .ref a_28, .ref a_29, .ref a_30, .ref a_31, .ref a_32, .ref a_33, .ref a_34, .ref a_35, .ref a_36])), (a_27, .inl (cy 1, 9, .inl (fun _ => 0))), (a_28, .inl (cy 1, 9, .inl (fun _ => 0))), (a_29, .inl (cy 1, 3, .inl (fun _ => 0))), (a_30, .inl (cy 1, 210, .inl (fun _ => 0))), (a_31, .inl (cy 1, 6, .inl (fun _ => 0))), (a_32, .inl (cy 1, 48, .inl (fun _ => 0))), (a_33, .inl (cy 1, 30, .inl (fun _ => 0))), (a_34, .inl (cy 1, 30, .inl (fun _ => 0))), (a_35, .inl (cy 1, 30, .inl (fun _ => 0))), (a_36, .inl (cy 1, 30, .inl (fun _ => 0))), (a_0, .inr (0, [.int 0, .int 0, .int 0, .int 0, .int 0, .int 0, .int 0, .int 0, .ref a_68, .ref a_69, .ref a_70, .ref a_71, .ref a_72, .ref a_73, .ref a_74, .ref a_75, .ref a_76, .ref a_77])), (a_68, .inl (cy 1, 9, .inl u.1)), (a_69, .inl (cy 1, 9, .inl u.2.1)), (a_70, .inl (cy 1, 3, .inl u.2.2.1)), (a_71, .inl (cy 1, 210, .inl u.2.2.2.1)), (a_72, .inl (cy 1, 6, .inl u.2.2.2.2.1)), (a_73, .inl (cy 1, 48, .inl u.2.2.2.2.2.1)), (a_74, .inl (cy 1, 30, .inl u.2.2.2.2.2.2.1)), (a_75, .inl (cy 1, 30, .inl u.2.2.2.2.2.2.2.1)), (a_76, .inl (cy 1, 30, .inl u.2.2.2.2.2.2.2.2.1)), (a_77, .inl (cy 1, 30, .inl u.2.2.2.2.2.2.2.2.2))]) (fun u : (Nat → Int32) × (Nat → Int32) × (Nat → Int32) × (Nat → Int32) × (Nat → Int32) × (Nat → Int32) × (Nat → Int32) × (Nat → Int32) × (Nat → Int32) × (Nat → Int32) => mm_ar u.1 0 0 ∧ mm_ar u.2.1 0 0 ∧ mm_ar u.2.2.1 0 0 ∧ mm_ar u.2.2.2.1 0 0 ∧ mm_ar u.2.2.2.2.1 0 0 ∧ mm_ar u.2.2.2.2.2.1 0 0 ∧ mm_ar u.2.2.2.2.2.2.1 0 0 ∧ mm_ar u.2.2.2.2.2.2.2.1 0 0 ∧ mm_ar u.2.2.2.2.2.2.2.2.1 0 0 ∧ mm_ar u.2.2.2.2.2.2.2.2.2 0 0) 0 0 := by
  refine mm_begin (lv := [(0, .ref a_0), (1, .ref a_1)]) (by decide) (Nat.le_of_ble_eq_true rfl) rfl ?_
  intro p e s m below meth c A ls R args Q H locs hRe hQ hAe hx hb hr hlocks hml hown hnm hts hsz hA hS hP hK hD hl
  have hRf : R.frames = 2 := by rw [hRe]
  have hRl : R.locals = 85 := by rw [hRe]
  have hRc : R.cells = 0 := by rw [hRe]
  have hRs : R.slots = 0 := by rw [hRe]
  refine lv_aload_n hx hb dX0_copyFrom_0 rfl (lv_at hl 0 rfl) ?_
  refine lv_aload_n hx hb dX0_copyFrom_1 rfl (lv_at hl 1 rfl) ?_
  refine va_get (D := G) (ci := 0) (v := .int 0) (C := RX0) (T := TX0) (N := 18) hx hb hts (mm_i inlX0) hown hK.1 hP 0 rfl rfl 0 (by decide) (mm_h hts mm_w215) (fun _ h9 => h9) rfl dX0_copyFrom_2 ?_
  refine va_put (D := G) (ci := 0) (v := .int 0) (ty := tyX0 0) (C := RX0) (T := TX0) (N := 18) hx hb hts (mm_i inlX0) tyX0 tyX0_ok nmX0 hown hK.1 hP hD hS 11 rfl rfl 0 (by decide) (mm_h hts mm_w215) (fun _ h9 => h9) rfl (tyX0_ok 0 (by decide)) rfl rfl (Nat.le_of_ble_eq_true rfl) dX0_copyFrom_5 ?_
  clear hP hD hS
  clear H locs
  intro H locs (hP : va_P G vwCl [(a_1, .inr (0, [.int 0, .int 0, .int 0, .int 0, .int 0, .int 0, .int 0, .int 0, .ref a_27, .ref a_28, .ref a_29, .ref a_30, .ref a_31, .ref a_32, .ref a_33, .ref a_34, .ref a_35, .ref a_36])), (a_27, .inl (cy 1, 9, .inl (fun _ => 0))), (a_28, .inl (cy 1, 9, .inl (fun _ => 0))), (a_29, .inl (cy 1, 3, .inl (fun _ => 0))), (a_30, .inl (cy 1, 210, .inl (fun _ => 0))), (a_31, .inl (cy 1, 6, .inl (fun _ => 0))), (a_32, .inl (cy 1, 48, .inl (fun _ => 0))), (a_33, .inl (cy 1, 30, .inl (fun _ => 0))), (a_34, .inl (cy 1, 30, .inl (fun _ => 0))), (a_35, .inl (cy 1, 30, .inl (fun _ => 0))), (a_36, .inl (cy 1, 30, .inl (fun _ => 0))), (a_0, .inr (0, [.int 0, .int 0, .int 0, .int 0, .int 0, .int 0, .int 0, .int 0, .ref a_68, .ref a_69, .ref a_70, .ref a_71, .ref a_72, .ref a_73, .ref a_74, .ref a_75, .ref a_76, .ref a_77])), (a_68, .inl (cy 1, 9, .inl (fun _ => 0))), (a_69, .inl (cy 1, 9, .inl (fun _ => 0))), (a_70, .inl (cy 1, 3, .inl (fun _ => 0))), (a_71, .inl (cy 1, 210, .inl (fun _ => 0))), (a_72, .inl (cy 1, 6, .inl (fun _ => 0))), (a_73, .inl (cy 1, 48, .inl (fun _ => 0))), (a_74, .inl (cy 1, 30, .inl (fun _ => 0))), (a_75, .inl (cy 1, 30, .inl (fun _ => 0))), (a_76, .inl (cy 1, 30, .inl (fun _ => 0))), (a_77, .inl (cy 1, 30, .inl (fun _ => 0)))] H) (hD : va_D A [(a_1, .inr (0, [.int 0, .int 0, .int 0, .int 0, .int 0, .int 0, .int 0, .int 0, .ref a_27, .ref a_28, .ref a_29, .ref a_30, .ref a_31, .ref a_32, .ref a_33, .ref a_34, .ref a_35, .ref a_36])), (a_27, .inl (cy 1, 9, .inl (fun _ => 0))), (a_28, .inl (cy 1, 9, .inl (fun _ => 0))), (a_29, .inl (cy 1, 3, .inl (fun _ => 0))), (a_30, .inl (cy 1, 210, .inl (fun _ => 0))), (a_31, .inl (cy 1, 6, .inl (fun _ => 0))), (a_32, .inl (cy 1, 48, .inl (fun _ => 0))), (a_33, .inl (cy 1, 30, .inl (fun _ => 0))), (a_34, .inl (cy 1, 30, .inl (fun _ => 0))), (a_35, .inl (cy 1, 30, .inl (fun _ => 0))), (a_36, .inl (cy 1, 30, .inl (fun _ => 0))), (a_0, .inr (0, [.int 0, .int 0, .int 0, .int 0, .int 0, .int 0, .int 0, .int 0, .ref a_68, .ref a_69, .ref a_70, .ref a_71, .ref a_72, .ref a_73, .ref a_74, .ref a_75, .ref a_76, .ref a_77])), (a_68, .inl (cy 1, 9, .inl (fun _ => 0))), (a_69, .inl (cy 1, 9, .inl (fun _ => 0))), (a_70, .inl (cy 1, 3, .inl (fun _ => 0))), (a_71, .inl (cy 1, 210, .inl (fun _ => 0))), (a_72, .inl (cy 1, 6, .inl (fun _ => 0))), (a_73, .inl (cy 1, 48, .inl (fun _ => 0))), (a_74, .inl (cy 1, 30, .inl (fun _ => 0))), (a_75, .inl (cy 1, 30, .inl (fun _ => 0))), (a_76, .inl (cy 1, 30, .inl (fun _ => 0))), (a_77, .inl (cy 1, 30, .inl (fun _ => 0)))]) hS
  refine lv_aload_n hx hb dX0_copyFrom_8 rfl (lv_at hl 0 rfl) ?_
  refine lv_aload_n hx hb dX0_copyFrom_9 rfl (lv_at hl 1 rfl) ?_
  refine va_get (D := G) (ci := 0) (v := .int 0) (C := RX0) (T := TX0) (N := 18) hx hb hts (mm_i inlX0) hown hK.1 hP 0 rfl rfl 1 (by decide) (mm_h hts mm_w216) (fun _ h9 => h9) rfl dX0_copyFrom_10 ?_
  refine va_put (D := G) (ci := 0) (v := .int 0) (ty := tyX0 1) (C := RX0) (T := TX0) (N := 18) hx hb hts (mm_i inlX0) tyX0 tyX0_ok nmX0 hown hK.1 hP hD hS 11 rfl rfl 1 (by decide) (mm_h hts mm_w216) (fun _ h9 => h9) rfl (tyX0_ok 1 (by decide)) rfl rfl (Nat.le_of_ble_eq_true rfl) dX0_copyFrom_13 ?_
  clear hP hD hS
  clear H locs
  intro H locs (hP : va_P G vwCl [(a_1, .inr (0, [.int 0, .int 0, .int 0, .int 0, .int 0, .int 0, .int 0, .int 0, .ref a_27, .ref a_28, .ref a_29, .ref a_30, .ref a_31, .ref a_32, .ref a_33, .ref a_34, .ref a_35, .ref a_36])), (a_27, .inl (cy 1, 9, .inl (fun _ => 0))), (a_28, .inl (cy 1, 9, .inl (fun _ => 0))), (a_29, .inl (cy 1, 3, .inl (fun _ => 0))), (a_30, .inl (cy 1, 210, .inl (fun _ => 0))), (a_31, .inl (cy 1, 6, .inl (fun _ => 0))), (a_32, .inl (cy 1, 48, .inl (fun _ => 0))), (a_33, .inl (cy 1, 30, .inl (fun _ => 0))), (a_34, .inl (cy 1, 30, .inl (fun _ => 0))), (a_35, .inl (cy 1, 30, .inl (fun _ => 0))), (a_36, .inl (cy 1, 30, .inl (fun _ => 0))), (a_0, .inr (0, [.int 0, .int 0, .int 0, .int 0, .int 0, .int 0, .int 0, .int 0, .ref a_68, .ref a_69, .ref a_70, .ref a_71, .ref a_72, .ref a_73, .ref a_74, .ref a_75, .ref a_76, .ref a_77])), (a_68, .inl (cy 1, 9, .inl (fun _ => 0))), (a_69, .inl (cy 1, 9, .inl (fun _ => 0))), (a_70, .inl (cy 1, 3, .inl (fun _ => 0))), (a_71, .inl (cy 1, 210, .inl (fun _ => 0))), (a_72, .inl (cy 1, 6, .inl (fun _ => 0))), (a_73, .inl (cy 1, 48, .inl (fun _ => 0))), (a_74, .inl (cy 1, 30, .inl (fun _ => 0))), (a_75, .inl (cy 1, 30, .inl (fun _ => 0))), (a_76, .inl (cy 1, 30, .inl (fun _ => 0))), (a_77, .inl (cy 1, 30, .inl (fun _ => 0)))] H) (hD : va_D A [(a_1, .inr (0, [.int 0, .int 0, .int 0, .int 0, .int 0, .int 0, .int 0, .int 0, .ref a_27, .ref a_28, .ref a_29, .ref a_30, .ref a_31, .ref a_32, .ref a_33, .ref a_34, .ref a_35, .ref a_36])), (a_27, .inl (cy 1, 9, .inl (fun _ => 0))), (a_28, .inl (cy 1, 9, .inl (fun _ => 0))), (a_29, .inl (cy 1, 3, .inl (fun _ => 0))), (a_30, .inl (cy 1, 210, .inl (fun _ => 0))), (a_31, .inl (cy 1, 6, .inl (fun _ => 0))), (a_32, .inl (cy 1, 48, .inl (fun _ => 0))), (a_33, .inl (cy 1, 30, .inl (fun _ => 0))), (a_34, .inl (cy 1, 30, .inl (fun _ => 0))), (a_35, .inl (cy 1, 30, .inl (fun _ => 0))), (a_36, .inl (cy 1, 30, .inl (fun _ => 0))), (a_0, .inr (0, [.int 0, .int 0, .int 0, .int 0, .int 0, .int 0, .int 0, .int 0, .ref a_68, .ref a_69, .ref a_70, .ref a_71, .ref a_72, .ref a_73, .ref a_74, .ref a_75, .ref a_76, .ref a_77])), (a_68, .inl (cy 1, 9, .inl (fun _ => 0))), (a_69, .inl (cy 1, 9, .inl (fun _ => 0))), (a_70, .inl (cy 1, 3, .inl (fun _ => 0))), (a_71, .inl (cy 1, 210, .inl (fun _ => 0))), (a_72, .inl (cy 1, 6, .inl (fun _ => 0))), (a_73, .inl (cy 1, 48, .inl (fun _ => 0))), (a_74, .inl (cy 1, 30, .inl (fun _ => 0))), (a_75, .inl (cy 1, 30, .inl (fun _ => 0))), (a_76, .inl (cy 1, 30, .inl (fun _ => 0))), (a_77, .inl (cy 1, 30, .inl (fun _ => 0)))]) hS
  refine lv_aload_n hx hb dX0_copyFrom_16 rfl (lv_at hl 0 rfl) ?_
  refine lv_aload_n hx hb dX0_copyFrom_17 rfl (lv_at hl 1 rfl) ?_
  refine va_get (D := G) (ci := 0) (v := .int 0) (C := RX0) (T := TX0) (N := 18) hx hb hts (mm_i inlX0) hown hK.1 hP 0 rfl rfl 2 (by decide) (mm_h hts mm_w217) (fun _ h9 => h9) rfl dX0_copyFrom_18 ?_
  refine va_put (D := G) (ci := 0) (v := .int 0) (ty := tyX0 2) (C := RX0) (T := TX0) (N := 18) hx hb hts (mm_i inlX0) tyX0 tyX0_ok nmX0 hown hK.1 hP hD hS 11 rfl rfl 2 (by decide) (mm_h hts mm_w217) (fun _ h9 => h9) rfl (tyX0_ok 2 (by decide)) rfl rfl (Nat.le_of_ble_eq_true rfl) dX0_copyFrom_21 ?_
  clear hP hD hS
  clear H locs
  intro H locs (hP : va_P G vwCl [(a_1, .inr (0, [.int 0, .int 0, .int 0, .int 0, .int 0, .int 0, .int 0, .int 0, .ref a_27, .ref a_28, .ref a_29, .ref a_30, .ref a_31, .ref a_32, .ref a_33, .ref a_34, .ref a_35, .ref a_36])), (a_27, .inl (cy 1, 9, .inl (fun _ => 0))), (a_28, .inl (cy 1, 9, .inl (fun _ => 0))), (a_29, .inl (cy 1, 3, .inl (fun _ => 0))), (a_30, .inl (cy 1, 210, .inl (fun _ => 0))), (a_31, .inl (cy 1, 6, .inl (fun _ => 0))), (a_32, .inl (cy 1, 48, .inl (fun _ => 0))), (a_33, .inl (cy 1, 30, .inl (fun _ => 0))), (a_34, .inl (cy 1, 30, .inl (fun _ => 0))), (a_35, .inl (cy 1, 30, .inl (fun _ => 0))), (a_36, .inl (cy 1, 30, .inl (fun _ => 0))), (a_0, .inr (0, [.int 0, .int 0, .int 0, .int 0, .int 0, .int 0, .int 0, .int 0, .ref a_68, .ref a_69, .ref a_70, .ref a_71, .ref a_72, .ref a_73, .ref a_74, .ref a_75, .ref a_76, .ref a_77])), (a_68, .inl (cy 1, 9, .inl (fun _ => 0))), (a_69, .inl (cy 1, 9, .inl (fun _ => 0))), (a_70, .inl (cy 1, 3, .inl (fun _ => 0))), (a_71, .inl (cy 1, 210, .inl (fun _ => 0))), (a_72, .inl (cy 1, 6, .inl (fun _ => 0))), (a_73, .inl (cy 1, 48, .inl (fun _ => 0))), (a_74, .inl (cy 1, 30, .inl (fun _ => 0))), (a_75, .inl (cy 1, 30, .inl (fun _ => 0))), (a_76, .inl (cy 1, 30, .inl (fun _ => 0))), (a_77, .inl (cy 1, 30, .inl (fun _ => 0)))] H) (hD : va_D A [(a_1, .inr (0, [.int 0, .int 0, .int 0, .int 0, .int 0, .int 0, .int 0, .int 0, .ref a_27, .ref a_28, .ref a_29, .ref a_30, .ref a_31, .ref a_32, .ref a_33, .ref a_34, .ref a_35, .ref a_36])), (a_27, .inl (cy 1, 9, .inl (fun _ => 0))), (a_28, .inl (cy 1, 9, .inl (fun _ => 0))), (a_29, .inl (cy 1, 3, .inl (fun _ => 0))), (a_30, .inl (cy 1, 210, .inl (fun _ => 0))), (a_31, .inl (cy 1, 6, .inl (fun _ => 0))), (a_32, .inl (cy 1, 48, .inl (fun _ => 0))), (a_33, .inl (cy 1, 30, .inl (fun _ => 0))), (a_34, .inl (cy 1, 30, .inl (fun _ => 0))), (a_35, .inl (cy 1, 30, .inl (fun _ => 0))), (a_36, .inl (cy 1, 30, .inl (fun _ => 0))), (a_0, .inr (0, [.int 0, .int 0, .int 0, .int 0, .int 0, .int 0, .int 0, .int 0, .ref a_68, .ref a_69, .ref a_70, .ref a_71, .ref a_72, .ref a_73, .ref a_74, .ref a_75, .ref a_76, .ref a_77])), (a_68, .inl (cy 1, 9, .inl (fun _ => 0))), (a_69, .inl (cy 1, 9, .inl (fun _ => 0))), (a_70, .inl (cy 1, 3, .inl (fun _ => 0))), (a_71, .inl (cy 1, 210, .inl (fun _ => 0))), (a_72, .inl (cy 1, 6, .inl (fun _ => 0))), (a_73, .inl (cy 1, 48, .inl (fun _ => 0))), (a_74, .inl (cy 1, 30, .inl (fun _ => 0))), (a_75, .inl (cy 1, 30, .inl (fun _ => 0))), (a_76, .inl (cy 1, 30, .inl (fun _ => 0))), (a_77, .inl (cy 1, 30, .inl (fun _ => 0)))]) hS
  refine lv_aload_n hx hb dX0_copyFrom_24 rfl (lv_at hl 0 rfl) ?_
  refine lv_aload_n hx hb dX0_copyFrom_25 rfl (lv_at hl 1 rfl) ?_
  refine va_get (D := G) (ci := 0) (v := .int 0) (C := RX0) (T := TX0) (N := 18) hx hb hts (mm_i inlX0) hown hK.1 hP 0 rfl rfl 3 (by decide) (mm_h hts mm_w218) (fun _ h9 => h9) rfl dX0_copyFrom_26 ?_
  refine va_put (D := G) (ci := 0) (v := .int 0) (ty := tyX0 3) (C := RX0) (T := TX0) (N := 18) hx hb hts (mm_i inlX0) tyX0 tyX0_ok nmX0 hown hK.1 hP hD hS 11 rfl rfl 3 (by decide) (mm_h hts mm_w218) (fun _ h9 => h9) rfl (tyX0_ok 3 (by decide)) rfl rfl (Nat.le_of_ble_eq_true rfl) dX0_copyFrom_29 ?_
  clear hP hD hS
  clear H locs
  intro H locs (hP : va_P G vwCl [(a_1, .inr (0, [.int 0, .int 0, .int 0, .int 0, .int 0, .int 0, .int 0, .int 0, .ref a_27, .ref a_28, .ref a_29, .ref a_30, .ref a_31, .ref a_32, .ref a_33, .ref a_34, .ref a_35, .ref a_36])), (a_27, .inl (cy 1, 9, .inl (fun _ => 0))), (a_28, .inl (cy 1, 9, .inl (fun _ => 0))), (a_29, .inl (cy 1, 3, .inl (fun _ => 0))), (a_30, .inl (cy 1, 210, .inl (fun _ => 0))), (a_31, .inl (cy 1, 6, .inl (fun _ => 0))), (a_32, .inl (cy 1, 48, .inl (fun _ => 0))), (a_33, .inl (cy 1, 30, .inl (fun _ => 0))), (a_34, .inl (cy 1, 30, .inl (fun _ => 0))), (a_35, .inl (cy 1, 30, .inl (fun _ => 0))), (a_36, .inl (cy 1, 30, .inl (fun _ => 0))), (a_0, .inr (0, [.int 0, .int 0, .int 0, .int 0, .int 0, .int 0, .int 0, .int 0, .ref a_68, .ref a_69, .ref a_70, .ref a_71, .ref a_72, .ref a_73, .ref a_74, .ref a_75, .ref a_76, .ref a_77])), (a_68, .inl (cy 1, 9, .inl (fun _ => 0))), (a_69, .inl (cy 1, 9, .inl (fun _ => 0))), (a_70, .inl (cy 1, 3, .inl (fun _ => 0))), (a_71, .inl (cy 1, 210, .inl (fun _ => 0))), (a_72, .inl (cy 1, 6, .inl (fun _ => 0))), (a_73, .inl (cy 1, 48, .inl (fun _ => 0))), (a_74, .inl (cy 1, 30, .inl (fun _ => 0))), (a_75, .inl (cy 1, 30, .inl (fun _ => 0))), (a_76, .inl (cy 1, 30, .inl (fun _ => 0))), (a_77, .inl (cy 1, 30, .inl (fun _ => 0)))] H) (hD : va_D A [(a_1, .inr (0, [.int 0, .int 0, .int 0, .int 0, .int 0, .int 0, .int 0, .int 0, .ref a_27, .ref a_28, .ref a_29, .ref a_30, .ref a_31, .ref a_32, .ref a_33, .ref a_34, .ref a_35, .ref a_36])), (a_27, .inl (cy 1, 9, .inl (fun _ => 0))), (a_28, .inl (cy 1, 9, .inl (fun _ => 0))), (a_29, .inl (cy 1, 3, .inl (fun _ => 0))), (a_30, .inl (cy 1, 210, .inl (fun _ => 0))), (a_31, .inl (cy 1, 6, .inl (fun _ => 0))), (a_32, .inl (cy 1, 48, .inl (fun _ => 0))), (a_33, .inl (cy 1, 30, .inl (fun _ => 0))), (a_34, .inl (cy 1, 30, .inl (fun _ => 0))), (a_35, .inl (cy 1, 30, .inl (fun _ => 0))), (a_36, .inl (cy 1, 30, .inl (fun _ => 0))), (a_0, .inr (0, [.int 0, .int 0, .int 0, .int 0, .int 0, .int 0, .int 0, .int 0, .ref a_68, .ref a_69, .ref a_70, .ref a_71, .ref a_72, .ref a_73, .ref a_74, .ref a_75, .ref a_76, .ref a_77])), (a_68, .inl (cy 1, 9, .inl (fun _ => 0))), (a_69, .inl (cy 1, 9, .inl (fun _ => 0))), (a_70, .inl (cy 1, 3, .inl (fun _ => 0))), (a_71, .inl (cy 1, 210, .inl (fun _ => 0))), (a_72, .inl (cy 1, 6, .inl (fun _ => 0))), (a_73, .inl (cy 1, 48, .inl (fun _ => 0))), (a_74, .inl (cy 1, 30, .inl (fun _ => 0))), (a_75, .inl (cy 1, 30, .inl (fun _ => 0))), (a_76, .inl (cy 1, 30, .inl (fun _ => 0))), (a_77, .inl (cy 1, 30, .inl (fun _ => 0)))]) hS
  refine lv_aload_n hx hb dX0_copyFrom_32 rfl (lv_at hl 0 rfl) ?_
  refine lv_aload_n hx hb dX0_copyFrom_33 rfl (lv_at hl 1 rfl) ?_
  refine va_get (D := G) (ci := 0) (v := .int 0) (C := RX0) (T := TX0) (N := 18) hx hb hts (mm_i inlX0) hown hK.1 hP 0 rfl rfl 4 (by decide) (mm_h hts mm_w219) (fun _ h9 => h9) rfl dX0_copyFrom_34 ?_
  refine va_put (D := G) (ci := 0) (v := .int 0) (ty := tyX0 4) (C := RX0) (T := TX0) (N := 18) hx hb hts (mm_i inlX0) tyX0 tyX0_ok nmX0 hown hK.1 hP hD hS 11 rfl rfl 4 (by decide) (mm_h hts mm_w219) (fun _ h9 => h9) rfl (tyX0_ok 4 (by decide)) rfl rfl (Nat.le_of_ble_eq_true rfl) dX0_copyFrom_37 ?_
  clear hP hD hS
  clear H locs
  intro H locs (hP : va_P G vwCl [(a_1, .inr (0, [.int 0, .int 0, .int 0, .int 0, .int 0, .int 0, .int 0, .int 0, .ref a_27, .ref a_28, .ref a_29, .ref a_30, .ref a_31, .ref a_32, .ref a_33, .ref a_34, .ref a_35, .ref a_36])), (a_27, .inl (cy 1, 9, .inl (fun _ => 0))), (a_28, .inl (cy 1, 9, .inl (fun _ => 0))), (a_29, .inl (cy 1, 3, .inl (fun _ => 0))), (a_30, .inl (cy 1, 210, .inl (fun _ => 0))), (a_31, .inl (cy 1, 6, .inl (fun _ => 0))), (a_32, .inl (cy 1, 48, .inl (fun _ => 0))), (a_33, .inl (cy 1, 30, .inl (fun _ => 0))), (a_34, .inl (cy 1, 30, .inl (fun _ => 0))), (a_35, .inl (cy 1, 30, .inl (fun _ => 0))), (a_36, .inl (cy 1, 30, .inl (fun _ => 0))), (a_0, .inr (0, [.int 0, .int 0, .int 0, .int 0, .int 0, .int 0, .int 0, .int 0, .ref a_68, .ref a_69, .ref a_70, .ref a_71, .ref a_72, .ref a_73, .ref a_74, .ref a_75, .ref a_76, .ref a_77])), (a_68, .inl (cy 1, 9, .inl (fun _ => 0))), (a_69, .inl (cy 1, 9, .inl (fun _ => 0))), (a_70, .inl (cy 1, 3, .inl (fun _ => 0))), (a_71, .inl (cy 1, 210, .inl (fun _ => 0))), (a_72, .inl (cy 1, 6, .inl (fun _ => 0))), (a_73, .inl (cy 1, 48, .inl (fun _ => 0))), (a_74, .inl (cy 1, 30, .inl (fun _ => 0))), (a_75, .inl (cy 1, 30, .inl (fun _ => 0))), (a_76, .inl (cy 1, 30, .inl (fun _ => 0))), (a_77, .inl (cy 1, 30, .inl (fun _ => 0)))] H) (hD : va_D A [(a_1, .inr (0, [.int 0, .int 0, .int 0, .int 0, .int 0, .int 0, .int 0, .int 0, .ref a_27, .ref a_28, .ref a_29, .ref a_30, .ref a_31, .ref a_32, .ref a_33, .ref a_34, .ref a_35, .ref a_36])), (a_27, .inl (cy 1, 9, .inl (fun _ => 0))), (a_28, .inl (cy 1, 9, .inl (fun _ => 0))), (a_29, .inl (cy 1, 3, .inl (fun _ => 0))), (a_30, .inl (cy 1, 210, .inl (fun _ => 0))), (a_31, .inl (cy 1, 6, .inl (fun _ => 0))), (a_32, .inl (cy 1, 48, .inl (fun _ => 0))), (a_33, .inl (cy 1, 30, .inl (fun _ => 0))), (a_34, .inl (cy 1, 30, .inl (fun _ => 0))), (a_35, .inl (cy 1, 30, .inl (fun _ => 0))), (a_36, .inl (cy 1, 30, .inl (fun _ => 0))), (a_0, .inr (0, [.int 0, .int 0, .int 0, .int 0, .int 0, .int 0, .int 0, .int 0, .ref a_68, .ref a_69, .ref a_70, .ref a_71, .ref a_72, .ref a_73, .ref a_74, .ref a_75, .ref a_76, .ref a_77])), (a_68, .inl (cy 1, 9, .inl (fun _ => 0))), (a_69, .inl (cy 1, 9, .inl (fun _ => 0))), (a_70, .inl (cy 1, 3, .inl (fun _ => 0))), (a_71, .inl (cy 1, 210, .inl (fun _ => 0))), (a_72, .inl (cy 1, 6, .inl (fun _ => 0))), (a_73, .inl (cy 1, 48, .inl (fun _ => 0))), (a_74, .inl (cy 1, 30, .inl (fun _ => 0))), (a_75, .inl (cy 1, 30, .inl (fun _ => 0))), (a_76, .inl (cy 1, 30, .inl (fun _ => 0))), (a_77, .inl (cy 1, 30, .inl (fun _ => 0)))]) hS
  refine lv_aload_n hx hb dX0_copyFrom_40 rfl (lv_at hl 0 rfl) ?_
  refine lv_aload_n hx hb dX0_copyFrom_41 rfl (lv_at hl 1 rfl) ?_
  refine va_get (D := G) (ci := 0) (v := .int 0) (C := RX0) (T := TX0) (N := 18) hx hb hts (mm_i inlX0) hown hK.1 hP 0 rfl rfl 5 (by decide) (mm_h hts mm_w220) (fun _ h9 => h9) rfl dX0_copyFrom_42 ?_
  refine va_put (D := G) (ci := 0) (v := .int 0) (ty := tyX0 5) (C := RX0) (T := TX0) (N := 18) hx hb hts (mm_i inlX0) tyX0 tyX0_ok nmX0 hown hK.1 hP hD hS 11 rfl rfl 5 (by decide) (mm_h hts mm_w220) (fun _ h9 => h9) rfl (tyX0_ok 5 (by decide)) rfl rfl (Nat.le_of_ble_eq_true rfl) dX0_copyFrom_45 ?_
  clear hP hD hS
  clear H locs
  intro H locs (hP : va_P G vwCl [(a_1, .inr (0, [.int 0, .int 0, .int 0, .int 0, .int 0, .int 0, .int 0, .int 0, .ref a_27, .ref a_28, .ref a_29, .ref a_30, .ref a_31, .ref a_32, .ref a_33, .ref a_34, .ref a_35, .ref a_36])), (a_27, .inl (cy 1, 9, .inl (fun _ => 0))), (a_28, .inl (cy 1, 9, .inl (fun _ => 0))), (a_29, .inl (cy 1, 3, .inl (fun _ => 0))), (a_30, .inl (cy 1, 210, .inl (fun _ => 0))), (a_31, .inl (cy 1, 6, .inl (fun _ => 0))), (a_32, .inl (cy 1, 48, .inl (fun _ => 0))), (a_33, .inl (cy 1, 30, .inl (fun _ => 0))), (a_34, .inl (cy 1, 30, .inl (fun _ => 0))), (a_35, .inl (cy 1, 30, .inl (fun _ => 0))), (a_36, .inl (cy 1, 30, .inl (fun _ => 0))), (a_0, .inr (0, [.int 0, .int 0, .int 0, .int 0, .int 0, .int 0, .int 0, .int 0, .ref a_68, .ref a_69, .ref a_70, .ref a_71, .ref a_72, .ref a_73, .ref a_74, .ref a_75, .ref a_76, .ref a_77])), (a_68, .inl (cy 1, 9, .inl (fun _ => 0))), (a_69, .inl (cy 1, 9, .inl (fun _ => 0))), (a_70, .inl (cy 1, 3, .inl (fun _ => 0))), (a_71, .inl (cy 1, 210, .inl (fun _ => 0))), (a_72, .inl (cy 1, 6, .inl (fun _ => 0))), (a_73, .inl (cy 1, 48, .inl (fun _ => 0))), (a_74, .inl (cy 1, 30, .inl (fun _ => 0))), (a_75, .inl (cy 1, 30, .inl (fun _ => 0))), (a_76, .inl (cy 1, 30, .inl (fun _ => 0))), (a_77, .inl (cy 1, 30, .inl (fun _ => 0)))] H) (hD : va_D A [(a_1, .inr (0, [.int 0, .int 0, .int 0, .int 0, .int 0, .int 0, .int 0, .int 0, .ref a_27, .ref a_28, .ref a_29, .ref a_30, .ref a_31, .ref a_32, .ref a_33, .ref a_34, .ref a_35, .ref a_36])), (a_27, .inl (cy 1, 9, .inl (fun _ => 0))), (a_28, .inl (cy 1, 9, .inl (fun _ => 0))), (a_29, .inl (cy 1, 3, .inl (fun _ => 0))), (a_30, .inl (cy 1, 210, .inl (fun _ => 0))), (a_31, .inl (cy 1, 6, .inl (fun _ => 0))), (a_32, .inl (cy 1, 48, .inl (fun _ => 0))), (a_33, .inl (cy 1, 30, .inl (fun _ => 0))), (a_34, .inl (cy 1, 30, .inl (fun _ => 0))), (a_35, .inl (cy 1, 30, .inl (fun _ => 0))), (a_36, .inl (cy 1, 30, .inl (fun _ => 0))), (a_0, .inr (0, [.int 0, .int 0, .int 0, .int 0, .int 0, .int 0, .int 0, .int 0, .ref a_68, .ref a_69, .ref a_70, .ref a_71, .ref a_72, .ref a_73, .ref a_74, .ref a_75, .ref a_76, .ref a_77])), (a_68, .inl (cy 1, 9, .inl (fun _ => 0))), (a_69, .inl (cy 1, 9, .inl (fun _ => 0))), (a_70, .inl (cy 1, 3, .inl (fun _ => 0))), (a_71, .inl (cy 1, 210, .inl (fun _ => 0))), (a_72, .inl (cy 1, 6, .inl (fun _ => 0))), (a_73, .inl (cy 1, 48, .inl (fun _ => 0))), (a_74, .inl (cy 1, 30, .inl (fun _ => 0))), (a_75, .inl (cy 1, 30, .inl (fun _ => 0))), (a_76, .inl (cy 1, 30, .inl (fun _ => 0))), (a_77, .inl (cy 1, 30, .inl (fun _ => 0)))]) hS
  refine lv_aload_n hx hb dX0_copyFrom_48 rfl (lv_at hl 0 rfl) ?_
  refine lv_aload_n hx hb dX0_copyFrom_49 rfl (lv_at hl 1 rfl) ?_
  refine va_get (D := G) (ci := 0) (v := .int 0) (C := RX0) (T := TX0) (N := 18) hx hb hts (mm_i inlX0) hown hK.1 hP 0 rfl rfl 6 (by decide) (mm_h hts mm_w221) (fun _ h9 => h9) rfl dX0_copyFrom_50 ?_
  refine va_put (D := G) (ci := 0) (v := .int 0) (ty := tyX0 6) (C := RX0) (T := TX0) (N := 18) hx hb hts (mm_i inlX0) tyX0 tyX0_ok nmX0 hown hK.1 hP hD hS 11 rfl rfl 6 (by decide) (mm_h hts mm_w221) (fun _ h9 => h9) rfl (tyX0_ok 6 (by decide)) rfl rfl (Nat.le_of_ble_eq_true rfl) dX0_copyFrom_53 ?_
  clear hP hD hS
  clear H locs
  intro H locs (hP : va_P G vwCl [(a_1, .inr (0, [.int 0, .int 0, .int 0, .int 0, .int 0, .int 0, .int 0, .int 0, .ref a_27, .ref a_28, .ref a_29, .ref a_30, .ref a_31, .ref a_32, .ref a_33, .ref a_34, .ref a_35, .ref a_36])), (a_27, .inl (cy 1, 9, .inl (fun _ => 0))), (a_28, .inl (cy 1, 9, .inl (fun _ => 0))), (a_29, .inl (cy 1, 3, .inl (fun _ => 0))), (a_30, .inl (cy 1, 210, .inl (fun _ => 0))), (a_31, .inl (cy 1, 6, .inl (fun _ => 0))), (a_32, .inl (cy 1, 48, .inl (fun _ => 0))), (a_33, .inl (cy 1, 30, .inl (fun _ => 0))), (a_34, .inl (cy 1, 30, .inl (fun _ => 0))), (a_35, .inl (cy 1, 30, .inl (fun _ => 0))), (a_36, .inl (cy 1, 30, .inl (fun _ => 0))), (a_0, .inr (0, [.int 0, .int 0, .int 0, .int 0, .int 0, .int 0, .int 0, .int 0, .ref a_68, .ref a_69, .ref a_70, .ref a_71, .ref a_72, .ref a_73, .ref a_74, .ref a_75, .ref a_76, .ref a_77])), (a_68, .inl (cy 1, 9, .inl (fun _ => 0))), (a_69, .inl (cy 1, 9, .inl (fun _ => 0))), (a_70, .inl (cy 1, 3, .inl (fun _ => 0))), (a_71, .inl (cy 1, 210, .inl (fun _ => 0))), (a_72, .inl (cy 1, 6, .inl (fun _ => 0))), (a_73, .inl (cy 1, 48, .inl (fun _ => 0))), (a_74, .inl (cy 1, 30, .inl (fun _ => 0))), (a_75, .inl (cy 1, 30, .inl (fun _ => 0))), (a_76, .inl (cy 1, 30, .inl (fun _ => 0))), (a_77, .inl (cy 1, 30, .inl (fun _ => 0)))] H) (hD : va_D A [(a_1, .inr (0, [.int 0, .int 0, .int 0, .int 0, .int 0, .int 0, .int 0, .int 0, .ref a_27, .ref a_28, .ref a_29, .ref a_30, .ref a_31, .ref a_32, .ref a_33, .ref a_34, .ref a_35, .ref a_36])), (a_27, .inl (cy 1, 9, .inl (fun _ => 0))), (a_28, .inl (cy 1, 9, .inl (fun _ => 0))), (a_29, .inl (cy 1, 3, .inl (fun _ => 0))), (a_30, .inl (cy 1, 210, .inl (fun _ => 0))), (a_31, .inl (cy 1, 6, .inl (fun _ => 0))), (a_32, .inl (cy 1, 48, .inl (fun _ => 0))), (a_33, .inl (cy 1, 30, .inl (fun _ => 0))), (a_34, .inl (cy 1, 30, .inl (fun _ => 0))), (a_35, .inl (cy 1, 30, .inl (fun _ => 0))), (a_36, .inl (cy 1, 30, .inl (fun _ => 0))), (a_0, .inr (0, [.int 0, .int 0, .int 0, .int 0, .int 0, .int 0, .int 0, .int 0, .ref a_68, .ref a_69, .ref a_70, .ref a_71, .ref a_72, .ref a_73, .ref a_74, .ref a_75, .ref a_76, .ref a_77])), (a_68, .inl (cy 1, 9, .inl (fun _ => 0))), (a_69, .inl (cy 1, 9, .inl (fun _ => 0))), (a_70, .inl (cy 1, 3, .inl (fun _ => 0))), (a_71, .inl (cy 1, 210, .inl (fun _ => 0))), (a_72, .inl (cy 1, 6, .inl (fun _ => 0))), (a_73, .inl (cy 1, 48, .inl (fun _ => 0))), (a_74, .inl (cy 1, 30, .inl (fun _ => 0))), (a_75, .inl (cy 1, 30, .inl (fun _ => 0))), (a_76, .inl (cy 1, 30, .inl (fun _ => 0))), (a_77, .inl (cy 1, 30, .inl (fun _ => 0)))]) hS
  refine lv_aload_n hx hb dX0_copyFrom_56 rfl (lv_at hl 0 rfl) ?_
  refine lv_aload_n hx hb dX0_copyFrom_57 rfl (lv_at hl 1 rfl) ?_
  refine va_get (D := G) (ci := 0) (v := .int 0) (C := RX0) (T := TX0) (N := 18) hx hb hts (mm_i inlX0) hown hK.1 hP 0 rfl rfl 7 (by decide) (mm_h hts mm_w222) (fun _ h9 => h9) rfl dX0_copyFrom_58 ?_
  refine va_put (D := G) (ci := 0) (v := .int 0) (ty := tyX0 7) (C := RX0) (T := TX0) (N := 18) hx hb hts (mm_i inlX0) tyX0 tyX0_ok nmX0 hown hK.1 hP hD hS 11 rfl rfl 7 (by decide) (mm_h hts mm_w222) (fun _ h9 => h9) rfl (tyX0_ok 7 (by decide)) rfl rfl (Nat.le_of_ble_eq_true rfl) dX0_copyFrom_61 ?_
  clear hP hD hS
  clear H locs
  intro H locs (hP : va_P G vwCl [(a_1, .inr (0, [.int 0, .int 0, .int 0, .int 0, .int 0, .int 0, .int 0, .int 0, .ref a_27, .ref a_28, .ref a_29, .ref a_30, .ref a_31, .ref a_32, .ref a_33, .ref a_34, .ref a_35, .ref a_36])), (a_27, .inl (cy 1, 9, .inl (fun _ => 0))), (a_28, .inl (cy 1, 9, .inl (fun _ => 0))), (a_29, .inl (cy 1, 3, .inl (fun _ => 0))), (a_30, .inl (cy 1, 210, .inl (fun _ => 0))), (a_31, .inl (cy 1, 6, .inl (fun _ => 0))), (a_32, .inl (cy 1, 48, .inl (fun _ => 0))), (a_33, .inl (cy 1, 30, .inl (fun _ => 0))), (a_34, .inl (cy 1, 30, .inl (fun _ => 0))), (a_35, .inl (cy 1, 30, .inl (fun _ => 0))), (a_36, .inl (cy 1, 30, .inl (fun _ => 0))), (a_0, .inr (0, [.int 0, .int 0, .int 0, .int 0, .int 0, .int 0, .int 0, .int 0, .ref a_68, .ref a_69, .ref a_70, .ref a_71, .ref a_72, .ref a_73, .ref a_74, .ref a_75, .ref a_76, .ref a_77])), (a_68, .inl (cy 1, 9, .inl (fun _ => 0))), (a_69, .inl (cy 1, 9, .inl (fun _ => 0))), (a_70, .inl (cy 1, 3, .inl (fun _ => 0))), (a_71, .inl (cy 1, 210, .inl (fun _ => 0))), (a_72, .inl (cy 1, 6, .inl (fun _ => 0))), (a_73, .inl (cy 1, 48, .inl (fun _ => 0))), (a_74, .inl (cy 1, 30, .inl (fun _ => 0))), (a_75, .inl (cy 1, 30, .inl (fun _ => 0))), (a_76, .inl (cy 1, 30, .inl (fun _ => 0))), (a_77, .inl (cy 1, 30, .inl (fun _ => 0)))] H) (hD : va_D A [(a_1, .inr (0, [.int 0, .int 0, .int 0, .int 0, .int 0, .int 0, .int 0, .int 0, .ref a_27, .ref a_28, .ref a_29, .ref a_30, .ref a_31, .ref a_32, .ref a_33, .ref a_34, .ref a_35, .ref a_36])), (a_27, .inl (cy 1, 9, .inl (fun _ => 0))), (a_28, .inl (cy 1, 9, .inl (fun _ => 0))), (a_29, .inl (cy 1, 3, .inl (fun _ => 0))), (a_30, .inl (cy 1, 210, .inl (fun _ => 0))), (a_31, .inl (cy 1, 6, .inl (fun _ => 0))), (a_32, .inl (cy 1, 48, .inl (fun _ => 0))), (a_33, .inl (cy 1, 30, .inl (fun _ => 0))), (a_34, .inl (cy 1, 30, .inl (fun _ => 0))), (a_35, .inl (cy 1, 30, .inl (fun _ => 0))), (a_36, .inl (cy 1, 30, .inl (fun _ => 0))), (a_0, .inr (0, [.int 0, .int 0, .int 0, .int 0, .int 0, .int 0, .int 0, .int 0, .ref a_68, .ref a_69, .ref a_70, .ref a_71, .ref a_72, .ref a_73, .ref a_74, .ref a_75, .ref a_76, .ref a_77])), (a_68, .inl (cy 1, 9, .inl (fun _ => 0))), (a_69, .inl (cy 1, 9, .inl (fun _ => 0))), (a_70, .inl (cy 1, 3, .inl (fun _ => 0))), (a_71, .inl (cy 1, 210, .inl (fun _ => 0))), (a_72, .inl (cy 1, 6, .inl (fun _ => 0))), (a_73, .inl (cy 1, 48, .inl (fun _ => 0))), (a_74, .inl (cy 1, 30, .inl (fun _ => 0))), (a_75, .inl (cy 1, 30, .inl (fun _ => 0))), (a_76, .inl (cy 1, 30, .inl (fun _ => 0))), (a_77, .inl (cy 1, 30, .inl (fun _ => 0)))]) hS
  refine lv_aload_n hx hb dX0_copyFrom_64 rfl (lv_at hl 1 rfl) ?_
  refine va_get (D := G) (ci := 0) (v := .ref a_27) (C := RX0) (T := TX0) (N := 18) hx hb hts (mm_i inlX0) hown hK.1 hP 0 rfl rfl 8 (by decide) (mm_h hts mm_w72) (fun _ h9 => h9) rfl dX0_copyFrom_65 ?_
  refine lv_aload_n hx hb dX0_copyFrom_68 rfl (lv_at hl 0 rfl) ?_
  refine va_get (D := G) (ci := 0) (v := .ref a_68) (C := RX0) (T := TX0) (N := 18) hx hb hts (mm_i inlX0) hown hK.1 hP 11 rfl rfl 8 (by decide) (mm_h hts mm_w72) (fun _ h9 => h9) rfl dX0_copyFrom_69 ?_
  refine mm_finv (va_runS (As := [.ref a_27, .ref a_68]) (rest := []) ⟨hx, hb, hml, hown, hts⟩ (K44_X0_copyRow l G cy H.size a_27 a_68 ) (va_cwS 2 hts (mm_gS mm_w381 mm_w382 mm_w28 mm_w383) rfl rfl rfl hs_X0_copyRow ⟨by rw [hRf]; exact Nat.le_of_ble_eq_true rfl, by rw [hRl]; exact Nat.le_of_ble_eq_true rfl⟩) (mm_preS hK hP hD [1, 12] rfl rfl) rfl rfl hl.1 rfl (lv_room (Nat.le_of_ble_eq_true rfl)) dX0_copyFrom_72 ⟨by rw [hRc]; exact Nat.le_of_ble_eq_true rfl, by rw [hRs]; exact Nat.le_of_ble_eq_true rfl⟩) hP hD hS hA (fun u : (Nat → Int32) => [(a_1, .inr (0, [.int 0, .int 0, .int 0, .int 0, .int 0, .int 0, .int 0, .int 0, .ref a_27, .ref a_28, .ref a_29, .ref a_30, .ref a_31, .ref a_32, .ref a_33, .ref a_34, .ref a_35, .ref a_36])), (a_27, .inl (cy 1, 9, .inl (fun _ => 0))), (a_28, .inl (cy 1, 9, .inl (fun _ => 0))), (a_29, .inl (cy 1, 3, .inl (fun _ => 0))), (a_30, .inl (cy 1, 210, .inl (fun _ => 0))), (a_31, .inl (cy 1, 6, .inl (fun _ => 0))), (a_32, .inl (cy 1, 48, .inl (fun _ => 0))), (a_33, .inl (cy 1, 30, .inl (fun _ => 0))), (a_34, .inl (cy 1, 30, .inl (fun _ => 0))), (a_35, .inl (cy 1, 30, .inl (fun _ => 0))), (a_36, .inl (cy 1, 30, .inl (fun _ => 0))), (a_0, .inr (0, [.int 0, .int 0, .int 0, .int 0, .int 0, .int 0, .int 0, .int 0, .ref a_68, .ref a_69, .ref a_70, .ref a_71, .ref a_72, .ref a_73, .ref a_74, .ref a_75, .ref a_76, .ref a_77])), (a_68, .inl (cy 1, 9, .inl u)), (a_69, .inl (cy 1, 9, .inl (fun _ => 0))), (a_70, .inl (cy 1, 3, .inl (fun _ => 0))), (a_71, .inl (cy 1, 210, .inl (fun _ => 0))), (a_72, .inl (cy 1, 6, .inl (fun _ => 0))), (a_73, .inl (cy 1, 48, .inl (fun _ => 0))), (a_74, .inl (cy 1, 30, .inl (fun _ => 0))), (a_75, .inl (cy 1, 30, .inl (fun _ => 0))), (a_76, .inl (cy 1, 30, .inl (fun _ => 0))), (a_77, .inl (cy 1, 30, .inl (fun _ => 0)))]) [1, 12] [0, 2, 3, 4, 5, 6, 7, 8, 9, 10, 11, 13, 14, 15, 16, 17, 18, 19, 20, 21] (n := 22) (fun _ => rfl) (by decide +kernel) (by decide +kernel) rfl (fun _ => rfl) (wr := [(a_1, .inr (0, [.int 0, .int 0, .int 0, .int 0, .int 0, .int 0, .int 0, .int 0, .ref a_27, .ref a_28, .ref a_29, .ref a_30, .ref a_31, .ref a_32, .ref a_33, .ref a_34, .ref a_35, .ref a_36])), (a_28, .inl (cy 1, 9, .inl (fun _ => 0))), (a_29, .inl (cy 1, 3, .inl (fun _ => 0))), (a_30, .inl (cy 1, 210, .inl (fun _ => 0))), (a_31, .inl (cy 1, 6, .inl (fun _ => 0))), (a_32, .inl (cy 1, 48, .inl (fun _ => 0))), (a_33, .inl (cy 1, 30, .inl (fun _ => 0))), (a_34, .inl (cy 1, 30, .inl (fun _ => 0))), (a_35, .inl (cy 1, 30, .inl (fun _ => 0))), (a_36, .inl (cy 1, 30, .inl (fun _ => 0))), (a_0, .inr (0, [.int 0, .int 0, .int 0, .int 0, .int 0, .int 0, .int 0, .int 0, .ref a_68, .ref a_69, .ref a_70, .ref a_71, .ref a_72, .ref a_73, .ref a_74, .ref a_75, .ref a_76, .ref a_77])), (a_69, .inl (cy 1, 9, .inl (fun _ => 0))), (a_70, .inl (cy 1, 3, .inl (fun _ => 0))), (a_71, .inl (cy 1, 210, .inl (fun _ => 0))), (a_72, .inl (cy 1, 6, .inl (fun _ => 0))), (a_73, .inl (cy 1, 48, .inl (fun _ => 0))), (a_74, .inl (cy 1, 30, .inl (fun _ => 0))), (a_75, .inl (cy 1, 30, .inl (fun _ => 0))), (a_76, .inl (cy 1, 30, .inl (fun _ => 0))), (a_77, .inl (cy 1, 30, .inl (fun _ => 0)))]) rfl (fun _ => rfl) (fun _ => rfl) ?_
  clear hP hD hS
  clear H locs
  intro n1 H locs hw (hP : va_P G vwCl [(a_1, .inr (0, [.int 0, .int 0, .int 0, .int 0, .int 0, .int 0, .int 0, .int 0, .ref a_27, .ref a_28, .ref a_29, .ref a_30, .ref a_31, .ref a_32, .ref a_33, .ref a_34, .ref a_35, .ref a_36])), (a_27, .inl (cy 1, 9, .inl (fun _ => 0))), (a_28, .inl (cy 1, 9, .inl (fun _ => 0))), (a_29, .inl (cy 1, 3, .inl (fun _ => 0))), (a_30, .inl (cy 1, 210, .inl (fun _ => 0))), (a_31, .inl (cy 1, 6, .inl (fun _ => 0))), (a_32, .inl (cy 1, 48, .inl (fun _ => 0))), (a_33, .inl (cy 1, 30, .inl (fun _ => 0))), (a_34, .inl (cy 1, 30, .inl (fun _ => 0))), (a_35, .inl (cy 1, 30, .inl (fun _ => 0))), (a_36, .inl (cy 1, 30, .inl (fun _ => 0))), (a_0, .inr (0, [.int 0, .int 0, .int 0, .int 0, .int 0, .int 0, .int 0, .int 0, .ref a_68, .ref a_69, .ref a_70, .ref a_71, .ref a_72, .ref a_73, .ref a_74, .ref a_75, .ref a_76, .ref a_77])), (a_68, .inl (cy 1, 9, .inl n1)), (a_69, .inl (cy 1, 9, .inl (fun _ => 0))), (a_70, .inl (cy 1, 3, .inl (fun _ => 0))), (a_71, .inl (cy 1, 210, .inl (fun _ => 0))), (a_72, .inl (cy 1, 6, .inl (fun _ => 0))), (a_73, .inl (cy 1, 48, .inl (fun _ => 0))), (a_74, .inl (cy 1, 30, .inl (fun _ => 0))), (a_75, .inl (cy 1, 30, .inl (fun _ => 0))), (a_76, .inl (cy 1, 30, .inl (fun _ => 0))), (a_77, .inl (cy 1, 30, .inl (fun _ => 0)))] H) (hD : va_D A [(a_1, .inr (0, [.int 0, .int 0, .int 0, .int 0, .int 0, .int 0, .int 0, .int 0, .ref a_27, .ref a_28, .ref a_29, .ref a_30, .ref a_31, .ref a_32, .ref a_33, .ref a_34, .ref a_35, .ref a_36])), (a_27, .inl (cy 1, 9, .inl (fun _ => 0))), (a_28, .inl (cy 1, 9, .inl (fun _ => 0))), (a_29, .inl (cy 1, 3, .inl (fun _ => 0))), (a_30, .inl (cy 1, 210, .inl (fun _ => 0))), (a_31, .inl (cy 1, 6, .inl (fun _ => 0))), (a_32, .inl (cy 1, 48, .inl (fun _ => 0))), (a_33, .inl (cy 1, 30, .inl (fun _ => 0))), (a_34, .inl (cy 1, 30, .inl (fun _ => 0))), (a_35, .inl (cy 1, 30, .inl (fun _ => 0))), (a_36, .inl (cy 1, 30, .inl (fun _ => 0))), (a_0, .inr (0, [.int 0, .int 0, .int 0, .int 0, .int 0, .int 0, .int 0, .int 0, .ref a_68, .ref a_69, .ref a_70, .ref a_71, .ref a_72, .ref a_73, .ref a_74, .ref a_75, .ref a_76, .ref a_77])), (a_68, .inl (cy 1, 9, .inl n1)), (a_69, .inl (cy 1, 9, .inl (fun _ => 0))), (a_70, .inl (cy 1, 3, .inl (fun _ => 0))), (a_71, .inl (cy 1, 210, .inl (fun _ => 0))), (a_72, .inl (cy 1, 6, .inl (fun _ => 0))), (a_73, .inl (cy 1, 48, .inl (fun _ => 0))), (a_74, .inl (cy 1, 30, .inl (fun _ => 0))), (a_75, .inl (cy 1, 30, .inl (fun _ => 0))), (a_76, .inl (cy 1, 30, .inl (fun _ => 0))), (a_77, .inl (cy 1, 30, .inl (fun _ => 0)))]) hS
  have w2 := hw
  refine lv_aload_n hx hb dX0_copyFrom_75 rfl (lv_at hl 1 rfl) ?_
  refine va_get (D := G) (ci := 0) (v := .ref a_28) (C := RX0) (T := TX0) (N := 18) hx hb hts (mm_i inlX0) hown hK.1 hP 0 rfl rfl 9 (by decide) (mm_h hts mm_w73) (fun _ h9 => h9) rfl dX0_copyFrom_76 ?_
  refine lv_aload_n hx hb dX0_copyFrom_79 rfl (lv_at hl 0 rfl) ?_
  refine va_get (D := G) (ci := 0) (v := .ref a_69) (C := RX0) (T := TX0) (N := 18) hx hb hts (mm_i inlX0) hown hK.1 hP 11 rfl rfl 9 (by decide) (mm_h hts mm_w73) (fun _ h9 => h9) rfl dX0_copyFrom_80 ?_
  refine mm_finv (va_runS (As := [.ref a_28, .ref a_69]) (rest := []) ⟨hx, hb, hml, hown, hts⟩ (K44_X0_copyRow l G cy H.size a_28 a_69 ) (va_cwS 2 hts (mm_gS mm_w381 mm_w382 mm_w28 mm_w383) rfl rfl rfl hs_X0_copyRow ⟨by rw [hRf]; exact Nat.le_of_ble_eq_true rfl, by rw [hRl]; exact Nat.le_of_ble_eq_true rfl⟩) (mm_preS hK hP hD [2, 13] rfl rfl) rfl rfl hl.1 rfl (lv_room (Nat.le_of_ble_eq_true rfl)) dX0_copyFrom_83 ⟨by rw [hRc]; exact Nat.le_of_ble_eq_true rfl, by rw [hRs]; exact Nat.le_of_ble_eq_true rfl⟩) hP hD hS hA (fun u : (Nat → Int32) => [(a_1, .inr (0, [.int 0, .int 0, .int 0, .int 0, .int 0, .int 0, .int 0, .int 0, .ref a_27, .ref a_28, .ref a_29, .ref a_30, .ref a_31, .ref a_32, .ref a_33, .ref a_34, .ref a_35, .ref a_36])), (a_27, .inl (cy 1, 9, .inl (fun _ => 0))), (a_28, .inl (cy 1, 9, .inl (fun _ => 0))), (a_29, .inl (cy 1, 3, .inl (fun _ => 0))), (a_30, .inl (cy 1, 210, .inl (fun _ => 0))), (a_31, .inl (cy 1, 6, .inl (fun _ => 0))), (a_32, .inl (cy 1, 48, .inl (fun _ => 0))), (a_33, .inl (cy 1, 30, .inl (fun _ => 0))), (a_34, .inl (cy 1, 30, .inl (fun _ => 0))), (a_35, .inl (cy 1, 30, .inl (fun _ => 0))), (a_36, .inl (cy 1, 30, .inl (fun _ => 0))), (a_0, .inr (0, [.int 0, .int 0, .int 0, .int 0, .int 0, .int 0, .int 0, .int 0, .ref a_68, .ref a_69, .ref a_70, .ref a_71, .ref a_72, .ref a_73, .ref a_74, .ref a_75, .ref a_76, .ref a_77])), (a_68, .inl (cy 1, 9, .inl n1)), (a_69, .inl (cy 1, 9, .inl u)), (a_70, .inl (cy 1, 3, .inl (fun _ => 0))), (a_71, .inl (cy 1, 210, .inl (fun _ => 0))), (a_72, .inl (cy 1, 6, .inl (fun _ => 0))), (a_73, .inl (cy 1, 48, .inl (fun _ => 0))), (a_74, .inl (cy 1, 30, .inl (fun _ => 0))), (a_75, .inl (cy 1, 30, .inl (fun _ => 0))), (a_76, .inl (cy 1, 30, .inl (fun _ => 0))), (a_77, .inl (cy 1, 30, .inl (fun _ => 0)))]) [2, 13] [0, 1, 3, 4, 5, 6, 7, 8, 9, 10, 11, 12, 14, 15, 16, 17, 18, 19, 20, 21] (n := 22) (fun _ => rfl) (by decide +kernel) (by decide +kernel) rfl (fun _ => rfl) (wr := [(a_1, .inr (0, [.int 0, .int 0, .int 0, .int 0, .int 0, .int 0, .int 0, .int 0, .ref a_27, .ref a_28, .ref a_29, .ref a_30, .ref a_31, .ref a_32, .ref a_33, .ref a_34, .ref a_35, .ref a_36])), (a_27, .inl (cy 1, 9, .inl (fun _ => 0))), (a_29, .inl (cy 1, 3, .inl (fun _ => 0))), (a_30, .inl (cy 1, 210, .inl (fun _ => 0))), (a_31, .inl (cy 1, 6, .inl (fun _ => 0))), (a_32, .inl (cy 1, 48, .inl (fun _ => 0))), (a_33, .inl (cy 1, 30, .inl (fun _ => 0))), (a_34, .inl (cy 1, 30, .inl (fun _ => 0))), (a_35, .inl (cy 1, 30, .inl (fun _ => 0))), (a_36, .inl (cy 1, 30, .inl (fun _ => 0))), (a_0, .inr (0, [.int 0, .int 0, .int 0, .int 0, .int 0, .int 0, .int 0, .int 0, .ref a_68, .ref a_69, .ref a_70, .ref a_71, .ref a_72, .ref a_73, .ref a_74, .ref a_75, .ref a_76, .ref a_77])), (a_68, .inl (cy 1, 9, .inl n1)), (a_70, .inl (cy 1, 3, .inl (fun _ => 0))), (a_71, .inl (cy 1, 210, .inl (fun _ => 0))), (a_72, .inl (cy 1, 6, .inl (fun _ => 0))), (a_73, .inl (cy 1, 48, .inl (fun _ => 0))), (a_74, .inl (cy 1, 30, .inl (fun _ => 0))), (a_75, .inl (cy 1, 30, .inl (fun _ => 0))), (a_76, .inl (cy 1, 30, .inl (fun _ => 0))), (a_77, .inl (cy 1, 30, .inl (fun _ => 0)))]) rfl (fun _ => rfl) (fun _ => rfl) ?_
  clear hP hD hS
  clear H locs
  intro n3 H locs hw (hP : va_P G vwCl [(a_1, .inr (0, [.int 0, .int 0, .int 0, .int 0, .int 0, .int 0, .int 0, .int 0, .ref a_27, .ref a_28, .ref a_29, .ref a_30, .ref a_31, .ref a_32, .ref a_33, .ref a_34, .ref a_35, .ref a_36])), (a_27, .inl (cy 1, 9, .inl (fun _ => 0))), (a_28, .inl (cy 1, 9, .inl (fun _ => 0))), (a_29, .inl (cy 1, 3, .inl (fun _ => 0))), (a_30, .inl (cy 1, 210, .inl (fun _ => 0))), (a_31, .inl (cy 1, 6, .inl (fun _ => 0))), (a_32, .inl (cy 1, 48, .inl (fun _ => 0))), (a_33, .inl (cy 1, 30, .inl (fun _ => 0))), (a_34, .inl (cy 1, 30, .inl (fun _ => 0))), (a_35, .inl (cy 1, 30, .inl (fun _ => 0))), (a_36, .inl (cy 1, 30, .inl (fun _ => 0))), (a_0, .inr (0, [.int 0, .int 0, .int 0, .int 0, .int 0, .int 0, .int 0, .int 0, .ref a_68, .ref a_69, .ref a_70, .ref a_71, .ref a_72, .ref a_73, .ref a_74, .ref a_75, .ref a_76, .ref a_77])), (a_68, .inl (cy 1, 9, .inl n1)), (a_69, .inl (cy 1, 9, .inl n3)), (a_70, .inl (cy 1, 3, .inl (fun _ => 0))), (a_71, .inl (cy 1, 210, .inl (fun _ => 0))), (a_72, .inl (cy 1, 6, .inl (fun _ => 0))), (a_73, .inl (cy 1, 48, .inl (fun _ => 0))), (a_74, .inl (cy 1, 30, .inl (fun _ => 0))), (a_75, .inl (cy 1, 30, .inl (fun _ => 0))), (a_76, .inl (cy 1, 30, .inl (fun _ => 0))), (a_77, .inl (cy 1, 30, .inl (fun _ => 0)))] H) (hD : va_D A [(a_1, .inr (0, [.int 0, .int 0, .int 0, .int 0, .int 0, .int 0, .int 0, .int 0, .ref a_27, .ref a_28, .ref a_29, .ref a_30, .ref a_31, .ref a_32, .ref a_33, .ref a_34, .ref a_35, .ref a_36])), (a_27, .inl (cy 1, 9, .inl (fun _ => 0))), (a_28, .inl (cy 1, 9, .inl (fun _ => 0))), (a_29, .inl (cy 1, 3, .inl (fun _ => 0))), (a_30, .inl (cy 1, 210, .inl (fun _ => 0))), (a_31, .inl (cy 1, 6, .inl (fun _ => 0))), (a_32, .inl (cy 1, 48, .inl (fun _ => 0))), (a_33, .inl (cy 1, 30, .inl (fun _ => 0))), (a_34, .inl (cy 1, 30, .inl (fun _ => 0))), (a_35, .inl (cy 1, 30, .inl (fun _ => 0))), (a_36, .inl (cy 1, 30, .inl (fun _ => 0))), (a_0, .inr (0, [.int 0, .int 0, .int 0, .int 0, .int 0, .int 0, .int 0, .int 0, .ref a_68, .ref a_69, .ref a_70, .ref a_71, .ref a_72, .ref a_73, .ref a_74, .ref a_75, .ref a_76, .ref a_77])), (a_68, .inl (cy 1, 9, .inl n1)), (a_69, .inl (cy 1, 9, .inl n3)), (a_70, .inl (cy 1, 3, .inl (fun _ => 0))), (a_71, .inl (cy 1, 210, .inl (fun _ => 0))), (a_72, .inl (cy 1, 6, .inl (fun _ => 0))), (a_73, .inl (cy 1, 48, .inl (fun _ => 0))), (a_74, .inl (cy 1, 30, .inl (fun _ => 0))), (a_75, .inl (cy 1, 30, .inl (fun _ => 0))), (a_76, .inl (cy 1, 30, .inl (fun _ => 0))), (a_77, .inl (cy 1, 30, .inl (fun _ => 0)))]) hS
  have w4 := hw
  refine lv_aload_n hx hb dX0_copyFrom_86 rfl (lv_at hl 1 rfl) ?_
  refine va_get (D := G) (ci := 0) (v := .ref a_29) (C := RX0) (T := TX0) (N := 18) hx hb hts (mm_i inlX0) hown hK.1 hP 0 rfl rfl 10 (by decide) (mm_h hts mm_w74) (fun _ h9 => h9) rfl dX0_copyFrom_87 ?_
  refine lv_aload_n hx hb dX0_copyFrom_90 rfl (lv_at hl 0 rfl) ?_
  refine va_get (D := G) (ci := 0) (v := .ref a_70) (C := RX0) (T := TX0) (N := 18) hx hb hts (mm_i inlX0) hown hK.1 hP 11 rfl rfl 10 (by decide) (mm_h hts mm_w74) (fun _ h9 => h9) rfl dX0_copyFrom_91 ?_
  refine mm_finv (va_runS (As := [.ref a_29, .ref a_70]) (rest := []) ⟨hx, hb, hml, hown, hts⟩ (K282_X0_copyRow l G cy H.size a_29 a_70 ) (va_cwS 2 hts (mm_gS mm_w381 mm_w382 mm_w28 mm_w383) rfl rfl rfl hs_X0_copyRow ⟨by rw [hRf]; exact Nat.le_of_ble_eq_true rfl, by rw [hRl]; exact Nat.le_of_ble_eq_true rfl⟩) (mm_preS hK hP hD [3, 14] rfl rfl) rfl rfl hl.1 rfl (lv_room (Nat.le_of_ble_eq_true rfl)) dX0_copyFrom_94 ⟨by rw [hRc]; exact Nat.le_of_ble_eq_true rfl, by rw [hRs]; exact Nat.le_of_ble_eq_true rfl⟩) hP hD hS hA (fun u : (Nat → Int32) => [(a_1, .inr (0, [.int 0, .int 0, .int 0, .int 0, .int 0, .int 0, .int 0, .int 0, .ref a_27, .ref a_28, .ref a_29, .ref a_30, .ref a_31, .ref a_32, .ref a_33, .ref a_34, .ref a_35, .ref a_36])), (a_27, .inl (cy 1, 9, .inl (fun _ => 0))), (a_28, .inl (cy 1, 9, .inl (fun _ => 0))), (a_29, .inl (cy 1, 3, .inl (fun _ => 0))), (a_30, .inl (cy 1, 210, .inl (fun _ => 0))), (a_31, .inl (cy 1, 6, .inl (fun _ => 0))), (a_32, .inl (cy 1, 48, .inl (fun _ => 0))), (a_33, .inl (cy 1, 30, .inl (fun _ => 0))), (a_34, .inl (cy 1, 30, .inl (fun _ => 0))), (a_35, .inl (cy 1, 30, .inl (fun _ => 0))), (a_36, .inl (cy 1, 30, .inl (fun _ => 0))), (a_0, .inr (0, [.int 0, .int 0, .int 0, .int 0, .int 0, .int 0, .int 0, .int 0, .ref a_68, .ref a_69, .ref a_70, .ref a_71, .ref a_72, .ref a_73, .ref a_74, .ref a_75, .ref a_76, .ref a_77])), (a_68, .inl (cy 1, 9, .inl n1)), (a_69, .inl (cy 1, 9, .inl n3)), (a_70, .inl (cy 1, 3, .inl u)), (a_71, .inl (cy 1, 210, .inl (fun _ => 0))), (a_72, .inl (cy 1, 6, .inl (fun _ => 0))), (a_73, .inl (cy 1, 48, .inl (fun _ => 0))), (a_74, .inl (cy 1, 30, .inl (fun _ => 0))), (a_75, .inl (cy 1, 30, .inl (fun _ => 0))), (a_76, .inl (cy 1, 30, .inl (fun _ => 0))), (a_77, .inl (cy 1, 30, .inl (fun _ => 0)))]) [3, 14] [0, 1, 2, 4, 5, 6, 7, 8, 9, 10, 11, 12, 13, 15, 16, 17, 18, 19, 20, 21] (n := 22) (fun _ => rfl) (by decide +kernel) (by decide +kernel) rfl (fun _ => rfl) (wr := [(a_1, .inr (0, [.int 0, .int 0, .int 0, .int 0, .int 0, .int 0, .int 0, .int 0, .ref a_27, .ref a_28, .ref a_29, .ref a_30, .ref a_31, .ref a_32, .ref a_33, .ref a_34, .ref a_35, .ref a_36])), (a_27, .inl (cy 1, 9, .inl (fun _ => 0))), (a_28, .inl (cy 1, 9, .inl (fun _ => 0))), (a_30, .inl (cy 1, 210, .inl (fun _ => 0))), (a_31, .inl (cy 1, 6, .inl (fun _ => 0))), (a_32, .inl (cy 1, 48, .inl (fun _ => 0))), (a_33, .inl (cy 1, 30, .inl (fun _ => 0))), (a_34, .inl (cy 1, 30, .inl (fun _ => 0))), (a_35, .inl (cy 1, 30, .inl (fun _ => 0))), (a_36, .inl (cy 1, 30, .inl (fun _ => 0))), (a_0, .inr (0, [.int 0, .int 0, .int 0, .int 0, .int 0, .int 0, .int 0, .int 0, .ref a_68, .ref a_69, .ref a_70, .ref a_71, .ref a_72, .ref a_73, .ref a_74, .ref a_75, .ref a_76, .ref a_77])), (a_68, .inl (cy 1, 9, .inl n1)), (a_69, .inl (cy 1, 9, .inl n3)), (a_71, .inl (cy 1, 210, .inl (fun _ => 0))), (a_72, .inl (cy 1, 6, .inl (fun _ => 0))), (a_73, .inl (cy 1, 48, .inl (fun _ => 0))), (a_74, .inl (cy 1, 30, .inl (fun _ => 0))), (a_75, .inl (cy 1, 30, .inl (fun _ => 0))), (a_76, .inl (cy 1, 30, .inl (fun _ => 0))), (a_77, .inl (cy 1, 30, .inl (fun _ => 0)))]) rfl (fun _ => rfl) (fun _ => rfl) ?_
  clear hP hD hS
  clear H locs
  intro n5 H locs hw (hP : va_P G vwCl [(a_1, .inr (0, [.int 0, .int 0, .int 0, .int 0, .int 0, .int 0, .int 0, .int 0, .ref a_27, .ref a_28, .ref a_29, .ref a_30, .ref a_31, .ref a_32, .ref a_33, .ref a_34, .ref a_35, .ref a_36])), (a_27, .inl (cy 1, 9, .inl (fun _ => 0))), (a_28, .inl (cy 1, 9, .inl (fun _ => 0))), (a_29, .inl (cy 1, 3, .inl (fun _ => 0))), (a_30, .inl (cy 1, 210, .inl (fun _ => 0))), (a_31, .inl (cy 1, 6, .inl (fun _ => 0))), (a_32, .inl (cy 1, 48, .inl (fun _ => 0))), (a_33, .inl (cy 1, 30, .inl (fun _ => 0))), (a_34, .inl (cy 1, 30, .inl (fun _ => 0))), (a_35, .inl (cy 1, 30, .inl (fun _ => 0))), (a_36, .inl (cy 1, 30, .inl (fun _ => 0))), (a_0, .inr (0, [.int 0, .int 0, .int 0, .int 0, .int 0, .int 0, .int 0, .int 0, .ref a_68, .ref a_69, .ref a_70, .ref a_71, .ref a_72, .ref a_73, .ref a_74, .ref a_75, .ref a_76, .ref a_77])), (a_68, .inl (cy 1, 9, .inl n1)), (a_69, .inl (cy 1, 9, .inl n3)), (a_70, .inl (cy 1, 3, .inl n5)), (a_71, .inl (cy 1, 210, .inl (fun _ => 0))), (a_72, .inl (cy 1, 6, .inl (fun _ => 0))), (a_73, .inl (cy 1, 48, .inl (fun _ => 0))), (a_74, .inl (cy 1, 30, .inl (fun _ => 0))), (a_75, .inl (cy 1, 30, .inl (fun _ => 0))), (a_76, .inl (cy 1, 30, .inl (fun _ => 0))), (a_77, .inl (cy 1, 30, .inl (fun _ => 0)))] H) (hD : va_D A [(a_1, .inr (0, [.int 0, .int 0, .int 0, .int 0, .int 0, .int 0, .int 0, .int 0, .ref a_27, .ref a_28, .ref a_29, .ref a_30, .ref a_31, .ref a_32, .ref a_33, .ref a_34, .ref a_35, .ref a_36])), (a_27, .inl (cy 1, 9, .inl (fun _ => 0))), (a_28, .inl (cy 1, 9, .inl (fun _ => 0))), (a_29, .inl (cy 1, 3, .inl (fun _ => 0))), (a_30, .inl (cy 1, 210, .inl (fun _ => 0))), (a_31, .inl (cy 1, 6, .inl (fun _ => 0))), (a_32, .inl (cy 1, 48, .inl (fun _ => 0))), (a_33, .inl (cy 1, 30, .inl (fun _ => 0))), (a_34, .inl (cy 1, 30, .inl (fun _ => 0))), (a_35, .inl (cy 1, 30, .inl (fun _ => 0))), (a_36, .inl (cy 1, 30, .inl (fun _ => 0))), (a_0, .inr (0, [.int 0, .int 0, .int 0, .int 0, .int 0, .int 0, .int 0, .int 0, .ref a_68, .ref a_69, .ref a_70, .ref a_71, .ref a_72, .ref a_73, .ref a_74, .ref a_75, .ref a_76, .ref a_77])), (a_68, .inl (cy 1, 9, .inl n1)), (a_69, .inl (cy 1, 9, .inl n3)), (a_70, .inl (cy 1, 3, .inl n5)), (a_71, .inl (cy 1, 210, .inl (fun _ => 0))), (a_72, .inl (cy 1, 6, .inl (fun _ => 0))), (a_73, .inl (cy 1, 48, .inl (fun _ => 0))), (a_74, .inl (cy 1, 30, .inl (fun _ => 0))), (a_75, .inl (cy 1, 30, .inl (fun _ => 0))), (a_76, .inl (cy 1, 30, .inl (fun _ => 0))), (a_77, .inl (cy 1, 30, .inl (fun _ => 0)))]) hS
  have w6 := hw
  refine lv_aload_n hx hb dX0_copyFrom_97 rfl (lv_at hl 1 rfl) ?_
  refine va_get (D := G) (ci := 0) (v := .ref a_30) (C := RX0) (T := TX0) (N := 18) hx hb hts (mm_i inlX0) hown hK.1 hP 0 rfl rfl 11 (by decide) (mm_h hts mm_w75) (fun _ h9 => h9) rfl dX0_copyFrom_98 ?_
  refine lv_aload_n hx hb dX0_copyFrom_101 rfl (lv_at hl 0 rfl) ?_
  refine va_get (D := G) (ci := 0) (v := .ref a_71) (C := RX0) (T := TX0) (N := 18) hx hb hts (mm_i inlX0) hown hK.1 hP 11 rfl rfl 11 (by decide) (mm_h hts mm_w75) (fun _ h9 => h9) rfl dX0_copyFrom_102 ?_
  refine mm_finv (va_runS (As := [.ref a_30, .ref a_71]) (rest := []) ⟨hx, hb, hml, hown, hts⟩ (K46_X0_copyRow l G cy H.size a_30 a_71 ) (va_cwS 2 hts (mm_gS mm_w381 mm_w382 mm_w28 mm_w383) rfl rfl rfl hs_X0_copyRow ⟨by rw [hRf]; exact Nat.le_of_ble_eq_true rfl, by rw [hRl]; exact Nat.le_of_ble_eq_true rfl⟩) (mm_preS hK hP hD [4, 15] rfl rfl) rfl rfl hl.1 rfl (lv_room (Nat.le_of_ble_eq_true rfl)) dX0_copyFrom_105 ⟨by rw [hRc]; exact Nat.le_of_ble_eq_true rfl, by rw [hRs]; exact Nat.le_of_ble_eq_true rfl⟩) hP hD hS hA (fun u : (Nat → Int32) => [(a_1, .inr (0, [.int 0, .int 0, .int 0, .int 0, .int 0, .int 0, .int 0, .int 0, .ref a_27, .ref a_28, .ref a_29, .ref a_30, .ref a_31, .ref a_32, .ref a_33, .ref a_34, .ref a_35, .ref a_36])), (a_27, .inl (cy 1, 9, .inl (fun _ => 0))), (a_28, .inl (cy 1, 9, .inl (fun _ => 0))), (a_29, .inl (cy 1, 3, .inl (fun _ => 0))), (a_30, .inl (cy 1, 210, .inl (fun _ => 0))), (a_31, .inl (cy 1, 6, .inl (fun _ => 0))), (a_32, .inl (cy 1, 48, .inl (fun _ => 0))), (a_33, .inl (cy 1, 30, .inl (fun _ => 0))), (a_34, .inl (cy 1, 30, .inl (fun _ => 0))), (a_35, .inl (cy 1, 30, .inl (fun _ => 0))), (a_36, .inl (cy 1, 30, .inl (fun _ => 0))), (a_0, .inr (0, [.int 0, .int 0, .int 0, .int 0, .int 0, .int 0, .int 0, .int 0, .ref a_68, .ref a_69, .ref a_70, .ref a_71, .ref a_72, .ref a_73, .ref a_74, .ref a_75, .ref a_76, .ref a_77])), (a_68, .inl (cy 1, 9, .inl n1)), (a_69, .inl (cy 1, 9, .inl n3)), (a_70, .inl (cy 1, 3, .inl n5)), (a_71, .inl (cy 1, 210, .inl u)), (a_72, .inl (cy 1, 6, .inl (fun _ => 0))), (a_73, .inl (cy 1, 48, .inl (fun _ => 0))), (a_74, .inl (cy 1, 30, .inl (fun _ => 0))), (a_75, .inl (cy 1, 30, .inl (fun _ => 0))), (a_76, .inl (cy 1, 30, .inl (fun _ => 0))), (a_77, .inl (cy 1, 30, .inl (fun _ => 0)))]) [4, 15] [0, 1, 2, 3, 5, 6, 7, 8, 9, 10, 11, 12, 13, 14, 16, 17, 18, 19, 20, 21] (n := 22) (fun _ => rfl) (by decide +kernel) (by decide +kernel) rfl (fun _ => rfl) (wr := [(a_1, .inr (0, [.int 0, .int 0, .int 0, .int 0, .int 0, .int 0, .int 0, .int 0, .ref a_27, .ref a_28, .ref a_29, .ref a_30, .ref a_31, .ref a_32, .ref a_33, .ref a_34, .ref a_35, .ref a_36])), (a_27, .inl (cy 1, 9, .inl (fun _ => 0))), (a_28, .inl (cy 1, 9, .inl (fun _ => 0))), (a_29, .inl (cy 1, 3, .inl (fun _ => 0))), (a_31, .inl (cy 1, 6, .inl (fun _ => 0))), (a_32, .inl (cy 1, 48, .inl (fun _ => 0))), (a_33, .inl (cy 1, 30, .inl (fun _ => 0))), (a_34, .inl (cy 1, 30, .inl (fun _ => 0))), (a_35, .inl (cy 1, 30, .inl (fun _ => 0))), (a_36, .inl (cy 1, 30, .inl (fun _ => 0))), (a_0, .inr (0, [.int 0, .int 0, .int 0, .int 0, .int 0, .int 0, .int 0, .int 0, .ref a_68, .ref a_69, .ref a_70, .ref a_71, .ref a_72, .ref a_73, .ref a_74, .ref a_75, .ref a_76, .ref a_77])), (a_68, .inl (cy 1, 9, .inl n1)), (a_69, .inl (cy 1, 9, .inl n3)), (a_70, .inl (cy 1, 3, .inl n5)), (a_72, .inl (cy 1, 6, .inl (fun _ => 0))), (a_73, .inl (cy 1, 48, .inl (fun _ => 0))), (a_74, .inl (cy 1, 30, .inl (fun _ => 0))), (a_75, .inl (cy 1, 30, .inl (fun _ => 0))), (a_76, .inl (cy 1, 30, .inl (fun _ => 0))), (a_77, .inl (cy 1, 30, .inl (fun _ => 0)))]) rfl (fun _ => rfl) (fun _ => rfl) ?_
  clear hP hD hS
  clear H locs
  intro n7 H locs hw (hP : va_P G vwCl [(a_1, .inr (0, [.int 0, .int 0, .int 0, .int 0, .int 0, .int 0, .int 0, .int 0, .ref a_27, .ref a_28, .ref a_29, .ref a_30, .ref a_31, .ref a_32, .ref a_33, .ref a_34, .ref a_35, .ref a_36])), (a_27, .inl (cy 1, 9, .inl (fun _ => 0))), (a_28, .inl (cy 1, 9, .inl (fun _ => 0))), (a_29, .inl (cy 1, 3, .inl (fun _ => 0))), (a_30, .inl (cy 1, 210, .inl (fun _ => 0))), (a_31, .inl (cy 1, 6, .inl (fun _ => 0))), (a_32, .inl (cy 1, 48, .inl (fun _ => 0))), (a_33, .inl (cy 1, 30, .inl (fun _ => 0))), (a_34, .inl (cy 1, 30, .inl (fun _ => 0))), (a_35, .inl (cy 1, 30, .inl (fun _ => 0))), (a_36, .inl (cy 1, 30, .inl (fun _ => 0))), (a_0, .inr (0, [.int 0, .int 0, .int 0, .int 0, .int 0, .int 0, .int 0, .int 0, .ref a_68, .ref a_69, .ref a_70, .ref a_71, .ref a_72, .ref a_73, .ref a_74, .ref a_75, .ref a_76, .ref a_77])), (a_68, .inl (cy 1, 9, .inl n1)), (a_69, .inl (cy 1, 9, .inl n3)), (a_70, .inl (cy 1, 3, .inl n5)), (a_71, .inl (cy 1, 210, .inl n7)), (a_72, .inl (cy 1, 6, .inl (fun _ => 0))), (a_73, .inl (cy 1, 48, .inl (fun _ => 0))), (a_74, .inl (cy 1, 30, .inl (fun _ => 0))), (a_75, .inl (cy 1, 30, .inl (fun _ => 0))), (a_76, .inl (cy 1, 30, .inl (fun _ => 0))), (a_77, .inl (cy 1, 30, .inl (fun _ => 0)))] H) (hD : va_D A [(a_1, .inr (0, [.int 0, .int 0, .int 0, .int 0, .int 0, .int 0, .int 0, .int 0, .ref a_27, .ref a_28, .ref a_29, .ref a_30, .ref a_31, .ref a_32, .ref a_33, .ref a_34, .ref a_35, .ref a_36])), (a_27, .inl (cy 1, 9, .inl (fun _ => 0))), (a_28, .inl (cy 1, 9, .inl (fun _ => 0))), (a_29, .inl (cy 1, 3, .inl (fun _ => 0))), (a_30, .inl (cy 1, 210, .inl (fun _ => 0))), (a_31, .inl (cy 1, 6, .inl (fun _ => 0))), (a_32, .inl (cy 1, 48, .inl (fun _ => 0))), (a_33, .inl (cy 1, 30, .inl (fun _ => 0))), (a_34, .inl (cy 1, 30, .inl (fun _ => 0))), (a_35, .inl (cy 1, 30, .inl (fun _ => 0))), (a_36, .inl (cy 1, 30, .inl (fun _ => 0))), (a_0, .inr (0, [.int 0, .int 0, .int 0, .int 0, .int 0, .int 0, .int 0, .int 0, .ref a_68, .ref a_69, .ref a_70, .ref a_71, .ref a_72, .ref a_73, .ref a_74, .ref a_75, .ref a_76, .ref a_77])), (a_68, .inl (cy 1, 9, .inl n1)), (a_69, .inl (cy 1, 9, .inl n3)), (a_70, .inl (cy 1, 3, .inl n5)), (a_71, .inl (cy 1, 210, .inl n7)), (a_72, .inl (cy 1, 6, .inl (fun _ => 0))), (a_73, .inl (cy 1, 48, .inl (fun _ => 0))), (a_74, .inl (cy 1, 30, .inl (fun _ => 0))), (a_75, .inl (cy 1, 30, .inl (fun _ => 0))), (a_76, .inl (cy 1, 30, .inl (fun _ => 0))), (a_77, .inl (cy 1, 30, .inl (fun _ => 0)))]) hS
  have w8 := hw
  refine lv_aload_n hx hb dX0_copyFrom_108 rfl (lv_at hl 1 rfl) ?_
  refine va_get (D := G) (ci := 0) (v := .ref a_31) (C := RX0) (T := TX0) (N := 18) hx hb hts (mm_i inlX0) hown hK.1 hP 0 rfl rfl 12 (by decide) (mm_h hts mm_w76) (fun _ h9 => h9) rfl dX0_copyFrom_109 ?_
  refine lv_aload_n hx hb dX0_copyFrom_112 rfl (lv_at hl 0 rfl) ?_
  refine va_get (D := G) (ci := 0) (v := .ref a_72) (C := RX0) (T := TX0) (N := 18) hx hb hts (mm_i inlX0) hown hK.1 hP 11 rfl rfl 12 (by decide) (mm_h hts mm_w76) (fun _ h9 => h9) rfl dX0_copyFrom_113 ?_
  refine mm_finv (va_runS (As := [.ref a_31, .ref a_72]) (rest := []) ⟨hx, hb, hml, hown, hts⟩ (K283_X0_copyRow l G cy H.size a_31 a_72 ) (va_cwS 2 hts (mm_gS mm_w381 mm_w382 mm_w28 mm_w383) rfl rfl rfl hs_X0_copyRow ⟨by rw [hRf]; exact Nat.le_of_ble_eq_true rfl, by rw [hRl]; exact Nat.le_of_ble_eq_true rfl⟩) (mm_preS hK hP hD [5, 16] rfl rfl) rfl rfl hl.1 rfl (lv_room (Nat.le_of_ble_eq_true rfl)) dX0_copyFrom_116 ⟨by rw [hRc]; exact Nat.le_of_ble_eq_true rfl, by rw [hRs]; exact Nat.le_of_ble_eq_true rfl⟩) hP hD hS hA (fun u : (Nat → Int32) => [(a_1, .inr (0, [.int 0, .int 0, .int 0, .int 0, .int 0, .int 0, .int 0, .int 0, .ref a_27, .ref a_28, .ref a_29, .ref a_30, .ref a_31, .ref a_32, .ref a_33, .ref a_34, .ref a_35, .ref a_36])), (a_27, .inl (cy 1, 9, .inl (fun _ => 0))), (a_28, .inl (cy 1, 9, .inl (fun _ => 0))), (a_29, .inl (cy 1, 3, .inl (fun _ => 0))), (a_30, .inl (cy 1, 210, .inl (fun _ => 0))), (a_31, .inl (cy 1, 6, .inl (fun _ => 0))), (a_32, .inl (cy 1, 48, .inl (fun _ => 0))), (a_33, .inl (cy 1, 30, .inl (fun _ => 0))), (a_34, .inl (cy 1, 30, .inl (fun _ => 0))), (a_35, .inl (cy 1, 30, .inl (fun _ => 0))), (a_36, .inl (cy 1, 30, .inl (fun _ => 0))), (a_0, .inr (0, [.int 0, .int 0, .int 0, .int 0, .int 0, .int 0, .int 0, .int 0, .ref a_68, .ref a_69, .ref a_70, .ref a_71, .ref a_72, .ref a_73, .ref a_74, .ref a_75, .ref a_76, .ref a_77])), (a_68, .inl (cy 1, 9, .inl n1)), (a_69, .inl (cy 1, 9, .inl n3)), (a_70, .inl (cy 1, 3, .inl n5)), (a_71, .inl (cy 1, 210, .inl n7)), (a_72, .inl (cy 1, 6, .inl u)), (a_73, .inl (cy 1, 48, .inl (fun _ => 0))), (a_74, .inl (cy 1, 30, .inl (fun _ => 0))), (a_75, .inl (cy 1, 30, .inl (fun _ => 0))), (a_76, .inl (cy 1, 30, .inl (fun _ => 0))), (a_77, .inl (cy 1, 30, .inl (fun _ => 0)))]) [5, 16] [0, 1, 2, 3, 4, 6, 7, 8, 9, 10, 11, 12, 13, 14, 15, 17, 18, 19, 20, 21] (n := 22) (fun _ => rfl) (by decide +kernel) (by decide +kernel) rfl (fun _ => rfl) (wr := [(a_1, .inr (0, [.int 0, .int 0, .int 0, .int 0, .int 0, .int 0, .int 0, .int 0, .ref a_27, .ref a_28, .ref a_29, .ref a_30, .ref a_31, .ref a_32, .ref a_33, .ref a_34, .ref a_35, .ref a_36])), (a_27, .inl (cy 1, 9, .inl (fun _ => 0))), (a_28, .inl (cy 1, 9, .inl (fun _ => 0))), (a_29, .inl (cy 1, 3, .inl (fun _ => 0))), (a_30, .inl (cy 1, 210, .inl (fun _ => 0))), (a_32, .inl (cy 1, 48, .inl (fun _ => 0))), (a_33, .inl (cy 1, 30, .inl (fun _ => 0))), (a_34, .inl (cy 1, 30, .inl (fun _ => 0))), (a_35, .inl (cy 1, 30, .inl (fun _ => 0))), (a_36, .inl (cy 1, 30, .inl (fun _ => 0))), (a_0, .inr (0, [.int 0, .int 0, .int 0, .int 0, .int 0, .int 0, .int 0, .int 0, .ref a_68, .ref a_69, .ref a_70, .ref a_71, .ref a_72, .ref a_73, .ref a_74, .ref a_75, .ref a_76, .ref a_77])), (a_68, .inl (cy 1, 9, .inl n1)), (a_69, .inl (cy 1, 9, .inl n3)), (a_70, .inl (cy 1, 3, .inl n5)), (a_71, .inl (cy 1, 210, .inl n7)), (a_73, .inl (cy 1, 48, .inl (fun _ => 0))), (a_74, .inl (cy 1, 30, .inl (fun _ => 0))), (a_75, .inl (cy 1, 30, .inl (fun _ => 0))), (a_76, .inl (cy 1, 30, .inl (fun _ => 0))), (a_77, .inl (cy 1, 30, .inl (fun _ => 0)))]) rfl (fun _ => rfl) (fun _ => rfl) ?_
  clear hP hD hS
  clear H locs
  intro n9 H locs hw (hP : va_P G vwCl [(a_1, .inr (0, [.int 0, .int 0, .int 0, .int 0, .int 0, .int 0, .int 0, .int 0, .ref a_27, .ref a_28, .ref a_29, .ref a_30, .ref a_31, .ref a_32, .ref a_33, .ref a_34, .ref a_35, .ref a_36])), (a_27, .inl (cy 1, 9, .inl (fun _ => 0))), (a_28, .inl (cy 1, 9, .inl (fun _ => 0))), (a_29, .inl (cy 1, 3, .inl (fun _ => 0))), (a_30, .inl (cy 1, 210, .inl (fun _ => 0))), (a_31, .inl (cy 1, 6, .inl (fun _ => 0))), (a_32, .inl (cy 1, 48, .inl (fun _ => 0))), (a_33, .inl (cy 1, 30, .inl (fun _ => 0))), (a_34, .inl (cy 1, 30, .inl (fun _ => 0))), (a_35, .inl (cy 1, 30, .inl (fun _ => 0))), (a_36, .inl (cy 1, 30, .inl (fun _ => 0))), (a_0, .inr (0, [.int 0, .int 0, .int 0, .int 0, .int 0, .int 0, .int 0, .int 0, .ref a_68, .ref a_69, .ref a_70, .ref a_71, .ref a_72, .ref a_73, .ref a_74, .ref a_75, .ref a_76, .ref a_77])), (a_68, .inl (cy 1, 9, .inl n1)), (a_69, .inl (cy 1, 9, .inl n3)), (a_70, .inl (cy 1, 3, .inl n5)), (a_71, .inl (cy 1, 210, .inl n7)), (a_72, .inl (cy 1, 6, .inl n9)), (a_73, .inl (cy 1, 48, .inl (fun _ => 0))), (a_74, .inl (cy 1, 30, .inl (fun _ => 0))), (a_75, .inl (cy 1, 30, .inl (fun _ => 0))), (a_76, .inl (cy 1, 30, .inl (fun _ => 0))), (a_77, .inl (cy 1, 30, .inl (fun _ => 0)))] H) (hD : va_D A [(a_1, .inr (0, [.int 0, .int 0, .int 0, .int 0, .int 0, .int 0, .int 0, .int 0, .ref a_27, .ref a_28, .ref a_29, .ref a_30, .ref a_31, .ref a_32, .ref a_33, .ref a_34, .ref a_35, .ref a_36])), (a_27, .inl (cy 1, 9, .inl (fun _ => 0))), (a_28, .inl (cy 1, 9, .inl (fun _ => 0))), (a_29, .inl (cy 1, 3, .inl (fun _ => 0))), (a_30, .inl (cy 1, 210, .inl (fun _ => 0))), (a_31, .inl (cy 1, 6, .inl (fun _ => 0))), (a_32, .inl (cy 1, 48, .inl (fun _ => 0))), (a_33, .inl (cy 1, 30, .inl (fun _ => 0))), (a_34, .inl (cy 1, 30, .inl (fun _ => 0))), (a_35, .inl (cy 1, 30, .inl (fun _ => 0))), (a_36, .inl (cy 1, 30, .inl (fun _ => 0))), (a_0, .inr (0, [.int 0, .int 0, .int 0, .int 0, .int 0, .int 0, .int 0, .int 0, .ref a_68, .ref a_69, .ref a_70, .ref a_71, .ref a_72, .ref a_73, .ref a_74, .ref a_75, .ref a_76, .ref a_77])), (a_68, .inl (cy 1, 9, .inl n1)), (a_69, .inl (cy 1, 9, .inl n3)), (a_70, .inl (cy 1, 3, .inl n5)), (a_71, .inl (cy 1, 210, .inl n7)), (a_72, .inl (cy 1, 6, .inl n9)), (a_73, .inl (cy 1, 48, .inl (fun _ => 0))), (a_74, .inl (cy 1, 30, .inl (fun _ => 0))), (a_75, .inl (cy 1, 30, .inl (fun _ => 0))), (a_76, .inl (cy 1, 30, .inl (fun _ => 0))), (a_77, .inl (cy 1, 30, .inl (fun _ => 0)))]) hS
  have w10 := hw
  refine lv_aload_n hx hb dX0_copyFrom_119 rfl (lv_at hl 1 rfl) ?_
  refine va_get (D := G) (ci := 0) (v := .ref a_32) (C := RX0) (T := TX0) (N := 18) hx hb hts (mm_i inlX0) hown hK.1 hP 0 rfl rfl 13 (by decide) (mm_h hts mm_w77) (fun _ h9 => h9) rfl dX0_copyFrom_120 ?_
  refine lv_aload_n hx hb dX0_copyFrom_123 rfl (lv_at hl 0 rfl) ?_
  refine va_get (D := G) (ci := 0) (v := .ref a_73) (C := RX0) (T := TX0) (N := 18) hx hb hts (mm_i inlX0) hown hK.1 hP 11 rfl rfl 13 (by decide) (mm_h hts mm_w77) (fun _ h9 => h9) rfl dX0_copyFrom_124 ?_
  refine mm_finv (va_runS (As := [.ref a_32, .ref a_73]) (rest := []) ⟨hx, hb, hml, hown, hts⟩ (K48_X0_copyRow l G cy H.size a_32 a_73 ) (va_cwS 2 hts (mm_gS mm_w381 mm_w382 mm_w28 mm_w383) rfl rfl rfl hs_X0_copyRow ⟨by rw [hRf]; exact Nat.le_of_ble_eq_true rfl, by rw [hRl]; exact Nat.le_of_ble_eq_true rfl⟩) (mm_preS hK hP hD [6, 17] rfl rfl) rfl rfl hl.1 rfl (lv_room (Nat.le_of_ble_eq_true rfl)) dX0_copyFrom_127 ⟨by rw [hRc]; exact Nat.le_of_ble_eq_true rfl, by rw [hRs]; exact Nat.le_of_ble_eq_true rfl⟩) hP hD hS hA (fun u : (Nat → Int32) => [(a_1, .inr (0, [.int 0, .int 0, .int 0, .int 0, .int 0, .int 0, .int 0, .int 0, .ref a_27, .ref a_28, .ref a_29, .ref a_30, .ref a_31, .ref a_32, .ref a_33, .ref a_34, .ref a_35, .ref a_36])), (a_27, .inl (cy 1, 9, .inl (fun _ => 0))), (a_28, .inl (cy 1, 9, .inl (fun _ => 0))), (a_29, .inl (cy 1, 3, .inl (fun _ => 0))), (a_30, .inl (cy 1, 210, .inl (fun _ => 0))), (a_31, .inl (cy 1, 6, .inl (fun _ => 0))), (a_32, .inl (cy 1, 48, .inl (fun _ => 0))), (a_33, .inl (cy 1, 30, .inl (fun _ => 0))), (a_34, .inl (cy 1, 30, .inl (fun _ => 0))), (a_35, .inl (cy 1, 30, .inl (fun _ => 0))), (a_36, .inl (cy 1, 30, .inl (fun _ => 0))), (a_0, .inr (0, [.int 0, .int 0, .int 0, .int 0, .int 0, .int 0, .int 0, .int 0, .ref a_68, .ref a_69, .ref a_70, .ref a_71, .ref a_72, .ref a_73, .ref a_74, .ref a_75, .ref a_76, .ref a_77])), (a_68, .inl (cy 1, 9, .inl n1)), (a_69, .inl (cy 1, 9, .inl n3)), (a_70, .inl (cy 1, 3, .inl n5)), (a_71, .inl (cy 1, 210, .inl n7)), (a_72, .inl (cy 1, 6, .inl n9)), (a_73, .inl (cy 1, 48, .inl u)), (a_74, .inl (cy 1, 30, .inl (fun _ => 0))), (a_75, .inl (cy 1, 30, .inl (fun _ => 0))), (a_76, .inl (cy 1, 30, .inl (fun _ => 0))), (a_77, .inl (cy 1, 30, .inl (fun _ => 0)))]) [6, 17] [0, 1, 2, 3, 4, 5, 7, 8, 9, 10, 11, 12, 13, 14, 15, 16, 18, 19, 20, 21] (n := 22) (fun _ => rfl) (by decide +kernel) (by decide +kernel) rfl (fun _ => rfl) (wr := [(a_1, .inr (0, [.int 0, .int 0, .int 0, .int 0, .int 0, .int 0, .int 0, .int 0, .ref a_27, .ref a_28, .ref a_29, .ref a_30, .ref a_31, .ref a_32, .ref a_33, .ref a_34, .ref a_35, .ref a_36])), (a_27, .inl (cy 1, 9, .inl (fun _ => 0))), (a_28, .inl (cy 1, 9, .inl (fun _ => 0))), (a_29, .inl (cy 1, 3, .inl (fun _ => 0))), (a_30, .inl (cy 1, 210, .inl (fun _ => 0))), (a_31, .inl (cy 1, 6, .inl (fun _ => 0))), (a_33, .inl (cy 1, 30, .inl (fun _ => 0))), (a_34, .inl (cy 1, 30, .inl (fun _ => 0))), (a_35, .inl (cy 1, 30, .inl (fun _ => 0))), (a_36, .inl (cy 1, 30, .inl (fun _ => 0))), (a_0, .inr (0, [.int 0, .int 0, .int 0, .int 0, .int 0, .int 0, .int 0, .int 0, .ref a_68, .ref a_69, .ref a_70, .ref a_71, .ref a_72, .ref a_73, .ref a_74, .ref a_75, .ref a_76, .ref a_77])), (a_68, .inl (cy 1, 9, .inl n1)), (a_69, .inl (cy 1, 9, .inl n3)), (a_70, .inl (cy 1, 3, .inl n5)), (a_71, .inl (cy 1, 210, .inl n7)), (a_72, .inl (cy 1, 6, .inl n9)), (a_74, .inl (cy 1, 30, .inl (fun _ => 0))), (a_75, .inl (cy 1, 30, .inl (fun _ => 0))), (a_76, .inl (cy 1, 30, .inl (fun _ => 0))), (a_77, .inl (cy 1, 30, .inl (fun _ => 0)))]) rfl (fun _ => rfl) (fun _ => rfl) ?_
  clear hP hD hS
  clear H locs
  intro n11 H locs hw (hP : va_P G vwCl [(a_1, .inr (0, [.int 0, .int 0, .int 0, .int 0, .int 0, .int 0, .int 0, .int 0, .ref a_27, .ref a_28, .ref a_29, .ref a_30, .ref a_31, .ref a_32, .ref a_33, .ref a_34, .ref a_35, .ref a_36])), (a_27, .inl (cy 1, 9, .inl (fun _ => 0))), (a_28, .inl (cy 1, 9, .inl (fun _ => 0))), (a_29, .inl (cy 1, 3, .inl (fun _ => 0))), (a_30, .inl (cy 1, 210, .inl (fun _ => 0))), (a_31, .inl (cy 1, 6, .inl (fun _ => 0))), (a_32, .inl (cy 1, 48, .inl (fun _ => 0))), (a_33, .inl (cy 1, 30, .inl (fun _ => 0))), (a_34, .inl (cy 1, 30, .inl (fun _ => 0))), (a_35, .inl (cy 1, 30, .inl (fun _ => 0))), (a_36, .inl (cy 1, 30, .inl (fun _ => 0))), (a_0, .inr (0, [.int 0, .int 0, .int 0, .int 0, .int 0, .int 0, .int 0, .int 0, .ref a_68, .ref a_69, .ref a_70, .ref a_71, .ref a_72, .ref a_73, .ref a_74, .ref a_75, .ref a_76, .ref a_77])), (a_68, .inl (cy 1, 9, .inl n1)), (a_69, .inl (cy 1, 9, .inl n3)), (a_70, .inl (cy 1, 3, .inl n5)), (a_71, .inl (cy 1, 210, .inl n7)), (a_72, .inl (cy 1, 6, .inl n9)), (a_73, .inl (cy 1, 48, .inl n11)), (a_74, .inl (cy 1, 30, .inl (fun _ => 0))), (a_75, .inl (cy 1, 30, .inl (fun _ => 0))), (a_76, .inl (cy 1, 30, .inl (fun _ => 0))), (a_77, .inl (cy 1, 30, .inl (fun _ => 0)))] H) (hD : va_D A [(a_1, .inr (0, [.int 0, .int 0, .int 0, .int 0, .int 0, .int 0, .int 0, .int 0, .ref a_27, .ref a_28, .ref a_29, .ref a_30, .ref a_31, .ref a_32, .ref a_33, .ref a_34, .ref a_35, .ref a_36])), (a_27, .inl (cy 1, 9, .inl (fun _ => 0))), (a_28, .inl (cy 1, 9, .inl (fun _ => 0))), (a_29, .inl (cy 1, 3, .inl (fun _ => 0))), (a_30, .inl (cy 1, 210, .inl (fun _ => 0))), (a_31, .inl (cy 1, 6, .inl (fun _ => 0))), (a_32, .inl (cy 1, 48, .inl (fun _ => 0))), (a_33, .inl (cy 1, 30, .inl (fun _ => 0))), (a_34, .inl (cy 1, 30, .inl (fun _ => 0))), (a_35, .inl (cy 1, 30, .inl (fun _ => 0))), (a_36, .inl (cy 1, 30, .inl (fun _ => 0))), (a_0, .inr (0, [.int 0, .int 0, .int 0, .int 0, .int 0, .int 0, .int 0, .int 0, .ref a_68, .ref a_69, .ref a_70, .ref a_71, .ref a_72, .ref a_73, .ref a_74, .ref a_75, .ref a_76, .ref a_77])), (a_68, .inl (cy 1, 9, .inl n1)), (a_69, .inl (cy 1, 9, .inl n3)), (a_70, .inl (cy 1, 3, .inl n5)), (a_71, .inl (cy 1, 210, .inl n7)), (a_72, .inl (cy 1, 6, .inl n9)), (a_73, .inl (cy 1, 48, .inl n11)), (a_74, .inl (cy 1, 30, .inl (fun _ => 0))), (a_75, .inl (cy 1, 30, .inl (fun _ => 0))), (a_76, .inl (cy 1, 30, .inl (fun _ => 0))), (a_77, .inl (cy 1, 30, .inl (fun _ => 0)))]) hS
  have w12 := hw
  refine lv_aload_n hx hb dX0_copyFrom_130 rfl (lv_at hl 1 rfl) ?_
  refine va_get (D := G) (ci := 0) (v := .ref a_33) (C := RX0) (T := TX0) (N := 18) hx hb hts (mm_i inlX0) hown hK.1 hP 0 rfl rfl 14 (by decide) (mm_h hts mm_w78) (fun _ h9 => h9) rfl dX0_copyFrom_131 ?_
  refine lv_aload_n hx hb dX0_copyFrom_134 rfl (lv_at hl 0 rfl) ?_
  refine va_get (D := G) (ci := 0) (v := .ref a_74) (C := RX0) (T := TX0) (N := 18) hx hb hts (mm_i inlX0) hown hK.1 hP 11 rfl rfl 14 (by decide) (mm_h hts mm_w78) (fun _ h9 => h9) rfl dX0_copyFrom_135 ?_
  refine mm_finv (va_runS (As := [.ref a_33, .ref a_74]) (rest := []) ⟨hx, hb, hml, hown, hts⟩ (K50_X0_copyRow l G cy H.size a_33 a_74 ) (va_cwS 2 hts (mm_gS mm_w381 mm_w382 mm_w28 mm_w383) rfl rfl rfl hs_X0_copyRow ⟨by rw [hRf]; exact Nat.le_of_ble_eq_true rfl, by rw [hRl]; exact Nat.le_of_ble_eq_true rfl⟩) (mm_preS hK hP hD [7, 18] rfl rfl) rfl rfl hl.1 rfl (lv_room (Nat.le_of_ble_eq_true rfl)) dX0_copyFrom_138 ⟨by rw [hRc]; exact Nat.le_of_ble_eq_true rfl, by rw [hRs]; exact Nat.le_of_ble_eq_true rfl⟩) hP hD hS hA (fun u : (Nat → Int32) => [(a_1, .inr (0, [.int 0, .int 0, .int 0, .int 0, .int 0, .int 0, .int 0, .int 0, .ref a_27, .ref a_28, .ref a_29, .ref a_30, .ref a_31, .ref a_32, .ref a_33, .ref a_34, .ref a_35, .ref a_36])), (a_27, .inl (cy 1, 9, .inl (fun _ => 0))), (a_28, .inl (cy 1, 9, .inl (fun _ => 0))), (a_29, .inl (cy 1, 3, .inl (fun _ => 0))), (a_30, .inl (cy 1, 210, .inl (fun _ => 0))), (a_31, .inl (cy 1, 6, .inl (fun _ => 0))), (a_32, .inl (cy 1, 48, .inl (fun _ => 0))), (a_33, .inl (cy 1, 30, .inl (fun _ => 0))), (a_34, .inl (cy 1, 30, .inl (fun _ => 0))), (a_35, .inl (cy 1, 30, .inl (fun _ => 0))), (a_36, .inl (cy 1, 30, .inl (fun _ => 0))), (a_0, .inr (0, [.int 0, .int 0, .int 0, .int 0, .int 0, .int 0, .int 0, .int 0, .ref a_68, .ref a_69, .ref a_70, .ref a_71, .ref a_72, .ref a_73, .ref a_74, .ref a_75, .ref a_76, .ref a_77])), (a_68, .inl (cy 1, 9, .inl n1)), (a_69, .inl (cy 1, 9, .inl n3)), (a_70, .inl (cy 1, 3, .inl n5)), (a_71, .inl (cy 1, 210, .inl n7)), (a_72, .inl (cy 1, 6, .inl n9)), (a_73, .inl (cy 1, 48, .inl n11)), (a_74, .inl (cy 1, 30, .inl u)), (a_75, .inl (cy 1, 30, .inl (fun _ => 0))), (a_76, .inl (cy 1, 30, .inl (fun _ => 0))), (a_77, .inl (cy 1, 30, .inl (fun _ => 0)))]) [7, 18] [0, 1, 2, 3, 4, 5, 6, 8, 9, 10, 11, 12, 13, 14, 15, 16, 17, 19, 20, 21] (n := 22) (fun _ => rfl) (by decide +kernel) (by decide +kernel) rfl (fun _ => rfl) (wr := [(a_1, .inr (0, [.int 0, .int 0, .int 0, .int 0, .int 0, .int 0, .int 0, .int 0, .ref a_27, .ref a_28, .ref a_29, .ref a_30, .ref a_31, .ref a_32, .ref a_33, .ref a_34, .ref a_35, .ref a_36])), (a_27, .inl (cy 1, 9, .inl (fun _ => 0))), (a_28, .inl (cy 1, 9, .inl (fun _ => 0))), (a_29, .inl (cy 1, 3, .inl (fun _ => 0))), (a_30, .inl (cy 1, 210, .inl (fun _ => 0))), (a_31, .inl (cy 1, 6, .inl (fun _ => 0))), (a_32, .inl (cy 1, 48, .inl (fun _ => 0))), (a_34, .inl (cy 1, 30, .inl (fun _ => 0))), (a_35, .inl (cy 1, 30, .inl (fun _ => 0))), (a_36, .inl (cy 1, 30, .inl (fun _ => 0))), (a_0, .inr (0, [.int 0, .int 0, .int 0, .int 0, .int 0, .int 0, .int 0, .int 0, .ref a_68, .ref a_69, .ref a_70, .ref a_71, .ref a_72, .ref a_73, .ref a_74, .ref a_75, .ref a_76, .ref a_77])), (a_68, .inl (cy 1, 9, .inl n1)), (a_69, .inl (cy 1, 9, .inl n3)), (a_70, .inl (cy 1, 3, .inl n5)), (a_71, .inl (cy 1, 210, .inl n7)), (a_72, .inl (cy 1, 6, .inl n9)), (a_73, .inl (cy 1, 48, .inl n11)), (a_75, .inl (cy 1, 30, .inl (fun _ => 0))), (a_76, .inl (cy 1, 30, .inl (fun _ => 0))), (a_77, .inl (cy 1, 30, .inl (fun _ => 0)))]) rfl (fun _ => rfl) (fun _ => rfl) ?_
  clear hP hD hS
  clear H locs
  intro n13 H locs hw (hP : va_P G vwCl [(a_1, .inr (0, [.int 0, .int 0, .int 0, .int 0, .int 0, .int 0, .int 0, .int 0, .ref a_27, .ref a_28, .ref a_29, .ref a_30, .ref a_31, .ref a_32, .ref a_33, .ref a_34, .ref a_35, .ref a_36])), (a_27, .inl (cy 1, 9, .inl (fun _ => 0))), (a_28, .inl (cy 1, 9, .inl (fun _ => 0))), (a_29, .inl (cy 1, 3, .inl (fun _ => 0))), (a_30, .inl (cy 1, 210, .inl (fun _ => 0))), (a_31, .inl (cy 1, 6, .inl (fun _ => 0))), (a_32, .inl (cy 1, 48, .inl (fun _ => 0))), (a_33, .inl (cy 1, 30, .inl (fun _ => 0))), (a_34, .inl (cy 1, 30, .inl (fun _ => 0))), (a_35, .inl (cy 1, 30, .inl (fun _ => 0))), (a_36, .inl (cy 1, 30, .inl (fun _ => 0))), (a_0, .inr (0, [.int 0, .int 0, .int 0, .int 0, .int 0, .int 0, .int 0, .int 0, .ref a_68, .ref a_69, .ref a_70, .ref a_71, .ref a_72, .ref a_73, .ref a_74, .ref a_75, .ref a_76, .ref a_77])), (a_68, .inl (cy 1, 9, .inl n1)), (a_69, .inl (cy 1, 9, .inl n3)), (a_70, .inl (cy 1, 3, .inl n5)), (a_71, .inl (cy 1, 210, .inl n7)), (a_72, .inl (cy 1, 6, .inl n9)), (a_73, .inl (cy 1, 48, .inl n11)), (a_74, .inl (cy 1, 30, .inl n13)), (a_75, .inl (cy 1, 30, .inl (fun _ => 0))), (a_76, .inl (cy 1, 30, .inl (fun _ => 0))), (a_77, .inl (cy 1, 30, .inl (fun _ => 0)))] H) (hD : va_D A [(a_1, .inr (0, [.int 0, .int 0, .int 0, .int 0, .int 0, .int 0, .int 0, .int 0, .ref a_27, .ref a_28, .ref a_29, .ref a_30, .ref a_31, .ref a_32, .ref a_33, .ref a_34, .ref a_35, .ref a_36])), (a_27, .inl (cy 1, 9, .inl (fun _ => 0))), (a_28, .inl (cy 1, 9, .inl (fun _ => 0))), (a_29, .inl (cy 1, 3, .inl (fun _ => 0))), (a_30, .inl (cy 1, 210, .inl (fun _ => 0))), (a_31, .inl (cy 1, 6, .inl (fun _ => 0))), (a_32, .inl (cy 1, 48, .inl (fun _ => 0))), (a_33, .inl (cy 1, 30, .inl (fun _ => 0))), (a_34, .inl (cy 1, 30, .inl (fun _ => 0))), (a_35, .inl (cy 1, 30, .inl (fun _ => 0))), (a_36, .inl (cy 1, 30, .inl (fun _ => 0))), (a_0, .inr (0, [.int 0, .int 0, .int 0, .int 0, .int 0, .int 0, .int 0, .int 0, .ref a_68, .ref a_69, .ref a_70, .ref a_71, .ref a_72, .ref a_73, .ref a_74, .ref a_75, .ref a_76, .ref a_77])), (a_68, .inl (cy 1, 9, .inl n1)), (a_69, .inl (cy 1, 9, .inl n3)), (a_70, .inl (cy 1, 3, .inl n5)), (a_71, .inl (cy 1, 210, .inl n7)), (a_72, .inl (cy 1, 6, .inl n9)), (a_73, .inl (cy 1, 48, .inl n11)), (a_74, .inl (cy 1, 30, .inl n13)), (a_75, .inl (cy 1, 30, .inl (fun _ => 0))), (a_76, .inl (cy 1, 30, .inl (fun _ => 0))), (a_77, .inl (cy 1, 30, .inl (fun _ => 0)))]) hS
  have w14 := hw
  refine lv_aload_n hx hb dX0_copyFrom_141 rfl (lv_at hl 1 rfl) ?_
  refine va_get (D := G) (ci := 0) (v := .ref a_34) (C := RX0) (T := TX0) (N := 18) hx hb hts (mm_i inlX0) hown hK.1 hP 0 rfl rfl 15 (by decide) (mm_h hts mm_w79) (fun _ h9 => h9) rfl dX0_copyFrom_142 ?_
  refine lv_aload_n hx hb dX0_copyFrom_145 rfl (lv_at hl 0 rfl) ?_
  refine va_get (D := G) (ci := 0) (v := .ref a_75) (C := RX0) (T := TX0) (N := 18) hx hb hts (mm_i inlX0) hown hK.1 hP 11 rfl rfl 15 (by decide) (mm_h hts mm_w79) (fun _ h9 => h9) rfl dX0_copyFrom_146 ?_
  refine mm_finv (va_runS (As := [.ref a_34, .ref a_75]) (rest := []) ⟨hx, hb, hml, hown, hts⟩ (K50_X0_copyRow l G cy H.size a_34 a_75 ) (va_cwS 2 hts (mm_gS mm_w381 mm_w382 mm_w28 mm_w383) rfl rfl rfl hs_X0_copyRow ⟨by rw [hRf]; exact Nat.le_of_ble_eq_true rfl, by rw [hRl]; exact Nat.le_of_ble_eq_true rfl⟩) (mm_preS hK hP hD [8, 19] rfl rfl) rfl rfl hl.1 rfl (lv_room (Nat.le_of_ble_eq_true rfl)) dX0_copyFrom_149 ⟨by rw [hRc]; exact Nat.le_of_ble_eq_true rfl, by rw [hRs]; exact Nat.le_of_ble_eq_true rfl⟩) hP hD hS hA (fun u : (Nat → Int32) => [(a_1, .inr (0, [.int 0, .int 0, .int 0, .int 0, .int 0, .int 0, .int 0, .int 0, .ref a_27, .ref a_28, .ref a_29, .ref a_30, .ref a_31, .ref a_32, .ref a_33, .ref a_34, .ref a_35, .ref a_36])), (a_27, .inl (cy 1, 9, .inl (fun _ => 0))), (a_28, .inl (cy 1, 9, .inl (fun _ => 0))), (a_29, .inl (cy 1, 3, .inl (fun _ => 0))), (a_30, .inl (cy 1, 210, .inl (fun _ => 0))), (a_31, .inl (cy 1, 6, .inl (fun _ => 0))), (a_32, .inl (cy 1, 48, .inl (fun _ => 0))), (a_33, .inl (cy 1, 30, .inl (fun _ => 0))), (a_34, .inl (cy 1, 30, .inl (fun _ => 0))), (a_35, .inl (cy 1, 30, .inl (fun _ => 0))), (a_36, .inl (cy 1, 30, .inl (fun _ => 0))), (a_0, .inr (0, [.int 0, .int 0, .int 0, .int 0, .int 0, .int 0, .int 0, .int 0, .ref a_68, .ref a_69, .ref a_70, .ref a_71, .ref a_72, .ref a_73, .ref a_74, .ref a_75, .ref a_76, .ref a_77])), (a_68, .inl (cy 1, 9, .inl n1)), (a_69, .inl (cy 1, 9, .inl n3)), (a_70, .inl (cy 1, 3, .inl n5)), (a_71, .inl (cy 1, 210, .inl n7)), (a_72, .inl (cy 1, 6, .inl n9)), (a_73, .inl (cy 1, 48, .inl n11)), (a_74, .inl (cy 1, 30, .inl n13)), (a_75, .inl (cy 1, 30, .inl u)), (a_76, .inl (cy 1, 30, .inl (fun _ => 0))), (a_77, .inl (cy 1, 30, .inl (fun _ => 0)))]) [8, 19] [0, 1, 2, 3, 4, 5, 6, 7, 9, 10, 11, 12, 13, 14, 15, 16, 17, 18, 20, 21] (n := 22) (fun _ => rfl) (by decide +kernel) (by decide +kernel) rfl (fun _ => rfl) (wr := [(a_1, .inr (0, [.int 0, .int 0, .int 0, .int 0, .int 0, .int 0, .int 0, .int 0, .ref a_27, .ref a_28, .ref a_29, .ref a_30, .ref a_31, .ref a_32, .ref a_33, .ref a_34, .ref a_35, .ref a_36])), (a_27, .inl (cy 1, 9, .inl (fun _ => 0))), (a_28, .inl (cy 1, 9, .inl (fun _ => 0))), (a_29, .inl (cy 1, 3, .inl (fun _ => 0))), (a_30, .inl (cy 1, 210, .inl (fun _ => 0))), (a_31, .inl (cy 1, 6, .inl (fun _ => 0))), (a_32, .inl (cy 1, 48, .inl (fun _ => 0))), (a_33, .inl (cy 1, 30, .inl (fun _ => 0))), (a_35, .inl (cy 1, 30, .inl (fun _ => 0))), (a_36, .inl (cy 1, 30, .inl (fun _ => 0))), (a_0, .inr (0, [.int 0, .int 0, .int 0, .int 0, .int 0, .int 0, .int 0, .int 0, .ref a_68, .ref a_69, .ref a_70, .ref a_71, .ref a_72, .ref a_73, .ref a_74, .ref a_75, .ref a_76, .ref a_77])), (a_68, .inl (cy 1, 9, .inl n1)), (a_69, .inl (cy 1, 9, .inl n3)), (a_70, .inl (cy 1, 3, .inl n5)), (a_71, .inl (cy 1, 210, .inl n7)), (a_72, .inl (cy 1, 6, .inl n9)), (a_73, .inl (cy 1, 48, .inl n11)), (a_74, .inl (cy 1, 30, .inl n13)), (a_76, .inl (cy 1, 30, .inl (fun _ => 0))), (a_77, .inl (cy 1, 30, .inl (fun _ => 0)))]) rfl (fun _ => rfl) (fun _ => rfl) ?_
  clear hP hD hS
  clear H locs
  intro n15 H locs hw (hP : va_P G vwCl [(a_1, .inr (0, [.int 0, .int 0, .int 0, .int 0, .int 0, .int 0, .int 0, .int 0, .ref a_27, .ref a_28, .ref a_29, .ref a_30, .ref a_31, .ref a_32, .ref a_33, .ref a_34, .ref a_35, .ref a_36])), (a_27, .inl (cy 1, 9, .inl (fun _ => 0))), (a_28, .inl (cy 1, 9, .inl (fun _ => 0))), (a_29, .inl (cy 1, 3, .inl (fun _ => 0))), (a_30, .inl (cy 1, 210, .inl (fun _ => 0))), (a_31, .inl (cy 1, 6, .inl (fun _ => 0))), (a_32, .inl (cy 1, 48, .inl (fun _ => 0))), (a_33, .inl (cy 1, 30, .inl (fun _ => 0))), (a_34, .inl (cy 1, 30, .inl (fun _ => 0))), (a_35, .inl (cy 1, 30, .inl (fun _ => 0))), (a_36, .inl (cy 1, 30, .inl (fun _ => 0))), (a_0, .inr (0, [.int 0, .int 0, .int 0, .int 0, .int 0, .int 0, .int 0, .int 0, .ref a_68, .ref a_69, .ref a_70, .ref a_71, .ref a_72, .ref a_73, .ref a_74, .ref a_75, .ref a_76, .ref a_77])), (a_68, .inl (cy 1, 9, .inl n1)), (a_69, .inl (cy 1, 9, .inl n3)), (a_70, .inl (cy 1, 3, .inl n5)), (a_71, .inl (cy 1, 210, .inl n7)), (a_72, .inl (cy 1, 6, .inl n9)), (a_73, .inl (cy 1, 48, .inl n11)), (a_74, .inl (cy 1, 30, .inl n13)), (a_75, .inl (cy 1, 30, .inl n15)), (a_76, .inl (cy 1, 30, .inl (fun _ => 0))), (a_77, .inl (cy 1, 30, .inl (fun _ => 0)))] H) (hD : va_D A [(a_1, .inr (0, [.int 0, .int 0, .int 0, .int 0, .int 0, .int 0, .int 0, .int 0, .ref a_27, .ref a_28, .ref a_29, .ref a_30, .ref a_31, .ref a_32, .ref a_33, .ref a_34, .ref a_35, .ref a_36])), (a_27, .inl (cy 1, 9, .inl (fun _ => 0))), (a_28, .inl (cy 1, 9, .inl (fun _ => 0))), (a_29, .inl (cy 1, 3, .inl (fun _ => 0))), (a_30, .inl (cy 1, 210, .inl (fun _ => 0))), (a_31, .inl (cy 1, 6, .inl (fun _ => 0))), (a_32, .inl (cy 1, 48, .inl (fun _ => 0))), (a_33, .inl (cy 1, 30, .inl (fun _ => 0))), (a_34, .inl (cy 1, 30, .inl (fun _ => 0))), (a_35, .inl (cy 1, 30, .inl (fun _ => 0))), (a_36, .inl (cy 1, 30, .inl (fun _ => 0))), (a_0, .inr (0, [.int 0, .int 0, .int 0, .int 0, .int 0, .int 0, .int 0, .int 0, .ref a_68, .ref a_69, .ref a_70, .ref a_71, .ref a_72, .ref a_73, .ref a_74, .ref a_75, .ref a_76, .ref a_77])), (a_68, .inl (cy 1, 9, .inl n1)), (a_69, .inl (cy 1, 9, .inl n3)), (a_70, .inl (cy 1, 3, .inl n5)), (a_71, .inl (cy 1, 210, .inl n7)), (a_72, .inl (cy 1, 6, .inl n9)), (a_73, .inl (cy 1, 48, .inl n11)), (a_74, .inl (cy 1, 30, .inl n13)), (a_75, .inl (cy 1, 30, .inl n15)), (a_76, .inl (cy 1, 30, .inl (fun _ => 0))), (a_77, .inl (cy 1, 30, .inl (fun _ => 0)))]) hS
  have w16 := hw
  refine lv_aload_n hx hb dX0_copyFrom_152 rfl (lv_at hl 1 rfl) ?_
  refine va_get (D := G) (ci := 0) (v := .ref a_35) (C := RX0) (T := TX0) (N := 18) hx hb hts (mm_i inlX0) hown hK.1 hP 0 rfl rfl 16 (by decide) (mm_h hts mm_w80) (fun _ h9 => h9) rfl dX0_copyFrom_153 ?_
  refine lv_aload_n hx hb dX0_copyFrom_156 rfl (lv_at hl 0 rfl) ?_
  refine va_get (D := G) (ci := 0) (v := .ref a_76) (C := RX0) (T := TX0) (N := 18) hx hb hts (mm_i inlX0) hown hK.1 hP 11 rfl rfl 16 (by decide) (mm_h hts mm_w80) (fun _ h9 => h9) rfl dX0_copyFrom_157 ?_
  refine mm_finv (va_runS (As := [.ref a_35, .ref a_76]) (rest := []) ⟨hx, hb, hml, hown, hts⟩ (K50_X0_copyRow l G cy H.size a_35 a_76 ) (va_cwS 2 hts (mm_gS mm_w381 mm_w382 mm_w28 mm_w383) rfl rfl rfl hs_X0_copyRow ⟨by rw [hRf]; exact Nat.le_of_ble_eq_true rfl, by rw [hRl]; exact Nat.le_of_ble_eq_true rfl⟩) (mm_preS hK hP hD [9, 20] rfl rfl) rfl rfl hl.1 rfl (lv_room (Nat.le_of_ble_eq_true rfl)) dX0_copyFrom_160 ⟨by rw [hRc]; exact Nat.le_of_ble_eq_true rfl, by rw [hRs]; exact Nat.le_of_ble_eq_true rfl⟩) hP hD hS hA (fun u : (Nat → Int32) => [(a_1, .inr (0, [.int 0, .int 0, .int 0, .int 0, .int 0, .int 0, .int 0, .int 0, .ref a_27, .ref a_28, .ref a_29, .ref a_30, .ref a_31, .ref a_32, .ref a_33, .ref a_34, .ref a_35, .ref a_36])), (a_27, .inl (cy 1, 9, .inl (fun _ => 0))), (a_28, .inl (cy 1, 9, .inl (fun _ => 0))), (a_29, .inl (cy 1, 3, .inl (fun _ => 0))), (a_30, .inl (cy 1, 210, .inl (fun _ => 0))), (a_31, .inl (cy 1, 6, .inl (fun _ => 0))), (a_32, .inl (cy 1, 48, .inl (fun _ => 0))), (a_33, .inl (cy 1, 30, .inl (fun _ => 0))), (a_34, .inl (cy 1, 30, .inl (fun _ => 0))), (a_35, .inl (cy 1, 30, .inl (fun _ => 0))), (a_36, .inl (cy 1, 30, .inl (fun _ => 0))), (a_0, .inr (0, [.int 0, .int 0, .int 0, .int 0, .int 0, .int 0, .int 0, .int 0, .ref a_68, .ref a_69, .ref a_70, .ref a_71, .ref a_72, .ref a_73, .ref a_74, .ref a_75, .ref a_76, .ref a_77])), (a_68, .inl (cy 1, 9, .inl n1)), (a_69, .inl (cy 1, 9, .inl n3)), (a_70, .inl (cy 1, 3, .inl n5)), (a_71, .inl (cy 1, 210, .inl n7)), (a_72, .inl (cy 1, 6, .inl n9)), (a_73, .inl (cy 1, 48, .inl n11)), (a_74, .inl (cy 1, 30, .inl n13)), (a_75, .inl (cy 1, 30, .inl n15)), (a_76, .inl (cy 1, 30, .inl u)), (a_77, .inl (cy 1, 30, .inl (fun _ => 0)))]) [9, 20] [0, 1, 2, 3, 4, 5, 6, 7, 8, 10, 11, 12, 13, 14, 15, 16, 17, 18, 19, 21] (n := 22) (fun _ => rfl) (by decide +kernel) (by decide +kernel) rfl (fun _ => rfl) (wr := [(a_1, .inr (0, [.int 0, .int 0, .int 0, .int 0, .int 0, .int 0, .int 0, .int 0, .ref a_27, .ref a_28, .ref a_29, .ref a_30, .ref a_31, .ref a_32, .ref a_33, .ref a_34, .ref a_35, .ref a_36])), (a_27, .inl (cy 1, 9, .inl (fun _ => 0))), (a_28, .inl (cy 1, 9, .inl (fun _ => 0))), (a_29, .inl (cy 1, 3, .inl (fun _ => 0))), (a_30, .inl (cy 1, 210, .inl (fun _ => 0))), (a_31, .inl (cy 1, 6, .inl (fun _ => 0))), (a_32, .inl (cy 1, 48, .inl (fun _ => 0))), (a_33, .inl (cy 1, 30, .inl (fun _ => 0))), (a_34, .inl (cy 1, 30, .inl (fun _ => 0))), (a_36, .inl (cy 1, 30, .inl (fun _ => 0))), (a_0, .inr (0, [.int 0, .int 0, .int 0, .int 0, .int 0, .int 0, .int 0, .int 0, .ref a_68, .ref a_69, .ref a_70, .ref a_71, .ref a_72, .ref a_73, .ref a_74, .ref a_75, .ref a_76, .ref a_77])), (a_68, .inl (cy 1, 9, .inl n1)), (a_69, .inl (cy 1, 9, .inl n3)), (a_70, .inl (cy 1, 3, .inl n5)), (a_71, .inl (cy 1, 210, .inl n7)), (a_72, .inl (cy 1, 6, .inl n9)), (a_73, .inl (cy 1, 48, .inl n11)), (a_74, .inl (cy 1, 30, .inl n13)), (a_75, .inl (cy 1, 30, .inl n15)), (a_77, .inl (cy 1, 30, .inl (fun _ => 0)))]) rfl (fun _ => rfl) (fun _ => rfl) ?_
  clear hP hD hS
  clear H locs
  intro n17 H locs hw (hP : va_P G vwCl [(a_1, .inr (0, [.int 0, .int 0, .int 0, .int 0, .int 0, .int 0, .int 0, .int 0, .ref a_27, .ref a_28, .ref a_29, .ref a_30, .ref a_31, .ref a_32, .ref a_33, .ref a_34, .ref a_35, .ref a_36])), (a_27, .inl (cy 1, 9, .inl (fun _ => 0))), (a_28, .inl (cy 1, 9, .inl (fun _ => 0))), (a_29, .inl (cy 1, 3, .inl (fun _ => 0))), (a_30, .inl (cy 1, 210, .inl (fun _ => 0))), (a_31, .inl (cy 1, 6, .inl (fun _ => 0))), (a_32, .inl (cy 1, 48, .inl (fun _ => 0))), (a_33, .inl (cy 1, 30, .inl (fun _ => 0))), (a_34, .inl (cy 1, 30, .inl (fun _ => 0))), (a_35, .inl (cy 1, 30, .inl (fun _ => 0))), (a_36, .inl (cy 1, 30, .inl (fun _ => 0))), (a_0, .inr (0, [.int 0, .int 0, .int 0, .int 0, .int 0, .int 0, .int 0, .int 0, .ref a_68, .ref a_69, .ref a_70, .ref a_71, .ref a_72, .ref a_73, .ref a_74, .ref a_75, .ref a_76, .ref a_77])), (a_68, .inl (cy 1, 9, .inl n1)), (a_69, .inl (cy 1, 9, .inl n3)), (a_70, .inl (cy 1, 3, .inl n5)), (a_71, .inl (cy 1, 210, .inl n7)), (a_72, .inl (cy 1, 6, .inl n9)), (a_73, .inl (cy 1, 48, .inl n11)), (a_74, .inl (cy 1, 30, .inl n13)), (a_75, .inl (cy 1, 30, .inl n15)), (a_76, .inl (cy 1, 30, .inl n17)), (a_77, .inl (cy 1, 30, .inl (fun _ => 0)))] H) (hD : va_D A [(a_1, .inr (0, [.int 0, .int 0, .int 0, .int 0, .int 0, .int 0, .int 0, .int 0, .ref a_27, .ref a_28, .ref a_29, .ref a_30, .ref a_31, .ref a_32, .ref a_33, .ref a_34, .ref a_35, .ref a_36])), (a_27, .inl (cy 1, 9, .inl (fun _ => 0))), (a_28, .inl (cy 1, 9, .inl (fun _ => 0))), (a_29, .inl (cy 1, 3, .inl (fun _ => 0))), (a_30, .inl (cy 1, 210, .inl (fun _ => 0))), (a_31, .inl (cy 1, 6, .inl (fun _ => 0))), (a_32, .inl (cy 1, 48, .inl (fun _ => 0))), (a_33, .inl (cy 1, 30, .inl (fun _ => 0))), (a_34, .inl (cy 1, 30, .inl (fun _ => 0))), (a_35, .inl (cy 1, 30, .inl (fun _ => 0))), (a_36, .inl (cy 1, 30, .inl (fun _ => 0))), (a_0, .inr (0, [.int 0, .int 0, .int 0, .int 0, .int 0, .int 0, .int 0, .int 0, .ref a_68, .ref a_69, .ref a_70, .ref a_71, .ref a_72, .ref a_73, .ref a_74, .ref a_75, .ref a_76, .ref a_77])), (a_68, .inl (cy 1, 9, .inl n1)), (a_69, .inl (cy 1, 9, .inl n3)), (a_70, .inl (cy 1, 3, .inl n5)), (a_71, .inl (cy 1, 210, .inl n7)), (a_72, .inl (cy 1, 6, .inl n9)), (a_73, .inl (cy 1, 48, .inl n11)), (a_74, .inl (cy 1, 30, .inl n13)), (a_75, .inl (cy 1, 30, .inl n15)), (a_76, .inl (cy 1, 30, .inl n17)), (a_77, .inl (cy 1, 30, .inl (fun _ => 0)))]) hS
  have w18 := hw
  refine lv_aload_n hx hb dX0_copyFrom_163 rfl (lv_at hl 1 rfl) ?_
  refine va_get (D := G) (ci := 0) (v := .ref a_36) (C := RX0) (T := TX0) (N := 18) hx hb hts (mm_i inlX0) hown hK.1 hP 0 rfl rfl 17 (by decide) (mm_h hts mm_w81) (fun _ h9 => h9) rfl dX0_copyFrom_164 ?_
  refine lv_aload_n hx hb dX0_copyFrom_167 rfl (lv_at hl 0 rfl) ?_
  refine va_get (D := G) (ci := 0) (v := .ref a_77) (C := RX0) (T := TX0) (N := 18) hx hb hts (mm_i inlX0) hown hK.1 hP 11 rfl rfl 17 (by decide) (mm_h hts mm_w81) (fun _ h9 => h9) rfl dX0_copyFrom_168 ?_
  refine mm_finv (va_runS (As := [.ref a_36, .ref a_77]) (rest := []) ⟨hx, hb, hml, hown, hts⟩ (K50_X0_copyRow l G cy H.size a_36 a_77 ) (va_cwS 2 hts (mm_gS mm_w381 mm_w382 mm_w28 mm_w383) rfl rfl rfl hs_X0_copyRow ⟨by rw [hRf]; exact Nat.le_of_ble_eq_true rfl, by rw [hRl]; exact Nat.le_of_ble_eq_true rfl⟩) (mm_preS hK hP hD [10, 21] rfl rfl) rfl rfl hl.1 rfl (lv_room (Nat.le_of_ble_eq_true rfl)) dX0_copyFrom_171 ⟨by rw [hRc]; exact Nat.le_of_ble_eq_true rfl, by rw [hRs]; exact Nat.le_of_ble_eq_true rfl⟩) hP hD hS hA (fun u : (Nat → Int32) => [(a_1, .inr (0, [.int 0, .int 0, .int 0, .int 0, .int 0, .int 0, .int 0, .int 0, .ref a_27, .ref a_28, .ref a_29, .ref a_30, .ref a_31, .ref a_32, .ref a_33, .ref a_34, .ref a_35, .ref a_36])), (a_27, .inl (cy 1, 9, .inl (fun _ => 0))), (a_28, .inl (cy 1, 9, .inl (fun _ => 0))), (a_29, .inl (cy 1, 3, .inl (fun _ => 0))), (a_30, .inl (cy 1, 210, .inl (fun _ => 0))), (a_31, .inl (cy 1, 6, .inl (fun _ => 0))), (a_32, .inl (cy 1, 48, .inl (fun _ => 0))), (a_33, .inl (cy 1, 30, .inl (fun _ => 0))), (a_34, .inl (cy 1, 30, .inl (fun _ => 0))), (a_35, .inl (cy 1, 30, .inl (fun _ => 0))), (a_36, .inl (cy 1, 30, .inl (fun _ => 0))), (a_0, .inr (0, [.int 0, .int 0, .int 0, .int 0, .int 0, .int 0, .int 0, .int 0, .ref a_68, .ref a_69, .ref a_70, .ref a_71, .ref a_72, .ref a_73, .ref a_74, .ref a_75, .ref a_76, .ref a_77])), (a_68, .inl (cy 1, 9, .inl n1)), (a_69, .inl (cy 1, 9, .inl n3)), (a_70, .inl (cy 1, 3, .inl n5)), (a_71, .inl (cy 1, 210, .inl n7)), (a_72, .inl (cy 1, 6, .inl n9)), (a_73, .inl (cy 1, 48, .inl n11)), (a_74, .inl (cy 1, 30, .inl n13)), (a_75, .inl (cy 1, 30, .inl n15)), (a_76, .inl (cy 1, 30, .inl n17)), (a_77, .inl (cy 1, 30, .inl u))]) [10, 21] [0, 1, 2, 3, 4, 5, 6, 7, 8, 9, 11, 12, 13, 14, 15, 16, 17, 18, 19, 20] (n := 22) (fun _ => rfl) (by decide +kernel) (by decide +kernel) rfl (fun _ => rfl) (wr := [(a_1, .inr (0, [.int 0, .int 0, .int 0, .int 0, .int 0, .int 0, .int 0, .int 0, .ref a_27, .ref a_28, .ref a_29, .ref a_30, .ref a_31, .ref a_32, .ref a_33, .ref a_34, .ref a_35, .ref a_36])), (a_27, .inl (cy 1, 9, .inl (fun _ => 0))), (a_28, .inl (cy 1, 9, .inl (fun _ => 0))), (a_29, .inl (cy 1, 3, .inl (fun _ => 0))), (a_30, .inl (cy 1, 210, .inl (fun _ => 0))), (a_31, .inl (cy 1, 6, .inl (fun _ => 0))), (a_32, .inl (cy 1, 48, .inl (fun _ => 0))), (a_33, .inl (cy 1, 30, .inl (fun _ => 0))), (a_34, .inl (cy 1, 30, .inl (fun _ => 0))), (a_35, .inl (cy 1, 30, .inl (fun _ => 0))), (a_0, .inr (0, [.int 0, .int 0, .int 0, .int 0, .int 0, .int 0, .int 0, .int 0, .ref a_68, .ref a_69, .ref a_70, .ref a_71, .ref a_72, .ref a_73, .ref a_74, .ref a_75, .ref a_76, .ref a_77])), (a_68, .inl (cy 1, 9, .inl n1)), (a_69, .inl (cy 1, 9, .inl n3)), (a_70, .inl (cy 1, 3, .inl n5)), (a_71, .inl (cy 1, 210, .inl n7)), (a_72, .inl (cy 1, 6, .inl n9)), (a_73, .inl (cy 1, 48, .inl n11)), (a_74, .inl (cy 1, 30, .inl n13)), (a_75, .inl (cy 1, 30, .inl n15)), (a_76, .inl (cy 1, 30, .inl n17))]) rfl (fun _ => rfl) (fun _ => rfl) ?_
  clear hP hD hS
  clear H locs
  intro n19 H locs hw (hP : va_P G vwCl [(a_1, .inr (0, [.int 0, .int 0, .int 0, .int 0, .int 0, .int 0, .int 0, .int 0, .ref a_27, .ref a_28, .ref a_29, .ref a_30, .ref a_31, .ref a_32, .ref a_33, .ref a_34, .ref a_35, .ref a_36])), (a_27, .inl (cy 1, 9, .inl (fun _ => 0))), (a_28, .inl (cy 1, 9, .inl (fun _ => 0))), (a_29, .inl (cy 1, 3, .inl (fun _ => 0))), (a_30, .inl (cy 1, 210, .inl (fun _ => 0))), (a_31, .inl (cy 1, 6, .inl (fun _ => 0))), (a_32, .inl (cy 1, 48, .inl (fun _ => 0))), (a_33, .inl (cy 1, 30, .inl (fun _ => 0))), (a_34, .inl (cy 1, 30, .inl (fun _ => 0))), (a_35, .inl (cy 1, 30, .inl (fun _ => 0))), (a_36, .inl (cy 1, 30, .inl (fun _ => 0))), (a_0, .inr (0, [.int 0, .int 0, .int 0, .int 0, .int 0, .int 0, .int 0, .int 0, .ref a_68, .ref a_69, .ref a_70, .ref a_71, .ref a_72, .ref a_73, .ref a_74, .ref a_75, .ref a_76, .ref a_77])), (a_68, .inl (cy 1, 9, .inl n1)), (a_69, .inl (cy 1, 9, .inl n3)), (a_70, .inl (cy 1, 3, .inl n5)), (a_71, .inl (cy 1, 210, .inl n7)), (a_72, .inl (cy 1, 6, .inl n9)), (a_73, .inl (cy 1, 48, .inl n11)), (a_74, .inl (cy 1, 30, .inl n13)), (a_75, .inl (cy 1, 30, .inl n15)), (a_76, .inl (cy 1, 30, .inl n17)), (a_77, .inl (cy 1, 30, .inl n19))] H) (hD : va_D A [(a_1, .inr (0, [.int 0, .int 0, .int 0, .int 0, .int 0, .int 0, .int 0, .int 0, .ref a_27, .ref a_28, .ref a_29, .ref a_30, .ref a_31, .ref a_32, .ref a_33, .ref a_34, .ref a_35, .ref a_36])), (a_27, .inl (cy 1, 9, .inl (fun _ => 0))), (a_28, .inl (cy 1, 9, .inl (fun _ => 0))), (a_29, .inl (cy 1, 3, .inl (fun _ => 0))), (a_30, .inl (cy 1, 210, .inl (fun _ => 0))), (a_31, .inl (cy 1, 6, .inl (fun _ => 0))), (a_32, .inl (cy 1, 48, .inl (fun _ => 0))), (a_33, .inl (cy 1, 30, .inl (fun _ => 0))), (a_34, .inl (cy 1, 30, .inl (fun _ => 0))), (a_35, .inl (cy 1, 30, .inl (fun _ => 0))), (a_36, .inl (cy 1, 30, .inl (fun _ => 0))), (a_0, .inr (0, [.int 0, .int 0, .int 0, .int 0, .int 0, .int 0, .int 0, .int 0, .ref a_68, .ref a_69, .ref a_70, .ref a_71, .ref a_72, .ref a_73, .ref a_74, .ref a_75, .ref a_76, .ref a_77])), (a_68, .inl (cy 1, 9, .inl n1)), (a_69, .inl (cy 1, 9, .inl n3)), (a_70, .inl (cy 1, 3, .inl n5)), (a_71, .inl (cy 1, 210, .inl n7)), (a_72, .inl (cy 1, 6, .inl n9)), (a_73, .inl (cy 1, 48, .inl n11)), (a_74, .inl (cy 1, 30, .inl n13)), (a_75, .inl (cy 1, 30, .inl n15)), (a_76, .inl (cy 1, 30, .inl n17)), (a_77, .inl (cy 1, 30, .inl n19))]) hS
  have w20 := hw
  subst hAe
  rw [hQ]
  exact W.vret hx hb hr (fun t ht hW => ⟨⟨(n1, n3, n5, n7, n9, n11, n13, n15, n17, n19), rfl, ⟨w2, w4, w6, w8, w10, w12, w14, w16, w18, w20⟩, by rw [ht]; exact hP, hK.warm hW, hD⟩, hS.F ht⟩) hS.2.2 dX0_copyFrom_174

