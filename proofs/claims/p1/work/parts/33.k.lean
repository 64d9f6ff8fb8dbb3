theorem dX11_again_0 : decode cX11_again 0 = .ok (.aload_n 0, 1) := by decide +kernel
theorem dX11_again_1 : decode cX11_again 1 = .ok (.iload_n 1, 1) := by decide +kernel
theorem dX11_again_2 : decode cX11_again 2 = .ok (.iload_n 2, 1) := by decide +kernel
theorem dX11_again_3 : decode cX11_again 3 = .ok (.iload_n 3, 1) := by decide +kernel
theorem dX11_again_4 : decode cX11_again 4 = .ok (.invokevirtual 191, 3) := by decide +kernel
theorem dX11_again_7 : decode cX11_again 7 = .ok (.ifCond .ne 6, 3) := by decide +kernel
theorem dX11_again_10 : decode cX11_again 10 = .ok (.bipush (-2), 2) := by decide +kernel
theorem dX11_again_12 : decode cX11_again 12 = .ok (.ireturn, 1) := by decide +kernel
theorem dX11_agree_0 : decode cX11_agree 0 = .ok (.aload_n 0, 1) := by decide +kernel
theorem dX11_agree_1 : decode cX11_agree 1 = .ok (.iload_n 1, 1) := by decide +kernel
theorem dX11_agree_2 : decode cX11_agree 2 = .ok (.iload_n 2, 1) := by decide +kernel
theorem dX11_agree_3 : decode cX11_agree 3 = .ok (.invokevirtual 216, 3) := by decide +kernel
theorem dX11_agree_6 : decode cX11_agree 6 = .ok (.ifCond .eq 11, 3) := by decide +kernel
theorem dX11_agree_17 : decode cX11_agree 17 = .ok (.bipush (-2), 2) := by decide +kernel
theorem dX11_agree_19 : decode cX11_agree 19 = .ok (.ireturn, 1) := by decide +kernel
theorem dX11_alike_0 : decode cX11_alike 0 = .ok (.aload_n 0, 1) := by decide +kernel
theorem dX11_alike_1 : decode cX11_alike 1 = .ok (.iload_n 1, 1) := by decide +kernel
theorem dX11_alike_2 : decode cX11_alike 2 = .ok (.invokevirtual 145, 3) := by decide +kernel
theorem dX11_alike_5 : decode cX11_alike 5 = .ok (.ifCond .eq 23, 3) := by decide +kernel
theorem dX11_alike_28 : decode cX11_alike 28 = .ok (.bipush (-2), 2) := by decide +kernel
theorem dX11_alike_30 : decode cX11_alike 30 = .ok (.ireturn, 1) := by decide +kernel
theorem dX11_all_0 : decode cX11_all 0 = .ok (.aload_n 0, 1) := by decide +kernel
theorem dX11_all_1 : decode cX11_all 1 = .ok (.iload_n 1, 1) := by decide +kernel
theorem dX11_all_2 : decode cX11_all 2 = .ok (.invokevirtual 145, 3) := by decide +kernel
theorem dX11_all_5 : decode cX11_all 5 = .ok (.ifCond .eq 10, 3) := by decide +kernel
theorem dX11_all_15 : decode cX11_all 15 = .ok (.bipush (-2), 2) := by decide +kernel
theorem dX11_all_17 : decode cX11_all 17 = .ok (.ireturn, 1) := by decide +kernel
theorem dX11_ask_0 : decode cX11_ask 0 = .ok (.aload_n 0, 1) := by decide +kernel
theorem dX11_ask_1 : decode cX11_ask 1 = .ok (.iload_n 1, 1) := by decide +kernel
theorem dX11_ask_2 : decode cX11_ask 2 = .ok (.iload_n 2, 1) := by decide +kernel
theorem dX11_ask_3 : decode cX11_ask 3 = .ok (.iconst 0, 1) := by decide +kernel
theorem dX11_ask_4 : decode cX11_ask 4 = .ok (.invokevirtual 285, 3) := by decide +kernel
theorem dX11_ask_7 : decode cX11_ask 7 = .ok (.istore_n 3, 1) := by decide +kernel
theorem dX11_ask_8 : decode cX11_ask 8 = .ok (.iload_n 3, 1) := by decide +kernel
theorem dX11_ask_9 : decode cX11_ask 9 = .ok (.ifCond .eq 5, 3) := by decide +kernel
theorem dX11_ask_12 : decode cX11_ask 12 = .ok (.iload_n 3, 1) := by decide +kernel
theorem dX11_ask_13 : decode cX11_ask 13 = .ok (.ireturn, 1) := by decide +kernel
theorem dX11_average_0 : decode cX11_average 0 = .ok (.aload_n 0, 1) := by decide +kernel
theorem dX11_average_1 : decode cX11_average 1 = .ok (.iload_n 1, 1) := by decide +kernel
theorem dX11_average_2 : decode cX11_average 2 = .ok (.iload_n 2, 1) := by decide +kernel
theorem dX11_average_3 : decode cX11_average 3 = .ok (.invokevirtual 216, 3) := by decide +kernel
theorem dX11_average_6 : decode cX11_average 6 = .ok (.ifCond .eq 10, 3) := by decide +kernel
theorem dX11_average_16 : decode cX11_average 16 = .ok (.bipush (-2), 2) := by decide +kernel
theorem dX11_average_18 : decode cX11_average 18 = .ok (.ireturn, 1) := by decide +kernel
theorem dX11_best_0 : decode cX11_best 0 = .ok (.aload_n 0, 1) := by decide +kernel
theorem dX11_best_1 : decode cX11_best 1 = .ok (.iload_n 1, 1) := by decide +kernel
theorem dX11_best_2 : decode cX11_best 2 = .ok (.iload_n 2, 1) := by decide +kernel
theorem dX11_best_3 : decode cX11_best 3 = .ok (.iload 4, 2) := by decide +kernel
theorem dX11_best_5 : decode cX11_best 5 = .ok (.invokevirtual 191, 3) := by decide +kernel
theorem dX11_best_8 : decode cX11_best 8 = .ok (.ifCond .eq 15, 3) := by decide +kernel
theorem dX11_best_23 : decode cX11_best 23 = .ok (.bipush (-2), 2) := by decide +kernel
theorem dX11_best_25 : decode cX11_best 25 = .ok (.ireturn, 1) := by decide +kernel
theorem dX11_better_0 : decode cX11_better 0 = .ok (.aload_n 0, 1) := by decide +kernel
theorem dX11_better_1 : decode cX11_better 1 = .ok (.iload_n 1, 1) := by decide +kernel
theorem dX11_better_2 : decode cX11_better 2 = .ok (.iload_n 2, 1) := by decide +kernel
theorem dX11_better_3 : decode cX11_better 3 = .ok (.iload_n 3, 1) := by decide +kernel
theorem dX11_better_4 : decode cX11_better 4 = .ok (.invokevirtual 191, 3) := by decide +kernel
theorem dX11_better_7 : decode cX11_better 7 = .ok (.ifCond .ne 6, 3) := by decide +kernel
theorem dX11_better_10 : decode cX11_better 10 = .ok (.bipush (-2), 2) := by decide +kernel
theorem dX11_better_12 : decode cX11_better 12 = .ok (.ireturn, 1) := by decide +kernel
theorem dX11_carried_0 : decode cX11_carried 0 = .ok (.aload_n 0, 1) := by decide +kernel
theorem dX11_carried_1 : decode cX11_carried 1 = .ok (.iload_n 1, 1) := by decide +kernel
theorem dX11_carried_2 : decode cX11_carried 2 = .ok (.iload_n 2, 1) := by decide +kernel
theorem dX11_carried_3 : decode cX11_carried 3 = .ok (.iload_n 3, 1) := by decide +kernel
theorem dX11_carried_4 : decode cX11_carried 4 = .ok (.invokevirtual 191, 3) := by decide +kernel
theorem dX11_carried_7 : decode cX11_carried 7 = .ok (.ifCond .eq 20, 3) := by decide +kernel
theorem dX11_carried_27 : decode cX11_carried 27 = .ok (.bipush (-2), 2) := by decide +kernel
theorem dX11_carried_29 : decode cX11_carried 29 = .ok (.ireturn, 1) := by decide +kernel
theorem dX11_carry_0 : decode cX11_carry 0 = .ok (.aload_n 0, 1) := by decide +kernel
theorem dX11_carry_1 : decode cX11_carry 1 = .ok (.iload_n 1, 1) := by decide +kernel
theorem dX11_carry_2 : decode cX11_carry 2 = .ok (.invokevirtual 145, 3) := by decide +kernel
theorem dX11_carry_5 : decode cX11_carry 5 = .ok (.ifCond .eq 35, 3) := by decide +kernel
theorem dX11_carry_40 : decode cX11_carry 40 = .ok (.bipush (-2), 2) := by decide +kernel
theorem dX11_carry_42 : decode cX11_carry 42 = .ok (.ireturn, 1) := by decide +kernel
theorem dX11_clear_0 : decode cX11_clear 0 = .ok (.aload_n 0, 1) := by decide +kernel
theorem dX11_clear_1 : decode cX11_clear 1 = .ok (.iload_n 1, 1) := by decide +kernel
theorem dX11_clear_2 : decode cX11_clear 2 = .ok (.iload_n 2, 1) := by decide +kernel
theorem dX11_clear_3 : decode cX11_clear 3 = .ok (.invokevirtual 216, 3) := by decide +kernel
theorem dX11_clear_6 : decode cX11_clear 6 = .ok (.ifCond .ne 6, 3) := by decide +kernel
theorem dX11_clear_9 : decode cX11_clear 9 = .ok (.bipush (-2), 2) := by decide +kernel
theorem dX11_clear_11 : decode cX11_clear 11 = .ok (.ireturn, 1) := by decide +kernel
theorem dX11_cycle_0 : decode cX11_cycle 0 = .ok (.aload_n 0, 1) := by decide +kernel
theorem dX11_cycle_1 : decode cX11_cycle 1 = .ok (.iload_n 1, 1) := by decide +kernel
theorem dX11_cycle_2 : decode cX11_cycle 2 = .ok (.invokevirtual 145, 3) := by decide +kernel
theorem dX11_cycle_5 : decode cX11_cycle 5 = .ok (.ifCond .eq 11, 3) := by decide +kernel
theorem dX11_cycle_16 : decode cX11_cycle 16 = .ok (.bipush (-2), 2) := by decide +kernel
theorem dX11_cycle_18 : decode cX11_cycle 18 = .ok (.ireturn, 1) := by decide +kernel
theorem dX11_date_0 : decode cX11_date 0 = .ok (.aload_n 0, 1) := by decide +kernel
theorem dX11_date_1 : decode cX11_date 1 = .ok (.iload_n 1, 1) := by decide +kernel
theorem dX11_date_2 : decode cX11_date 2 = .ok (.iload_n 2, 1) := by decide +kernel
theorem dX11_date_3 : decode cX11_date 3 = .ok (.iload_n 3, 1) := by decide +kernel
theorem dX11_date_4 : decode cX11_date 4 = .ok (.invokevirtual 285, 3) := by decide +kernel
theorem dX11_date_7 : decode cX11_date 7 = .ok (.istore 4, 2) := by decide +kernel
theorem dX11_date_9 : decode cX11_date 9 = .ok (.iload 4, 2) := by decide +kernel
theorem dX11_date_11 : decode cX11_date 11 = .ok (.ifCond .eq 8, 3) := by decide +kernel
theorem dX11_date_14 : decode cX11_date 14 = .ok (.iload 4, 2) := by decide +kernel
theorem dX11_date_16 : decode cX11_date 16 = .ok (.goto 18, 3) := by decide +kernel
theorem dX11_date_34 : decode cX11_date 34 = .ok (.ireturn, 1) := by decide +kernel
theorem dX11_days_0 : decode cX11_days 0 = .ok (.aload_n 0, 1) := by decide +kernel
theorem dX11_days_1 : decode cX11_days 1 = .ok (.iload_n 1, 1) := by decide +kernel
theorem dX11_days_2 : decode cX11_days 2 = .ok (.iload_n 2, 1) := by decide +kernel
theorem dX11_days_3 : decode cX11_days 3 = .ok (.invokevirtual 216, 3) := by decide +kernel
theorem dX11_days_6 : decode cX11_days 6 = .ok (.ifCond .eq 10, 3) := by decide +kernel
theorem dX11_days_16 : decode cX11_days 16 = .ok (.bipush (-2), 2) := by decide +kernel
theorem dX11_days_18 : decode cX11_days 18 = .ok (.ireturn, 1) := by decide +kernel
theorem dX11_differ_0 : decode cX11_differ 0 = .ok (.aload_n 0, 1) := by decide +kernel
theorem dX11_differ_1 : decode cX11_differ 1 = .ok (.iload_n 1, 1) := by decide +kernel
theorem dX11_differ_2 : decode cX11_differ 2 = .ok (.invokevirtual 145, 3) := by decide +kernel
theorem dX11_differ_5 : decode cX11_differ 5 = .ok (.ifCond .eq 11, 3) := by decide +kernel
theorem dX11_differ_16 : decode cX11_differ 16 = .ok (.bipush (-2), 2) := by decide +kernel
theorem dX11_differ_18 : decode cX11_differ 18 = .ok (.ireturn, 1) := by decide +kernel
theorem dX11_differs_0 : decode cX11_differs 0 = .ok (.aload_n 0, 1) := by decide +kernel
theorem dX11_differs_1 : decode cX11_differs 1 = .ok (.iload_n 1, 1) := by decide +kernel
theorem dX11_differs_2 : decode cX11_differs 2 = .ok (.invokevirtual 145, 3) := by decide +kernel
theorem dX11_differs_5 : decode cX11_differs 5 = .ok (.ifCond .eq 11, 3) := by decide +kernel
theorem dX11_differs_16 : decode cX11_differs 16 = .ok (.bipush (-2), 2) := by decide +kernel
theorem dX11_differs_18 : decode cX11_differs 18 = .ok (.ireturn, 1) := by decide +kernel
theorem dX11_even_0 : decode cX11_even 0 = .ok (.aload_n 0, 1) := by decide +kernel
theorem dX11_even_1 : decode cX11_even 1 = .ok (.iload_n 1, 1) := by decide +kernel
theorem dX11_even_2 : decode cX11_even 2 = .ok (.invokevirtual 145, 3) := by decide +kernel
theorem dX11_even_5 : decode cX11_even 5 = .ok (.ifCond .eq 10, 3) := by decide +kernel
theorem dX11_even_15 : decode cX11_even 15 = .ok (.bipush (-2), 2) := by decide +kernel
theorem dX11_even_17 : decode cX11_even 17 = .ok (.ireturn, 1) := by decide +kernel
theorem dX11_first_0 : decode cX11_first 0 = .ok (.aload_n 0, 1) := by decide +kernel
theorem dX11_first_1 : decode cX11_first 1 = .ok (.iload_n 1, 1) := by decide +kernel
theorem dX11_first_2 : decode cX11_first 2 = .ok (.iload_n 2, 1) := by decide +kernel
theorem dX11_first_3 : decode cX11_first 3 = .ok (.iload_n 3, 1) := by decide +kernel
theorem dX11_first_4 : decode cX11_first 4 = .ok (.invokevirtual 191, 3) := by decide +kernel
theorem dX11_first_7 : decode cX11_first 7 = .ok (.ifCond .eq 11, 3) := by decide +kernel
theorem dX11_first_18 : decode cX11_first 18 = .ok (.bipush (-2), 2) := by decide +kernel
theorem dX11_first_20 : decode cX11_first 20 = .ok (.ireturn, 1) := by decide +kernel
theorem dX11_fixed_0 : decode cX11_fixed 0 = .ok (.aload_n 0, 1) := by decide +kernel
theorem dX11_fixed_1 : decode cX11_fixed 1 = .ok (.iload_n 1, 1) := by decide +kernel
theorem dX11_fixed_2 : decode cX11_fixed 2 = .ok (.invokevirtual 145, 3) := by decide +kernel
theorem dX11_fixed_5 : decode cX11_fixed 5 = .ok (.ifCond .ne 6, 3) := by decide +kernel
theorem dX11_fixed_8 : decode cX11_fixed 8 = .ok (.bipush (-2), 2) := by decide +kernel
theorem dX11_fixed_10 : decode cX11_fixed 10 = .ok (.ireturn, 1) := by decide +kernel
theorem dX11_heard_0 : decode cX11_heard 0 = .ok (.aload_n 0, 1) := by decide +kernel
theorem dX11_heard_1 : decode cX11_heard 1 = .ok (.iload_n 1, 1) := by decide +kernel
theorem dX11_heard_2 : decode cX11_heard 2 = .ok (.iload_n 2, 1) := by decide +kernel
theorem dX11_heard_3 : decode cX11_heard 3 = .ok (.iload_n 3, 1) := by decide +kernel
theorem dX11_heard_4 : decode cX11_heard 4 = .ok (.invokevirtual 191, 3) := by decide +kernel
theorem dX11_heard_7 : decode cX11_heard 7 = .ok (.ifCond .ne 6, 3) := by decide +kernel
theorem dX11_heard_10 : decode cX11_heard 10 = .ok (.bipush (-2), 2) := by decide +kernel
theorem dX11_heard_12 : decode cX11_heard 12 = .ok (.ireturn, 1) := by decide +kernel
theorem dX11_isDay_0 : decode cX11_isDay 0 = .ok (.iload_n 0, 1) := by decide +kernel
theorem dX11_isDay_1 : decode cX11_isDay 1 = .ok (.ifCond .lt 14, 3) := by decide +kernel
theorem dX11_isDay_4 : decode cX11_isDay 4 = .ok (.iload_n 0, 1) := by decide +kernel
theorem dX11_isDay_5 : decode cX11_isDay 5 = .ok (.ldc_w 257, 3) := by decide +kernel
theorem dX11_isDay_8 : decode cX11_isDay 8 = .ok (.if_icmp .gt 7, 3) := by decide +kernel
theorem dX11_isDay_11 : decode cX11_isDay 11 = .ok (.iconst 1, 1) := by decide +kernel
theorem dX11_isDay_12 : decode cX11_isDay 12 = .ok (.goto 4, 3) := by decide +kernel
theorem dX11_isDay_15 : decode cX11_isDay 15 = .ok (.iconst 0, 1) := by decide +kernel
theorem dX11_isDay_16 : decode cX11_isDay 16 = .ok (.ireturn, 1) := by decide +kernel
theorem dX11_isLandAndText_0 : decode cX11_isLandAndText 0 = .ok (.aload_n 0, 1) := by decide +kernel
theorem dX11_isLandAndText_1 : decode cX11_isLandAndText 1 = .ok (.iload_n 1, 1) := by decide +kernel
theorem dX11_isLandAndText_2 : decode cX11_isLandAndText 2 = .ok (.invokevirtual 145, 3) := by decide +kernel
theorem dX11_isLandAndText_5 : decode cX11_isLandAndText 5 = .ok (.ifCond .eq 15, 3) := by decide +kernel
theorem dX11_isLandAndText_20 : decode cX11_isLandAndText 20 = .ok (.iconst 0, 1) := by decide +kernel
theorem dX11_isLandAndText_21 : decode cX11_isLandAndText 21 = .ok (.ireturn, 1) := by decide +kernel
theorem dX11_isReading_0 : decode cX11_isReading 0 = .ok (.aload_n 0, 1) := by decide +kernel
theorem dX11_isReading_1 : decode cX11_isReading 1 = .ok (.iload_n 1, 1) := by decide +kernel
theorem dX11_isReading_2 : decode cX11_isReading 2 = .ok (.invokevirtual 145, 3) := by decide +kernel
theorem dX11_isReading_5 : decode cX11_isReading 5 = .ok (.ifCond .eq 22, 3) := by decide +kernel
theorem dX11_isReading_27 : decode cX11_isReading 27 = .ok (.iconst 0, 1) := by decide +kernel
theorem dX11_isReading_28 : decode cX11_isReading 28 = .ok (.ireturn, 1) := by decide +kernel
theorem dX11_isSlot_0 : decode cX11_isSlot 0 = .ok (.iload_n 0, 1) := by decide +kernel
theorem dX11_isSlot_1 : decode cX11_isSlot 1 = .ok (.ifCond .lt 12, 3) := by decide +kernel
theorem dX11_isSlot_4 : decode cX11_isSlot 4 = .ok (.iload_n 0, 1) := by decide +kernel
theorem dX11_isSlot_5 : decode cX11_isSlot 5 = .ok (.iconst 4, 1) := by decide +kernel
theorem dX11_isSlot_6 : decode cX11_isSlot 6 = .ok (.if_icmp .ge 7, 3) := by decide +kernel
theorem dX11_isSlot_9 : decode cX11_isSlot 9 = .ok (.iconst 1, 1) := by decide +kernel
theorem dX11_isSlot_10 : decode cX11_isSlot 10 = .ok (.goto 4, 3) := by decide +kernel
theorem dX11_isSlot_13 : decode cX11_isSlot 13 = .ok (.iconst 0, 1) := by decide +kernel
theorem dX11_isSlot_14 : decode cX11_isSlot 14 = .ok (.ireturn, 1) := by decide +kernel
theorem dX11_isTask_0 : decode cX11_isTask 0 = .ok (.aload_n 0, 1) := by decide +kernel
theorem dX11_isTask_1 : decode cX11_isTask 1 = .ok (.iload_n 1, 1) := by decide +kernel
theorem dX11_isTask_2 : decode cX11_isTask 2 = .ok (.invokevirtual 145, 3) := by decide +kernel
theorem dX11_isTask_5 : decode cX11_isTask 5 = .ok (.ifCond .eq 33, 3) := by decide +kernel
theorem dX11_isTask_38 : decode cX11_isTask 38 = .ok (.iconst 0, 1) := by decide +kernel
theorem dX11_isTask_39 : decode cX11_isTask 39 = .ok (.ireturn, 1) := by decide +kernel
theorem dX11_kinds_0 : decode cX11_kinds 0 = .ok (.aload_n 0, 1) := by decide +kernel
theorem dX11_kinds_1 : decode cX11_kinds 1 = .ok (.iload_n 1, 1) := by decide +kernel
theorem dX11_kinds_2 : decode cX11_kinds 2 = .ok (.iload_n 2, 1) := by decide +kernel
theorem dX11_kinds_3 : decode cX11_kinds 3 = .ok (.iload_n 3, 1) := by decide +kernel
theorem dX11_kinds_4 : decode cX11_kinds 4 = .ok (.invokevirtual 191, 3) := by decide +kernel
theorem dX11_kinds_7 : decode cX11_kinds 7 = .ok (.ifCond .ne 6, 3) := by decide +kernel
theorem dX11_kinds_10 : decode cX11_kinds 10 = .ok (.bipush (-2), 2) := by decide +kernel
theorem dX11_kinds_12 : decode cX11_kinds 12 = .ok (.ireturn, 1) := by decide +kernel
theorem dX11_lands_0 : decode cX11_lands 0 = .ok (.iload_n 1, 1) := by decide +kernel
theorem dX11_lands_1 : decode cX11_lands 1 = .ok (.invokestatic 302, 3) := by decide +kernel
theorem dX11_lands_4 : decode cX11_lands 4 = .ok (.ifCond .eq 23, 3) := by decide +kernel
theorem dX11_lands_7 : decode cX11_lands 7 = .ok (.iload_n 2, 1) := by decide +kernel
theorem dX11_lands_8 : decode cX11_lands 8 = .ok (.invokestatic 158, 3) := by decide +kernel
theorem dX11_lands_11 : decode cX11_lands 11 = .ok (.ifCond .eq 16, 3) := by decide +kernel
theorem dX11_lands_14 : decode cX11_lands 14 = .ok (.aload_n 0, 1) := by decide +kernel
theorem dX11_lands_15 : decode cX11_lands 15 = .ok (.getfield 28, 3) := by decide +kernel
theorem dX11_lands_18 : decode cX11_lands 18 = .ok (.getfield 109, 3) := by decide +kernel
theorem dX11_lands_21 : decode cX11_lands 21 = .ok (.getfield 112, 3) := by decide +kernel
theorem dX11_lands_24 : decode cX11_lands 24 = .ok (.ifCond .ne 6, 3) := by decide +kernel
theorem dX11_lands_27 : decode cX11_lands 27 = .ok (.bipush (-2), 2) := by decide +kernel
theorem dX11_lands_29 : decode cX11_lands 29 = .ok (.ireturn, 1) := by decide +kernel
theorem dX11_leaves_0 : decode cX11_leaves 0 = .ok (.aload_n 0, 1) := by decide +kernel
theorem dX11_leaves_1 : decode cX11_leaves 1 = .ok (.iload_n 1, 1) := by decide +kernel
theorem dX11_leaves_2 : decode cX11_leaves 2 = .ok (.iload_n 2, 1) := by decide +kernel
theorem dX11_leaves_3 : decode cX11_leaves 3 = .ok (.iconst 0, 1) := by decide +kernel
theorem dX11_leaves_4 : decode cX11_leaves 4 = .ok (.invokevirtual 285, 3) := by decide +kernel
theorem dX11_leaves_7 : decode cX11_leaves 7 = .ok (.istore_n 3, 1) := by decide +kernel
theorem dX11_leaves_8 : decode cX11_leaves 8 = .ok (.iload_n 3, 1) := by decide +kernel
theorem dX11_leaves_9 : decode cX11_leaves 9 = .ok (.ifCond .eq 5, 3) := by decide +kernel
theorem dX11_leaves_12 : decode cX11_leaves 12 = .ok (.iload_n 3, 1) := by decide +kernel
theorem dX11_leaves_13 : decode cX11_leaves 13 = .ok (.ireturn, 1) := by decide +kernel
theorem dX11_letterTrouble_0 : decode cX11_letterTrouble 0 = .ok (.iload_n 1, 1) := by decide +kernel
theorem dX11_letterTrouble_1 : decode cX11_letterTrouble 1 = .ok (.invokestatic 302, 3) := by decide +kernel
theorem dX11_letterTrouble_4 : decode cX11_letterTrouble 4 = .ok (.ifCond .eq 18, 3) := by decide +kernel
theorem dX11_letterTrouble_7 : decode cX11_letterTrouble 7 = .ok (.aload_n 0, 1) := by decide +kernel
theorem dX11_letterTrouble_8 : decode cX11_letterTrouble 8 = .ok (.iload_n 2, 1) := by decide +kernel
theorem dX11_letterTrouble_9 : decode cX11_letterTrouble 9 = .ok (.invokevirtual 145, 3) := by decide +kernel
theorem dX11_letterTrouble_12 : decode cX11_letterTrouble 12 = .ok (.ifCond .eq 10, 3) := by decide +kernel
theorem dX11_letterTrouble_22 : decode cX11_letterTrouble 22 = .ok (.bipush (-2), 2) := by decide +kernel
theorem dX11_letterTrouble_24 : decode cX11_letterTrouble 24 = .ok (.ireturn, 1) := by decide +kernel
theorem dX11_like_0 : decode cX11_like 0 = .ok (.aload_n 0, 1) := by decide +kernel
theorem dX11_like_1 : decode cX11_like 1 = .ok (.iload_n 1, 1) := by decide +kernel
theorem dX11_like_2 : decode cX11_like 2 = .ok (.invokevirtual 145, 3) := by decide +kernel
theorem dX11_like_5 : decode cX11_like 5 = .ok (.ifCond .eq 18, 3) := by decide +kernel
theorem dX11_like_23 : decode cX11_like 23 = .ok (.bipush (-2), 2) := by decide +kernel
theorem dX11_like_25 : decode cX11_like 25 = .ok (.ireturn, 1) := by decide +kernel
theorem dX11_lost_0 : decode cX11_lost 0 = .ok (.aload_n 0, 1) := by decide +kernel
theorem dX11_lost_1 : decode cX11_lost 1 = .ok (.iload_n 1, 1) := by decide +kernel
theorem dX11_lost_2 : decode cX11_lost 2 = .ok (.iload_n 2, 1) := by decide +kernel
theorem dX11_lost_3 : decode cX11_lost 3 = .ok (.iload_n 3, 1) := by decide +kernel
theorem dX11_lost_4 : decode cX11_lost 4 = .ok (.invokevirtual 191, 3) := by decide +kernel
theorem dX11_lost_7 : decode cX11_lost 7 = .ok (.ifCond .ne 6, 3) := by decide +kernel
theorem dX11_lost_10 : decode cX11_lost 10 = .ok (.bipush (-2), 2) := by decide +kernel
theorem dX11_lost_12 : decode cX11_lost 12 = .ok (.ireturn, 1) := by decide +kernel
theorem dX11_order_0 : decode cX11_order 0 = .ok (.aload_n 0, 1) := by decide +kernel
theorem dX11_order_1 : decode cX11_order 1 = .ok (.iload_n 1, 1) := by decide +kernel
theorem dX11_order_2 : decode cX11_order 2 = .ok (.invokevirtual 145, 3) := by decide +kernel
theorem dX11_order_5 : decode cX11_order 5 = .ok (.ifCond .eq 18, 3) := by decide +kernel
theorem dX11_order_23 : decode cX11_order 23 = .ok (.bipush (-2), 2) := by decide +kernel
theorem dX11_order_25 : decode cX11_order 25 = .ok (.ireturn, 1) := by decide +kernel
theorem dX11_otherwise_0 : decode cX11_otherwise 0 = .ok (.aload_n 0, 1) := by decide +kernel
theorem dX11_otherwise_1 : decode cX11_otherwise 1 = .ok (.iload_n 1, 1) := by decide +kernel
theorem dX11_otherwise_2 : decode cX11_otherwise 2 = .ok (.invokevirtual 145, 3) := by decide +kernel
theorem dX11_otherwise_5 : decode cX11_otherwise 5 = .ok (.ifCond .eq 18, 3) := by decide +kernel
theorem dX11_otherwise_23 : decode cX11_otherwise 23 = .ok (.bipush (-2), 2) := by decide +kernel
theorem dX11_otherwise_25 : decode cX11_otherwise 25 = .ok (.ireturn, 1) := by decide +kernel
theorem dX11_read_0 : decode cX11_read 0 = .ok (.aload_n 0, 1) := by decide +kernel
theorem dX11_read_1 : decode cX11_read 1 = .ok (.iload_n 1, 1) := by decide +kernel
theorem dX11_read_2 : decode cX11_read 2 = .ok (.iload_n 2, 1) := by decide +kernel
theorem dX11_read_3 : decode cX11_read 3 = .ok (.iload_n 3, 1) := by decide +kernel
theorem dX11_read_4 : decode cX11_read 4 = .ok (.invokevirtual 191, 3) := by decide +kernel
theorem dX11_read_7 : decode cX11_read 7 = .ok (.ifCond .eq 16, 3) := by decide +kernel
theorem dX11_read_23 : decode cX11_read 23 = .ok (.bipush (-2), 2) := by decide +kernel
theorem dX11_read_25 : decode cX11_read 25 = .ok (.ireturn, 1) := by decide +kernel
theorem dX11_richest_0 : decode cX11_richest 0 = .ok (.aload_n 0, 1) := by decide +kernel
theorem dX11_richest_1 : decode cX11_richest 1 = .ok (.iload_n 1, 1) := by decide +kernel
theorem dX11_richest_2 : decode cX11_richest 2 = .ok (.invokevirtual 145, 3) := by decide +kernel
theorem dX11_richest_5 : decode cX11_richest 5 = .ok (.ifCond .eq 10, 3) := by decide +kernel
theorem dX11_richest_15 : decode cX11_richest 15 = .ok (.bipush (-2), 2) := by decide +kernel
theorem dX11_richest_17 : decode cX11_richest 17 = .ok (.ireturn, 1) := by decide +kernel
theorem dX11_run_0 : decode cX11_run 0 = .ok (.aload_n 0, 1) := by decide +kernel
theorem dX11_run_1 : decode cX11_run 1 = .ok (.iload_n 1, 1) := by decide +kernel
theorem dX11_run_2 : decode cX11_run 2 = .ok (.iload_n 2, 1) := by decide +kernel
theorem dX11_run_3 : decode cX11_run 3 = .ok (.invokevirtual 216, 3) := by decide +kernel
theorem dX11_run_6 : decode cX11_run 6 = .ok (.ifCond .ne 6, 3) := by decide +kernel
theorem dX11_run_9 : decode cX11_run 9 = .ok (.bipush (-2), 2) := by decide +kernel
theorem dX11_run_11 : decode cX11_run 11 = .ok (.ireturn, 1) := by decide +kernel
theorem dX11_silent_0 : decode cX11_silent 0 = .ok (.aload_n 0, 1) := by decide +kernel
theorem dX11_silent_1 : decode cX11_silent 1 = .ok (.iload_n 1, 1) := by decide +kernel
theorem dX11_silent_2 : decode cX11_silent 2 = .ok (.iload_n 2, 1) := by decide +kernel
theorem dX11_silent_3 : decode cX11_silent 3 = .ok (.iload_n 3, 1) := by decide +kernel
theorem dX11_silent_4 : decode cX11_silent 4 = .ok (.invokevirtual 191, 3) := by decide +kernel
theorem dX11_silent_7 : decode cX11_silent 7 = .ok (.ifCond .ne 6, 3) := by decide +kernel
theorem dX11_silent_10 : decode cX11_silent 10 = .ok (.bipush (-2), 2) := by decide +kernel
theorem dX11_silent_12 : decode cX11_silent 12 = .ok (.ireturn, 1) := by decide +kernel
theorem dX11_sorts_0 : decode cX11_sorts 0 = .ok (.aload_n 0, 1) := by decide +kernel
theorem dX11_sorts_1 : decode cX11_sorts 1 = .ok (.iload_n 1, 1) := by decide +kernel
theorem dX11_sorts_2 : decode cX11_sorts 2 = .ok (.iload_n 2, 1) := by decide +kernel
theorem dX11_sorts_3 : decode cX11_sorts 3 = .ok (.invokevirtual 216, 3) := by decide +kernel
theorem dX11_sorts_6 : decode cX11_sorts 6 = .ok (.ifCond .ne 6, 3) := by decide +kernel
theorem dX11_sorts_9 : decode cX11_sorts 9 = .ok (.bipush (-2), 2) := by decide +kernel
theorem dX11_sorts_11 : decode cX11_sorts 11 = .ok (.ireturn, 1) := by decide +kernel
theorem dX11_torn_0 : decode cX11_torn 0 = .ok (.aload_n 0, 1) := by decide +kernel
theorem dX11_torn_1 : decode cX11_torn 1 = .ok (.iload_n 1, 1) := by decide +kernel
theorem dX11_torn_2 : decode cX11_torn 2 = .ok (.iload_n 2, 1) := by decide +kernel
theorem dX11_torn_3 : decode cX11_torn 3 = .ok (.iconst 0, 1) := by decide +kernel
theorem dX11_torn_4 : decode cX11_torn 4 = .ok (.invokevirtual 285, 3) := by decide +kernel
theorem dX11_torn_7 : decode cX11_torn 7 = .ok (.istore_n 3, 1) := by decide +kernel
theorem dX11_torn_8 : decode cX11_torn 8 = .ok (.iload_n 3, 1) := by decide +kernel
theorem dX11_torn_9 : decode cX11_torn 9 = .ok (.ifCond .eq 7, 3) := by decide +kernel
theorem dX11_torn_12 : decode cX11_torn 12 = .ok (.iload_n 3, 1) := by decide +kernel
theorem dX11_torn_13 : decode cX11_torn 13 = .ok (.goto 17, 3) := by decide +kernel
theorem dX11_torn_30 : decode cX11_torn 30 = .ok (.ireturn, 1) := by decide +kernel
theorem dX11_turned_0 : decode cX11_turned 0 = .ok (.aload_n 0, 1) := by decide +kernel
theorem dX11_turned_1 : decode cX11_turned 1 = .ok (.iload_n 1, 1) := by decide +kernel
theorem dX11_turned_2 : decode cX11_turned 2 = .ok (.invokevirtual 145, 3) := by decide +kernel
theorem dX11_turned_5 : decode cX11_turned 5 = .ok (.ifCond .eq 22, 3) := by decide +kernel
theorem dX11_turned_27 : decode cX11_turned 27 = .ok (.bipush (-2), 2) := by decide +kernel
theorem dX11_turned_29 : decode cX11_turned 29 = .ok (.ireturn, 1) := by decide +kernel
theorem dX11_worded_0 : decode cX11_worded 0 = .ok (.aload_n 0, 1) := by decide +kernel
theorem dX11_worded_1 : decode cX11_worded 1 = .ok (.iload_n 1, 1) := by decide +kernel
theorem dX11_worded_2 : decode cX11_worded 2 = .ok (.iload_n 2, 1) := by decide +kernel
theorem dX11_worded_3 : decode cX11_worded 3 = .ok (.iload_n 3, 1) := by decide +kernel
theorem dX11_worded_4 : decode cX11_worded 4 = .ok (.iload 4, 2) := by decide +kernel
theorem dX11_worded_6 : decode cX11_worded 6 = .ok (.invokevirtual 316, 3) := by decide +kernel
theorem dX11_worded_9 : decode cX11_worded 9 = .ok (.ifCond .eq 8, 3) := by decide +kernel
theorem dX11_worded_17 : decode cX11_worded 17 = .ok (.bipush (-2), 2) := by decide +kernel
theorem dX11_worded_19 : decode cX11_worded 19 = .ok (.ireturn, 1) := by decide +kernel
theorem dX11_wording_0 : decode cX11_wording 0 = .ok (.aload_n 0, 1) := by decide +kernel
theorem dX11_wording_1 : decode cX11_wording 1 = .ok (.iload_n 1, 1) := by decide +kernel
theorem dX11_wording_2 : decode cX11_wording 2 = .ok (.iload_n 2, 1) := by decide +kernel
theorem dX11_wording_3 : decode cX11_wording 3 = .ok (.iload_n 3, 1) := by decide +kernel
theorem dX11_wording_4 : decode cX11_wording 4 = .ok (.iload 4, 2) := by decide +kernel
theorem dX11_wording_6 : decode cX11_wording 6 = .ok (.invokevirtual 316, 3) := by decide +kernel
theorem dX11_wording_9 : decode cX11_wording 9 = .ok (.ifCond .ne 6, 3) := by decide +kernel
theorem dX11_wording_12 : decode cX11_wording 12 = .ok (.bipush (-2), 2) := by decide +kernel
theorem dX11_wording_14 : decode cX11_wording 14 = .ok (.ireturn, 1) := by decide +kernel
theorem dX11_worst_0 : decode cX11_worst 0 = .ok (.aload_n 0, 1) := by decide +kernel
theorem dX11_worst_1 : decode cX11_worst 1 = .ok (.iload_n 1, 1) := by decide +kernel
theorem dX11_worst_2 : decode cX11_worst 2 = .ok (.iload_n 2, 1) := by decide +kernel
theorem dX11_worst_3 : decode cX11_worst 3 = .ok (.iload 4, 2) := by decide +kernel
theorem dX11_worst_5 : decode cX11_worst 5 = .ok (.invokevirtual 191, 3) := by decide +kernel
theorem dX11_worst_8 : decode cX11_worst 8 = .ok (.ifCond .eq 15, 3) := by decide +kernel
theorem dX11_worst_23 : decode cX11_worst 23 = .ok (.bipush (-2), 2) := by decide +kernel
theorem dX11_worst_25 : decode cX11_worst 25 = .ok (.ireturn, 1) := by decide +kernel
theorem dX12_again_0 : decode cX12_again 0 = .ok (.aload_n 0, 1) := by decide +kernel
theorem dX12_again_1 : decode cX12_again 1 = .ok (.iconst 0, 1) := by decide +kernel
theorem dX12_again_2 : decode cX12_again 2 = .ok (.putfield 77, 3) := by decide +kernel
theorem dX12_again_5 : decode cX12_again 5 = .ok (.aload_n 0, 1) := by decide +kernel
theorem dX12_again_6 : decode cX12_again 6 = .ok (.iload_n 1, 1) := by decide +kernel
theorem dX12_again_7 : decode cX12_again 7 = .ok (.iload_n 2, 1) := by decide +kernel
theorem dX12_again_8 : decode cX12_again 8 = .ok (.invokevirtual 323, 3) := by decide +kernel
theorem dX12_again_11 : decode cX12_again 11 = .ok (.ifCond .eq 12, 3) := by decide +kernel
theorem dX12_again_23 : decode cX12_again 23 = .ok (.bipush (-2), 2) := by decide +kernel
theorem dX12_again_25 : decode cX12_again 25 = .ok (.ireturn, 1) := by decide +kernel
theorem dX12_agree_0 : decode cX12_agree 0 = .ok (.aload_n 0, 1) := by decide +kernel
theorem dX12_agree_1 : decode cX12_agree 1 = .ok (.iconst 0, 1) := by decide +kernel
theorem dX12_agree_2 : decode cX12_agree 2 = .ok (.putfield 77, 3) := by decide +kernel
theorem dX12_agree_5 : decode cX12_agree 5 = .ok (.aload_n 0, 1) := by decide +kernel
theorem dX12_agree_6 : decode cX12_agree 6 = .ok (.iload_n 1, 1) := by decide +kernel
theorem dX12_agree_7 : decode cX12_agree 7 = .ok (.invokevirtual 265, 3) := by decide +kernel
theorem dX12_agree_10 : decode cX12_agree 10 = .ok (.ifCond .eq 21, 3) := by decide +kernel
theorem dX12_agree_31 : decode cX12_agree 31 = .ok (.bipush (-2), 2) := by decide +kernel
theorem dX12_agree_33 : decode cX12_agree 33 = .ok (.ireturn, 1) := by decide +kernel
theorem dX12_alike_0 : decode cX12_alike 0 = .ok (.aload_n 0, 1) := by decide +kernel
theorem dX12_alike_1 : decode cX12_alike 1 = .ok (.iconst 0, 1) := by decide +kernel
theorem dX12_alike_2 : decode cX12_alike 2 = .ok (.putfield 77, 3) := by decide +kernel
theorem dX12_alike_5 : decode cX12_alike 5 = .ok (.aload_n 0, 1) := by decide +kernel
theorem dX12_alike_6 : decode cX12_alike 6 = .ok (.iload_n 1, 1) := by decide +kernel
theorem dX12_alike_7 : decode cX12_alike 7 = .ok (.invokevirtual 265, 3) := by decide +kernel
theorem dX12_alike_10 : decode cX12_alike 10 = .ok (.ifCond .eq 23, 3) := by decide +kernel
theorem dX12_alike_33 : decode cX12_alike 33 = .ok (.bipush (-2), 2) := by decide +kernel
theorem dX12_alike_35 : decode cX12_alike 35 = .ok (.ireturn, 1) := by decide +kernel
theorem dX12_all_0 : decode cX12_all 0 = .ok (.aload_n 0, 1) := by decide +kernel
theorem dX12_all_1 : decode cX12_all 1 = .ok (.iconst 0, 1) := by decide +kernel
theorem dX12_all_2 : decode cX12_all 2 = .ok (.putfield 77, 3) := by decide +kernel
theorem dX12_all_5 : decode cX12_all 5 = .ok (.aload_n 0, 1) := by decide +kernel
theorem dX12_all_6 : decode cX12_all 6 = .ok (.iload_n 1, 1) := by decide +kernel
theorem dX12_all_7 : decode cX12_all 7 = .ok (.iload_n 2, 1) := by decide +kernel
theorem dX12_all_8 : decode cX12_all 8 = .ok (.invokevirtual 323, 3) := by decide +kernel
theorem dX12_all_11 : decode cX12_all 11 = .ok (.ifCond .ne 6, 3) := by decide +kernel
theorem dX12_all_14 : decode cX12_all 14 = .ok (.bipush (-2), 2) := by decide +kernel
theorem dX12_all_16 : decode cX12_all 16 = .ok (.ireturn, 1) := by decide +kernel
theorem dX12_ask_0 : decode cX12_ask 0 = .ok (.aload_n 0, 1) := by decide +kernel
theorem dX12_ask_1 : decode cX12_ask 1 = .ok (.iconst 0, 1) := by decide +kernel
theorem dX12_ask_2 : decode cX12_ask 2 = .ok (.putfield 77, 3) := by decide +kernel
theorem dX12_ask_5 : decode cX12_ask 5 = .ok (.aload_n 0, 1) := by decide +kernel
theorem dX12_ask_6 : decode cX12_ask 6 = .ok (.iload_n 1, 1) := by decide +kernel
theorem dX12_ask_7 : decode cX12_ask 7 = .ok (.aload_n 0, 1) := by decide +kernel
theorem dX12_ask_8 : decode cX12_ask 8 = .ok (.iload_n 2, 1) := by decide +kernel
theorem dX12_ask_9 : decode cX12_ask 9 = .ok (.invokevirtual 265, 3) := by decide +kernel
theorem dX12_ask_12 : decode cX12_ask 12 = .ok (.invokevirtual 393, 3) := by decide +kernel
theorem dX12_ask_15 : decode cX12_ask 15 = .ok (.istore_n 3, 1) := by decide +kernel
theorem dX12_ask_16 : decode cX12_ask 16 = .ok (.iload_n 3, 1) := by decide +kernel
theorem dX12_ask_17 : decode cX12_ask 17 = .ok (.ifCond .eq 5, 3) := by decide +kernel
theorem dX12_ask_20 : decode cX12_ask 20 = .ok (.iload_n 3, 1) := by decide +kernel
theorem dX12_ask_21 : decode cX12_ask 21 = .ok (.ireturn, 1) := by decide +kernel
theorem dX12_average_0 : decode cX12_average 0 = .ok (.aload_n 0, 1) := by decide +kernel
theorem dX12_average_1 : decode cX12_average 1 = .ok (.iconst 0, 1) := by decide +kernel
theorem dX12_average_2 : decode cX12_average 2 = .ok (.putfield 77, 3) := by decide +kernel
theorem dX12_average_5 : decode cX12_average 5 = .ok (.aload_n 0, 1) := by decide +kernel
theorem dX12_average_6 : decode cX12_average 6 = .ok (.iload_n 1, 1) := by decide +kernel
theorem dX12_average_7 : decode cX12_average 7 = .ok (.invokevirtual 265, 3) := by decide +kernel
theorem dX12_average_10 : decode cX12_average 10 = .ok (.ifCond .eq 19, 3) := by decide +kernel
theorem dX12_average_29 : decode cX12_average 29 = .ok (.bipush (-2), 2) := by decide +kernel
theorem dX12_average_31 : decode cX12_average 31 = .ok (.ireturn, 1) := by decide +kernel
theorem dX12_best_0 : decode cX12_best 0 = .ok (.aload_n 0, 1) := by decide +kernel
theorem dX12_best_1 : decode cX12_best 1 = .ok (.iconst 0, 1) := by decide +kernel
theorem dX12_best_2 : decode cX12_best 2 = .ok (.putfield 77, 3) := by decide +kernel
theorem dX12_best_5 : decode cX12_best 5 = .ok (.aload_n 0, 1) := by decide +kernel
theorem dX12_best_6 : decode cX12_best 6 = .ok (.iload_n 1, 1) := by decide +kernel
theorem dX12_best_7 : decode cX12_best 7 = .ok (.iload_n 2, 1) := by decide +kernel
theorem dX12_best_8 : decode cX12_best 8 = .ok (.invokevirtual 323, 3) := by decide +kernel
theorem dX12_best_11 : decode cX12_best 11 = .ok (.ifCond .eq 38, 3) := by decide +kernel
theorem dX12_best_49 : decode cX12_best 49 = .ok (.bipush (-2), 2) := by decide +kernel
theorem dX12_best_51 : decode cX12_best 51 = .ok (.ireturn, 1) := by decide +kernel
theorem dX12_better_0 : decode cX12_better 0 = .ok (.aload_n 0, 1) := by decide +kernel
theorem dX12_better_1 : decode cX12_better 1 = .ok (.iconst 0, 1) := by decide +kernel
theorem dX12_better_2 : decode cX12_better 2 = .ok (.putfield 77, 3) := by decide +kernel
theorem dX12_better_5 : decode cX12_better 5 = .ok (.aload_n 0, 1) := by decide +kernel
theorem dX12_better_6 : decode cX12_better 6 = .ok (.iload_n 1, 1) := by decide +kernel
theorem dX12_better_7 : decode cX12_better 7 = .ok (.iload_n 2, 1) := by decide +kernel
theorem dX12_better_8 : decode cX12_better 8 = .ok (.invokevirtual 323, 3) := by decide +kernel
theorem dX12_better_11 : decode cX12_better 11 = .ok (.ifCond .eq 12, 3) := by decide +kernel
theorem dX12_better_23 : decode cX12_better 23 = .ok (.bipush (-2), 2) := by decide +kernel
theorem dX12_better_25 : decode cX12_better 25 = .ok (.ireturn, 1) := by decide +kernel
theorem dX12_carried_0 : decode cX12_carried 0 = .ok (.aload_n 0, 1) := by decide +kernel
theorem dX12_carried_1 : decode cX12_carried 1 = .ok (.iconst 0, 1) := by decide +kernel
theorem dX12_carried_2 : decode cX12_carried 2 = .ok (.putfield 77, 3) := by decide +kernel
theorem dX12_carried_5 : decode cX12_carried 5 = .ok (.aload_n 0, 1) := by decide +kernel
theorem dX12_carried_6 : decode cX12_carried 6 = .ok (.iload_n 1, 1) := by decide +kernel
theorem dX12_carried_7 : decode cX12_carried 7 = .ok (.iload_n 2, 1) := by decide +kernel
theorem dX12_carried_8 : decode cX12_carried 8 = .ok (.invokevirtual 323, 3) := by decide +kernel
theorem dX12_carried_11 : decode cX12_carried 11 = .ok (.ifCond .eq 23, 3) := by decide +kernel
theorem dX12_carried_34 : decode cX12_carried 34 = .ok (.bipush (-2), 2) := by decide +kernel
theorem dX12_carried_36 : decode cX12_carried 36 = .ok (.ireturn, 1) := by decide +kernel
theorem dX12_carry_0 : decode cX12_carry 0 = .ok (.aload_n 0, 1) := by decide +kernel
theorem dX12_carry_1 : decode cX12_carry 1 = .ok (.iconst 0, 1) := by decide +kernel
theorem dX12_carry_2 : decode cX12_carry 2 = .ok (.putfield 77, 3) := by decide +kernel
theorem dX12_carry_5 : decode cX12_carry 5 = .ok (.aload_n 0, 1) := by decide +kernel
theorem dX12_carry_6 : decode cX12_carry 6 = .ok (.iload_n 1, 1) := by decide +kernel
theorem dX12_carry_7 : decode cX12_carry 7 = .ok (.iload_n 2, 1) := by decide +kernel
theorem dX12_carry_8 : decode cX12_carry 8 = .ok (.invokevirtual 323, 3) := by decide +kernel
theorem dX12_carry_11 : decode cX12_carry 11 = .ok (.ifCond .eq 22, 3) := by decide +kernel
theorem dX12_carry_33 : decode cX12_carry 33 = .ok (.bipush (-2), 2) := by decide +kernel
theorem dX12_carry_35 : decode cX12_carry 35 = .ok (.ireturn, 1) := by decide +kernel
theorem dX12_clear_0 : decode cX12_clear 0 = .ok (.aload_n 0, 1) := by decide +kernel
theorem dX12_clear_1 : decode cX12_clear 1 = .ok (.iconst 0, 1) := by decide +kernel
theorem dX12_clear_2 : decode cX12_clear 2 = .ok (.putfield 77, 3) := by decide +kernel
theorem dX12_clear_5 : decode cX12_clear 5 = .ok (.aload_n 0, 1) := by decide +kernel
theorem dX12_clear_6 : decode cX12_clear 6 = .ok (.iload_n 1, 1) := by decide +kernel
theorem dX12_clear_7 : decode cX12_clear 7 = .ok (.invokevirtual 265, 3) := by decide +kernel
theorem dX12_clear_10 : decode cX12_clear 10 = .ok (.ifCond .eq 12, 3) := by decide +kernel
theorem dX12_clear_22 : decode cX12_clear 22 = .ok (.bipush (-2), 2) := by decide +kernel
theorem dX12_clear_24 : decode cX12_clear 24 = .ok (.ireturn, 1) := by decide +kernel
theorem dX12_cycle_0 : decode cX12_cycle 0 = .ok (.aload_n 0, 1) := by decide +kernel
theorem dX12_cycle_1 : decode cX12_cycle 1 = .ok (.iconst 0, 1) := by decide +kernel
theorem dX12_cycle_2 : decode cX12_cycle 2 = .ok (.putfield 77, 3) := by decide +kernel
theorem dX12_cycle_5 : decode cX12_cycle 5 = .ok (.aload_n 0, 1) := by decide +kernel
theorem dX12_cycle_6 : decode cX12_cycle 6 = .ok (.iload_n 1, 1) := by decide +kernel
theorem dX12_cycle_7 : decode cX12_cycle 7 = .ok (.invokevirtual 265, 3) := by decide +kernel
theorem dX12_cycle_10 : decode cX12_cycle 10 = .ok (.ifCond .eq 20, 3) := by decide +kernel
theorem dX12_cycle_30 : decode cX12_cycle 30 = .ok (.bipush (-2), 2) := by decide +kernel
theorem dX12_cycle_32 : decode cX12_cycle 32 = .ok (.ireturn, 1) := by decide +kernel
theorem dX12_date_0 : decode cX12_date 0 = .ok (.aload_n 0, 1) := by decide +kernel
theorem dX12_date_1 : decode cX12_date 1 = .ok (.iconst 0, 1) := by decide +kernel
theorem dX12_date_2 : decode cX12_date 2 = .ok (.putfield 77, 3) := by decide +kernel
theorem dX12_date_5 : decode cX12_date 5 = .ok (.aload_n 0, 1) := by decide +kernel
theorem dX12_date_6 : decode cX12_date 6 = .ok (.iload_n 1, 1) := by decide +kernel
theorem dX12_date_7 : decode cX12_date 7 = .ok (.aload_n 0, 1) := by decide +kernel
theorem dX12_date_8 : decode cX12_date 8 = .ok (.iload_n 2, 1) := by decide +kernel
theorem dX12_date_9 : decode cX12_date 9 = .ok (.iload_n 3, 1) := by decide +kernel
theorem dX12_date_10 : decode cX12_date 10 = .ok (.invokevirtual 323, 3) := by decide +kernel
theorem dX12_date_13 : decode cX12_date 13 = .ok (.invokevirtual 393, 3) := by decide +kernel
theorem dX12_date_16 : decode cX12_date 16 = .ok (.istore 4, 2) := by decide +kernel
theorem dX12_date_18 : decode cX12_date 18 = .ok (.iload 4, 2) := by decide +kernel
theorem dX12_date_20 : decode cX12_date 20 = .ok (.ifCond .eq 6, 3) := by decide +kernel
theorem dX12_date_23 : decode cX12_date 23 = .ok (.iload 4, 2) := by decide +kernel
theorem dX12_date_25 : decode cX12_date 25 = .ok (.ireturn, 1) := by decide +kernel
theorem dX12_days_0 : decode cX12_days 0 = .ok (.aload_n 0, 1) := by decide +kernel
theorem dX12_days_1 : decode cX12_days 1 = .ok (.iconst 0, 1) := by decide +kernel
theorem dX12_days_2 : decode cX12_days 2 = .ok (.putfield 77, 3) := by decide +kernel
theorem dX12_days_5 : decode cX12_days 5 = .ok (.aload_n 0, 1) := by decide +kernel
theorem dX12_days_6 : decode cX12_days 6 = .ok (.iload_n 1, 1) := by decide +kernel
theorem dX12_days_7 : decode cX12_days 7 = .ok (.invokevirtual 265, 3) := by decide +kernel
theorem dX12_days_10 : decode cX12_days 10 = .ok (.ifCond .eq 20, 3) := by decide +kernel
theorem dX12_days_30 : decode cX12_days 30 = .ok (.bipush (-2), 2) := by decide +kernel
theorem dX12_days_32 : decode cX12_days 32 = .ok (.ireturn, 1) := by decide +kernel
theorem dX12_differ_0 : decode cX12_differ 0 = .ok (.aload_n 0, 1) := by decide +kernel
theorem dX12_differ_1 : decode cX12_differ 1 = .ok (.iconst 0, 1) := by decide +kernel
theorem dX12_differ_2 : decode cX12_differ 2 = .ok (.putfield 77, 3) := by decide +kernel
theorem dX12_differ_5 : decode cX12_differ 5 = .ok (.aload_n 0, 1) := by decide +kernel
theorem dX12_differ_6 : decode cX12_differ 6 = .ok (.iload_n 1, 1) := by decide +kernel
theorem dX12_differ_7 : decode cX12_differ 7 = .ok (.invokevirtual 265, 3) := by decide +kernel
theorem dX12_differ_10 : decode cX12_differ 10 = .ok (.ifCond .eq 20, 3) := by decide +kernel
theorem dX12_differ_30 : decode cX12_differ 30 = .ok (.bipush (-2), 2) := by decide +kernel
theorem dX12_differ_32 : decode cX12_differ 32 = .ok (.ireturn, 1) := by decide +kernel
theorem dX12_differs_0 : decode cX12_differs 0 = .ok (.aload_n 0, 1) := by decide +kernel
theorem dX12_differs_1 : decode cX12_differs 1 = .ok (.iconst 0, 1) := by decide +kernel
theorem dX12_differs_2 : decode cX12_differs 2 = .ok (.putfield 77, 3) := by decide +kernel
theorem dX12_differs_5 : decode cX12_differs 5 = .ok (.aload_n 0, 1) := by decide +kernel
theorem dX12_differs_6 : decode cX12_differs 6 = .ok (.iload_n 1, 1) := by decide +kernel
theorem dX12_differs_7 : decode cX12_differs 7 = .ok (.invokevirtual 265, 3) := by decide +kernel
theorem dX12_differs_10 : decode cX12_differs 10 = .ok (.ifCond .eq 11, 3) := by decide +kernel
theorem dX12_differs_21 : decode cX12_differs 21 = .ok (.bipush (-2), 2) := by decide +kernel
theorem dX12_differs_23 : decode cX12_differs 23 = .ok (.ireturn, 1) := by decide +kernel
theorem dX12_even_0 : decode cX12_even 0 = .ok (.aload_n 0, 1) := by decide +kernel
theorem dX12_even_1 : decode cX12_even 1 = .ok (.iconst 0, 1) := by decide +kernel
theorem dX12_even_2 : decode cX12_even 2 = .ok (.putfield 77, 3) := by decide +kernel
theorem dX12_even_5 : decode cX12_even 5 = .ok (.aload_n 0, 1) := by decide +kernel
theorem dX12_even_6 : decode cX12_even 6 = .ok (.iload_n 1, 1) := by decide +kernel
theorem dX12_even_7 : decode cX12_even 7 = .ok (.iload_n 2, 1) := by decide +kernel
theorem dX12_even_8 : decode cX12_even 8 = .ok (.invokevirtual 323, 3) := by decide +kernel
theorem dX12_even_11 : decode cX12_even 11 = .ok (.ifCond .ne 6, 3) := by decide +kernel
theorem dX12_even_14 : decode cX12_even 14 = .ok (.bipush (-2), 2) := by decide +kernel
theorem dX12_even_16 : decode cX12_even 16 = .ok (.ireturn, 1) := by decide +kernel
theorem dX12_first_0 : decode cX12_first 0 = .ok (.aload_n 0, 1) := by decide +kernel
theorem dX12_first_1 : decode cX12_first 1 = .ok (.iconst 0, 1) := by decide +kernel
theorem dX12_first_2 : decode cX12_first 2 = .ok (.putfield 77, 3) := by decide +kernel
theorem dX12_first_5 : decode cX12_first 5 = .ok (.aload_n 0, 1) := by decide +kernel
theorem dX12_first_6 : decode cX12_first 6 = .ok (.iload_n 1, 1) := by decide +kernel
theorem dX12_first_7 : decode cX12_first 7 = .ok (.iload_n 2, 1) := by decide +kernel
theorem dX12_first_8 : decode cX12_first 8 = .ok (.invokevirtual 323, 3) := by decide +kernel
theorem dX12_first_11 : decode cX12_first 11 = .ok (.ifCond .eq 21, 3) := by decide +kernel
theorem dX12_first_32 : decode cX12_first 32 = .ok (.bipush (-2), 2) := by decide +kernel
theorem dX12_first_34 : decode cX12_first 34 = .ok (.ireturn, 1) := by decide +kernel
theorem dX12_fixed_0 : decode cX12_fixed 0 = .ok (.aload_n 0, 1) := by decide +kernel
theorem dX12_fixed_1 : decode cX12_fixed 1 = .ok (.iconst 0, 1) := by decide +kernel
theorem dX12_fixed_2 : decode cX12_fixed 2 = .ok (.putfield 77, 3) := by decide +kernel
theorem dX12_fixed_5 : decode cX12_fixed 5 = .ok (.aload_n 0, 1) := by decide +kernel
theorem dX12_fixed_6 : decode cX12_fixed 6 = .ok (.iload_n 1, 1) := by decide +kernel
theorem dX12_fixed_7 : decode cX12_fixed 7 = .ok (.invokevirtual 265, 3) := by decide +kernel
theorem dX12_fixed_10 : decode cX12_fixed 10 = .ok (.ifCond .ne 6, 3) := by decide +kernel
theorem dX12_fixed_13 : decode cX12_fixed 13 = .ok (.bipush (-2), 2) := by decide +kernel
theorem dX12_fixed_15 : decode cX12_fixed 15 = .ok (.ireturn, 1) := by decide +kernel
theorem dX12_heard_0 : decode cX12_heard 0 = .ok (.aload_n 0, 1) := by decide +kernel
theorem dX12_heard_1 : decode cX12_heard 1 = .ok (.iconst 0, 1) := by decide +kernel
theorem dX12_heard_2 : decode cX12_heard 2 = .ok (.putfield 77, 3) := by decide +kernel
theorem dX12_heard_5 : decode cX12_heard 5 = .ok (.aload_n 0, 1) := by decide +kernel
theorem dX12_heard_6 : decode cX12_heard 6 = .ok (.iload_n 1, 1) := by decide +kernel
theorem dX12_heard_7 : decode cX12_heard 7 = .ok (.iload_n 2, 1) := by decide +kernel
theorem dX12_heard_8 : decode cX12_heard 8 = .ok (.invokevirtual 323, 3) := by decide +kernel
theorem dX12_heard_11 : decode cX12_heard 11 = .ok (.ifCond .eq 12, 3) := by decide +kernel
theorem dX12_heard_23 : decode cX12_heard 23 = .ok (.bipush (-2), 2) := by decide +kernel
theorem dX12_heard_25 : decode cX12_heard 25 = .ok (.ireturn, 1) := by decide +kernel
theorem dX12_isBook_0 : decode cX12_isBook 0 = .ok (.aload_n 0, 1) := by decide +kernel
theorem dX12_isBook_1 : decode cX12_isBook 1 = .ok (.getfield 31, 3) := by decide +kernel
theorem dX12_isBook_4 : decode cX12_isBook 4 = .ok (.iconst 0, 1) := by decide +kernel
theorem dX12_isBook_5 : decode cX12_isBook 5 = .ok (.iaload, 1) := by decide +kernel
theorem dX12_isBook_6 : decode cX12_isBook 6 = .ok (.ifCond .le 7, 3) := by decide +kernel
theorem dX12_isBook_13 : decode cX12_isBook 13 = .ok (.iconst 0, 1) := by decide +kernel
theorem dX12_isBook_14 : decode cX12_isBook 14 = .ok (.ireturn, 1) := by decide +kernel
theorem dX12_isSlot_0 : decode cX12_isSlot 0 = .ok (.iload_n 0, 1) := by decide +kernel
theorem dX12_isSlot_1 : decode cX12_isSlot 1 = .ok (.i2l, 1) := by decide +kernel
theorem dX12_isSlot_2 : decode cX12_isSlot 2 = .ok (.lconst 0, 1) := by decide +kernel
theorem dX12_isSlot_3 : decode cX12_isSlot 3 = .ok (.ldc2_w 80, 3) := by decide +kernel
theorem dX12_isSlot_6 : decode cX12_isSlot 6 = .ok (.invokestatic 82, 3) := by decide +kernel
theorem dX12_isSlot_9 : decode cX12_isSlot 9 = .ok (.ireturn, 1) := by decide +kernel
theorem dX12_isWords_0 : decode cX12_isWords 0 = .ok (.aload_n 0, 1) := by decide +kernel
theorem dX12_isWords_1 : decode cX12_isWords 1 = .ok (.iload_n 1, 1) := by decide +kernel
theorem dX12_isWords_2 : decode cX12_isWords 2 = .ok (.iload_n 2, 1) := by decide +kernel
theorem dX12_isWords_3 : decode cX12_isWords 3 = .ok (.invokevirtual 323, 3) := by decide +kernel
theorem dX12_isWords_6 : decode cX12_isWords 6 = .ok (.ifCond .eq 28, 3) := by decide +kernel
theorem dX12_isWords_34 : decode cX12_isWords 34 = .ok (.iconst 0, 1) := by decide +kernel
theorem dX12_isWords_35 : decode cX12_isWords 35 = .ok (.ireturn, 1) := by decide +kernel
theorem dX12_kinds_0 : decode cX12_kinds 0 = .ok (.aload_n 0, 1) := by decide +kernel
theorem dX12_kinds_1 : decode cX12_kinds 1 = .ok (.iconst 0, 1) := by decide +kernel
theorem dX12_kinds_2 : decode cX12_kinds 2 = .ok (.putfield 77, 3) := by decide +kernel
theorem dX12_kinds_5 : decode cX12_kinds 5 = .ok (.aload_n 0, 1) := by decide +kernel
theorem dX12_kinds_6 : decode cX12_kinds 6 = .ok (.iload_n 1, 1) := by decide +kernel
theorem dX12_kinds_7 : decode cX12_kinds 7 = .ok (.iload_n 2, 1) := by decide +kernel
theorem dX12_kinds_8 : decode cX12_kinds 8 = .ok (.invokevirtual 323, 3) := by decide +kernel
theorem dX12_kinds_11 : decode cX12_kinds 11 = .ok (.ifCond .eq 12, 3) := by decide +kernel
theorem dX12_kinds_23 : decode cX12_kinds 23 = .ok (.bipush (-2), 2) := by decide +kernel
theorem dX12_kinds_25 : decode cX12_kinds 25 = .ok (.ireturn, 1) := by decide +kernel
theorem dX12_lands_0 : decode cX12_lands 0 = .ok (.aload_n 0, 1) := by decide +kernel
theorem dX12_lands_1 : decode cX12_lands 1 = .ok (.iconst 0, 1) := by decide +kernel
theorem dX12_lands_2 : decode cX12_lands 2 = .ok (.putfield 77, 3) := by decide +kernel
theorem dX12_lands_5 : decode cX12_lands 5 = .ok (.aload_n 0, 1) := by decide +kernel
theorem dX12_lands_6 : decode cX12_lands 6 = .ok (.iload_n 1, 1) := by decide +kernel
theorem dX12_lands_7 : decode cX12_lands 7 = .ok (.aload_n 0, 1) := by decide +kernel
theorem dX12_lands_8 : decode cX12_lands 8 = .ok (.invokevirtual 251, 3) := by decide +kernel
theorem dX12_lands_11 : decode cX12_lands 11 = .ok (.ifCond .eq 14, 3) := by decide +kernel
theorem dX12_lands_25 : decode cX12_lands 25 = .ok (.iconst 0, 1) := by decide +kernel
theorem dX12_lands_26 : decode cX12_lands 26 = .ok (.invokevirtual 393, 3) := by decide +kernel
theorem dX12_lands_29 : decode cX12_lands 29 = .ok (.istore_n 3, 1) := by decide +kernel
theorem dX12_lands_30 : decode cX12_lands 30 = .ok (.iload_n 3, 1) := by decide +kernel
theorem dX12_lands_31 : decode cX12_lands 31 = .ok (.ifCond .eq 5, 3) := by decide +kernel
theorem dX12_lands_34 : decode cX12_lands 34 = .ok (.iload_n 3, 1) := by decide +kernel
theorem dX12_lands_35 : decode cX12_lands 35 = .ok (.ireturn, 1) := by decide +kernel
theorem dX12_leaves_0 : decode cX12_leaves 0 = .ok (.aload_n 0, 1) := by decide +kernel
theorem dX12_leaves_1 : decode cX12_leaves 1 = .ok (.iconst 0, 1) := by decide +kernel
theorem dX12_leaves_2 : decode cX12_leaves 2 = .ok (.putfield 77, 3) := by decide +kernel
theorem dX12_leaves_5 : decode cX12_leaves 5 = .ok (.aload_n 0, 1) := by decide +kernel
theorem dX12_leaves_6 : decode cX12_leaves 6 = .ok (.iload_n 1, 1) := by decide +kernel
theorem dX12_leaves_7 : decode cX12_leaves 7 = .ok (.aload_n 0, 1) := by decide +kernel
theorem dX12_leaves_8 : decode cX12_leaves 8 = .ok (.iload_n 2, 1) := by decide +kernel
theorem dX12_leaves_9 : decode cX12_leaves 9 = .ok (.invokevirtual 265, 3) := by decide +kernel
theorem dX12_leaves_12 : decode cX12_leaves 12 = .ok (.invokevirtual 393, 3) := by decide +kernel
theorem dX12_leaves_15 : decode cX12_leaves 15 = .ok (.istore_n 3, 1) := by decide +kernel
theorem dX12_leaves_16 : decode cX12_leaves 16 = .ok (.iload_n 3, 1) := by decide +kernel
theorem dX12_leaves_17 : decode cX12_leaves 17 = .ok (.ifCond .eq 5, 3) := by decide +kernel
theorem dX12_leaves_20 : decode cX12_leaves 20 = .ok (.iload_n 3, 1) := by decide +kernel
theorem dX12_leaves_21 : decode cX12_leaves 21 = .ok (.ireturn, 1) := by decide +kernel
theorem dX12_like_0 : decode cX12_like 0 = .ok (.aload_n 0, 1) := by decide +kernel
theorem dX12_like_1 : decode cX12_like 1 = .ok (.iconst 0, 1) := by decide +kernel
theorem dX12_like_2 : decode cX12_like 2 = .ok (.putfield 77, 3) := by decide +kernel
theorem dX12_like_5 : decode cX12_like 5 = .ok (.aload_n 0, 1) := by decide +kernel
theorem dX12_like_6 : decode cX12_like 6 = .ok (.iload_n 1, 1) := by decide +kernel
theorem dX12_like_7 : decode cX12_like 7 = .ok (.iload_n 2, 1) := by decide +kernel
theorem dX12_like_8 : decode cX12_like 8 = .ok (.invokevirtual 323, 3) := by decide +kernel
theorem dX12_like_11 : decode cX12_like 11 = .ok (.ifCond .eq 11, 3) := by decide +kernel
theorem dX12_like_22 : decode cX12_like 22 = .ok (.bipush (-2), 2) := by decide +kernel
theorem dX12_like_24 : decode cX12_like 24 = .ok (.ireturn, 1) := by decide +kernel
theorem dX12_lost_0 : decode cX12_lost 0 = .ok (.aload_n 0, 1) := by decide +kernel
theorem dX12_lost_1 : decode cX12_lost 1 = .ok (.iconst 0, 1) := by decide +kernel
theorem dX12_lost_2 : decode cX12_lost 2 = .ok (.putfield 77, 3) := by decide +kernel
theorem dX12_lost_5 : decode cX12_lost 5 = .ok (.aload_n 0, 1) := by decide +kernel
theorem dX12_lost_6 : decode cX12_lost 6 = .ok (.iload_n 1, 1) := by decide +kernel
theorem dX12_lost_7 : decode cX12_lost 7 = .ok (.iload_n 2, 1) := by decide +kernel
theorem dX12_lost_8 : decode cX12_lost 8 = .ok (.invokevirtual 323, 3) := by decide +kernel
theorem dX12_lost_11 : decode cX12_lost 11 = .ok (.ifCond .eq 12, 3) := by decide +kernel
theorem dX12_lost_23 : decode cX12_lost 23 = .ok (.bipush (-2), 2) := by decide +kernel
theorem dX12_lost_25 : decode cX12_lost 25 = .ok (.ireturn, 1) := by decide +kernel
theorem dX12_order_0 : decode cX12_order 0 = .ok (.aload_n 0, 1) := by decide +kernel
theorem dX12_order_1 : decode cX12_order 1 = .ok (.iconst 0, 1) := by decide +kernel
theorem dX12_order_2 : decode cX12_order 2 = .ok (.putfield 77, 3) := by decide +kernel
theorem dX12_order_5 : decode cX12_order 5 = .ok (.aload_n 0, 1) := by decide +kernel
theorem dX12_order_6 : decode cX12_order 6 = .ok (.iload_n 1, 1) := by decide +kernel
theorem dX12_order_7 : decode cX12_order 7 = .ok (.invokevirtual 265, 3) := by decide +kernel
theorem dX12_order_10 : decode cX12_order 10 = .ok (.ifCond .eq 11, 3) := by decide +kernel
theorem dX12_order_21 : decode cX12_order 21 = .ok (.bipush (-2), 2) := by decide +kernel
theorem dX12_order_23 : decode cX12_order 23 = .ok (.ireturn, 1) := by decide +kernel
theorem dX12_otherwise_0 : decode cX12_otherwise 0 = .ok (.aload_n 0, 1) := by decide +kernel
theorem dX12_otherwise_1 : decode cX12_otherwise 1 = .ok (.iconst 0, 1) := by decide +kernel
theorem dX12_otherwise_2 : decode cX12_otherwise 2 = .ok (.putfield 77, 3) := by decide +kernel
theorem dX12_otherwise_5 : decode cX12_otherwise 5 = .ok (.aload_n 0, 1) := by decide +kernel
theorem dX12_otherwise_6 : decode cX12_otherwise 6 = .ok (.iload_n 1, 1) := by decide +kernel
theorem dX12_otherwise_7 : decode cX12_otherwise 7 = .ok (.iload_n 2, 1) := by decide +kernel
theorem dX12_otherwise_8 : decode cX12_otherwise 8 = .ok (.invokevirtual 323, 3) := by decide +kernel
theorem dX12_otherwise_11 : decode cX12_otherwise 11 = .ok (.ifCond .eq 11, 3) := by decide +kernel
theorem dX12_otherwise_22 : decode cX12_otherwise 22 = .ok (.bipush (-2), 2) := by decide +kernel
theorem dX12_otherwise_24 : decode cX12_otherwise 24 = .ok (.ireturn, 1) := by decide +kernel
theorem dX12_read_0 : decode cX12_read 0 = .ok (.aload_n 0, 1) := by decide +kernel
theorem dX12_read_1 : decode cX12_read 1 = .ok (.iconst 0, 1) := by decide +kernel
theorem dX12_read_2 : decode cX12_read 2 = .ok (.putfield 77, 3) := by decide +kernel
theorem dX12_read_5 : decode cX12_read 5 = .ok (.aload_n 0, 1) := by decide +kernel
theorem dX12_read_6 : decode cX12_read 6 = .ok (.iload_n 1, 1) := by decide +kernel
theorem dX12_read_7 : decode cX12_read 7 = .ok (.iload_n 2, 1) := by decide +kernel
theorem dX12_read_8 : decode cX12_read 8 = .ok (.invokevirtual 323, 3) := by decide +kernel
theorem dX12_read_11 : decode cX12_read 11 = .ok (.ifCond .eq 12, 3) := by decide +kernel
theorem dX12_read_23 : decode cX12_read 23 = .ok (.bipush (-2), 2) := by decide +kernel
theorem dX12_read_25 : decode cX12_read 25 = .ok (.ireturn, 1) := by decide +kernel
theorem dX12_richest_0 : decode cX12_richest 0 = .ok (.aload_n 0, 1) := by decide +kernel
theorem dX12_richest_1 : decode cX12_richest 1 = .ok (.iconst 0, 1) := by decide +kernel
theorem dX12_richest_2 : decode cX12_richest 2 = .ok (.putfield 77, 3) := by decide +kernel
theorem dX12_richest_5 : decode cX12_richest 5 = .ok (.aload_n 0, 1) := by decide +kernel
theorem dX12_richest_6 : decode cX12_richest 6 = .ok (.iload_n 1, 1) := by decide +kernel
theorem dX12_richest_7 : decode cX12_richest 7 = .ok (.iload_n 2, 1) := by decide +kernel
theorem dX12_richest_8 : decode cX12_richest 8 = .ok (.invokevirtual 323, 3) := by decide +kernel
theorem dX12_richest_11 : decode cX12_richest 11 = .ok (.ifCond .ne 6, 3) := by decide +kernel
theorem dX12_richest_14 : decode cX12_richest 14 = .ok (.bipush (-2), 2) := by decide +kernel
theorem dX12_richest_16 : decode cX12_richest 16 = .ok (.ireturn, 1) := by decide +kernel
theorem dX12_run_0 : decode cX12_run 0 = .ok (.aload_n 0, 1) := by decide +kernel
theorem dX12_run_1 : decode cX12_run 1 = .ok (.iconst 0, 1) := by decide +kernel
theorem dX12_run_2 : decode cX12_run 2 = .ok (.putfield 77, 3) := by decide +kernel
theorem dX12_run_5 : decode cX12_run 5 = .ok (.aload_n 0, 1) := by decide +kernel
theorem dX12_run_6 : decode cX12_run 6 = .ok (.iload_n 1, 1) := by decide +kernel
theorem dX12_run_7 : decode cX12_run 7 = .ok (.invokevirtual 265, 3) := by decide +kernel
theorem dX12_run_10 : decode cX12_run 10 = .ok (.ifCond .eq 12, 3) := by decide +kernel
theorem dX12_run_22 : decode cX12_run 22 = .ok (.bipush (-2), 2) := by decide +kernel
theorem dX12_run_24 : decode cX12_run 24 = .ok (.ireturn, 1) := by decide +kernel
theorem dX12_silent_0 : decode cX12_silent 0 = .ok (.aload_n 0, 1) := by decide +kernel
theorem dX12_silent_1 : decode cX12_silent 1 = .ok (.iconst 0, 1) := by decide +kernel
theorem dX12_silent_2 : decode cX12_silent 2 = .ok (.putfield 77, 3) := by decide +kernel
theorem dX12_silent_5 : decode cX12_silent 5 = .ok (.aload_n 0, 1) := by decide +kernel
theorem dX12_silent_6 : decode cX12_silent 6 = .ok (.iload_n 1, 1) := by decide +kernel
theorem dX12_silent_7 : decode cX12_silent 7 = .ok (.iload_n 2, 1) := by decide +kernel
theorem dX12_silent_8 : decode cX12_silent 8 = .ok (.invokevirtual 323, 3) := by decide +kernel
theorem dX12_silent_11 : decode cX12_silent 11 = .ok (.ifCond .eq 12, 3) := by decide +kernel
theorem dX12_silent_23 : decode cX12_silent 23 = .ok (.bipush (-2), 2) := by decide +kernel
theorem dX12_silent_25 : decode cX12_silent 25 = .ok (.ireturn, 1) := by decide +kernel
theorem dX12_sorts_0 : decode cX12_sorts 0 = .ok (.aload_n 0, 1) := by decide +kernel
theorem dX12_sorts_1 : decode cX12_sorts 1 = .ok (.iconst 0, 1) := by decide +kernel
theorem dX12_sorts_2 : decode cX12_sorts 2 = .ok (.putfield 77, 3) := by decide +kernel
theorem dX12_sorts_5 : decode cX12_sorts 5 = .ok (.aload_n 0, 1) := by decide +kernel
theorem dX12_sorts_6 : decode cX12_sorts 6 = .ok (.iload_n 1, 1) := by decide +kernel
theorem dX12_sorts_7 : decode cX12_sorts 7 = .ok (.invokevirtual 265, 3) := by decide +kernel
theorem dX12_sorts_10 : decode cX12_sorts 10 = .ok (.ifCond .eq 12, 3) := by decide +kernel
theorem dX12_sorts_22 : decode cX12_sorts 22 = .ok (.bipush (-2), 2) := by decide +kernel
theorem dX12_sorts_24 : decode cX12_sorts 24 = .ok (.ireturn, 1) := by decide +kernel
theorem dX12_stays_0 : decode cX12_stays 0 = .ok (.aload_n 0, 1) := by decide +kernel
theorem dX12_stays_1 : decode cX12_stays 1 = .ok (.iconst 0, 1) := by decide +kernel
theorem dX12_stays_2 : decode cX12_stays 2 = .ok (.putfield 77, 3) := by decide +kernel
theorem dX12_stays_5 : decode cX12_stays 5 = .ok (.aload_n 0, 1) := by decide +kernel
theorem dX12_stays_6 : decode cX12_stays 6 = .ok (.iload_n 1, 1) := by decide +kernel
theorem dX12_stays_7 : decode cX12_stays 7 = .ok (.iload_n 2, 1) := by decide +kernel
theorem dX12_stays_8 : decode cX12_stays 8 = .ok (.invokevirtual 323, 3) := by decide +kernel
theorem dX12_stays_11 : decode cX12_stays 11 = .ok (.ifCond .ne 6, 3) := by decide +kernel
theorem dX12_stays_14 : decode cX12_stays 14 = .ok (.bipush (-2), 2) := by decide +kernel
theorem dX12_stays_16 : decode cX12_stays 16 = .ok (.ireturn, 1) := by decide +kernel
theorem dX12_torn_0 : decode cX12_torn 0 = .ok (.aload_n 0, 1) := by decide +kernel
theorem dX12_torn_1 : decode cX12_torn 1 = .ok (.iconst 0, 1) := by decide +kernel
theorem dX12_torn_2 : decode cX12_torn 2 = .ok (.putfield 77, 3) := by decide +kernel
theorem dX12_torn_5 : decode cX12_torn 5 = .ok (.aload_n 0, 1) := by decide +kernel
theorem dX12_torn_6 : decode cX12_torn 6 = .ok (.iload_n 1, 1) := by decide +kernel
theorem dX12_torn_7 : decode cX12_torn 7 = .ok (.aload_n 0, 1) := by decide +kernel
theorem dX12_torn_8 : decode cX12_torn 8 = .ok (.iload_n 2, 1) := by decide +kernel
theorem dX12_torn_9 : decode cX12_torn 9 = .ok (.invokevirtual 265, 3) := by decide +kernel
theorem dX12_torn_12 : decode cX12_torn 12 = .ok (.invokevirtual 393, 3) := by decide +kernel
theorem dX12_torn_15 : decode cX12_torn 15 = .ok (.istore_n 3, 1) := by decide +kernel
theorem dX12_torn_16 : decode cX12_torn 16 = .ok (.iload_n 3, 1) := by decide +kernel
theorem dX12_torn_17 : decode cX12_torn 17 = .ok (.ifCond .eq 5, 3) := by decide +kernel
theorem dX12_torn_20 : decode cX12_torn 20 = .ok (.iload_n 3, 1) := by decide +kernel
theorem dX12_torn_21 : decode cX12_torn 21 = .ok (.ireturn, 1) := by decide +kernel
theorem dX12_turned_0 : decode cX12_turned 0 = .ok (.aload_n 0, 1) := by decide +kernel
theorem dX12_turned_1 : decode cX12_turned 1 = .ok (.iconst 0, 1) := by decide +kernel
theorem dX12_turned_2 : decode cX12_turned 2 = .ok (.putfield 77, 3) := by decide +kernel
theorem dX12_turned_5 : decode cX12_turned 5 = .ok (.aload_n 0, 1) := by decide +kernel
theorem dX12_turned_6 : decode cX12_turned 6 = .ok (.iload_n 1, 1) := by decide +kernel
theorem dX12_turned_7 : decode cX12_turned 7 = .ok (.invokevirtual 265, 3) := by decide +kernel
theorem dX12_turned_10 : decode cX12_turned 10 = .ok (.ifCond .eq 18, 3) := by decide +kernel
theorem dX12_turned_28 : decode cX12_turned 28 = .ok (.bipush (-2), 2) := by decide +kernel
theorem dX12_turned_30 : decode cX12_turned 30 = .ok (.ireturn, 1) := by decide +kernel
theorem dX12_whyNot_0 : decode cX12_whyNot 0 = .ok (.iload_n 1, 1) := by decide +kernel
theorem dX12_whyNot_1 : decode cX12_whyNot 1 = .ok (.invokestatic 86, 3) := by decide +kernel
theorem dX12_whyNot_4 : decode cX12_whyNot 4 = .ok (.ifCond .eq 7, 3) := by decide +kernel
theorem dX12_whyNot_7 : decode cX12_whyNot 7 = .ok (.iload_n 2, 1) := by decide +kernel
theorem dX12_whyNot_8 : decode cX12_whyNot 8 = .ok (.ifCond .ne 6, 3) := by decide +kernel
theorem dX12_whyNot_11 : decode cX12_whyNot 11 = .ok (.bipush (-2), 2) := by decide +kernel
theorem dX12_whyNot_13 : decode cX12_whyNot 13 = .ok (.ireturn, 1) := by decide +kernel
theorem dX12_worded_0 : decode cX12_worded 0 = .ok (.aload_n 0, 1) := by decide +kernel
theorem dX12_worded_1 : decode cX12_worded 1 = .ok (.iconst 0, 1) := by decide +kernel
theorem dX12_worded_2 : decode cX12_worded 2 = .ok (.putfield 77, 3) := by decide +kernel
theorem dX12_worded_5 : decode cX12_worded 5 = .ok (.aload_n 0, 1) := by decide +kernel
theorem dX12_worded_6 : decode cX12_worded 6 = .ok (.iload_n 1, 1) := by decide +kernel
theorem dX12_worded_7 : decode cX12_worded 7 = .ok (.iload_n 2, 1) := by decide +kernel
theorem dX12_worded_8 : decode cX12_worded 8 = .ok (.iload_n 3, 1) := by decide +kernel
theorem dX12_worded_9 : decode cX12_worded 9 = .ok (.iload 4, 2) := by decide +kernel
theorem dX12_worded_11 : decode cX12_worded 11 = .ok (.invokevirtual 412, 3) := by decide +kernel
theorem dX12_worded_14 : decode cX12_worded 14 = .ok (.ifCond .eq 8, 3) := by decide +kernel
theorem dX12_worded_22 : decode cX12_worded 22 = .ok (.bipush (-2), 2) := by decide +kernel
theorem dX12_worded_24 : decode cX12_worded 24 = .ok (.ireturn, 1) := by decide +kernel
theorem dX12_wording_0 : decode cX12_wording 0 = .ok (.aload_n 0, 1) := by decide +kernel
theorem dX12_wording_1 : decode cX12_wording 1 = .ok (.iconst 0, 1) := by decide +kernel
theorem dX12_wording_2 : decode cX12_wording 2 = .ok (.putfield 77, 3) := by decide +kernel
theorem dX12_wording_5 : decode cX12_wording 5 = .ok (.aload_n 0, 1) := by decide +kernel
theorem dX12_wording_6 : decode cX12_wording 6 = .ok (.iload_n 1, 1) := by decide +kernel
theorem dX12_wording_7 : decode cX12_wording 7 = .ok (.iload_n 2, 1) := by decide +kernel
theorem dX12_wording_8 : decode cX12_wording 8 = .ok (.iload_n 3, 1) := by decide +kernel
theorem dX12_wording_9 : decode cX12_wording 9 = .ok (.iload 4, 2) := by decide +kernel
theorem dX12_wording_11 : decode cX12_wording 11 = .ok (.invokevirtual 412, 3) := by decide +kernel
theorem dX12_wording_14 : decode cX12_wording 14 = .ok (.ifCond .ne 6, 3) := by decide +kernel
theorem dX12_wording_17 : decode cX12_wording 17 = .ok (.bipush (-2), 2) := by decide +kernel
theorem dX12_wording_19 : decode cX12_wording 19 = .ok (.ireturn, 1) := by decide +kernel
theorem dX12_worst_0 : decode cX12_worst 0 = .ok (.aload_n 0, 1) := by decide +kernel
theorem dX12_worst_1 : decode cX12_worst 1 = .ok (.iconst 0, 1) := by decide +kernel
theorem dX12_worst_2 : decode cX12_worst 2 = .ok (.putfield 77, 3) := by decide +kernel
theorem dX12_worst_5 : decode cX12_worst 5 = .ok (.aload_n 0, 1) := by decide +kernel
theorem dX12_worst_6 : decode cX12_worst 6 = .ok (.iload_n 1, 1) := by decide +kernel
theorem dX12_worst_7 : decode cX12_worst 7 = .ok (.iload_n 2, 1) := by decide +kernel
theorem dX12_worst_8 : decode cX12_worst 8 = .ok (.invokevirtual 323, 3) := by decide +kernel
theorem dX12_worst_11 : decode cX12_worst 11 = .ok (.ifCond .eq 38, 3) := by decide +kernel
theorem dX12_worst_49 : decode cX12_worst 49 = .ok (.bipush (-2), 2) := by decide +kernel
theorem dX12_worst_51 : decode cX12_worst 51 = .ok (.ireturn, 1) := by decide +kernel
theorem mm_k1000000000 : mm_rg 1000000000 1000000000 1000000000 := ⟨by decide, by decide⟩
theorem mm_km2 : mm_rg (-2) (-2) (-2) := ⟨by decide, by decide⟩
theorem mm_kl3 : mm_rl 3 3 3 := ⟨by decide, by decide⟩
theorem hd_X11_isLandAndText : yX11_isLandAndText.cls = RX11 ∧ yX11_isLandAndText.cls ≠ "java/lang/invoke/MethodHandle" ∧ yX11_isLandAndText.cls ≠ "java/lang/invoke/VarHandle" ∧ (parseMethodDescriptor yX11_isLandAndText.desc).map (fun d => d.parameters.length) = some 2 := by decide +kernel
theorem hd_X11_isReading : yX11_isReading.cls = RX11 ∧ yX11_isReading.cls ≠ "java/lang/invoke/MethodHandle" ∧ yX11_isReading.cls ≠ "java/lang/invoke/VarHandle" ∧ (parseMethodDescriptor yX11_isReading.desc).map (fun d => d.parameters.length) = some 3 := by decide +kernel
theorem hd_X11_isTask : yX11_isTask.cls = RX11 ∧ yX11_isTask.cls ≠ "java/lang/invoke/MethodHandle" ∧ yX11_isTask.cls ≠ "java/lang/invoke/VarHandle" ∧ (parseMethodDescriptor yX11_isTask.desc).map (fun d => d.parameters.length) = some 4 := by decide +kernel
theorem hd_X11_letterTrouble : yX11_letterTrouble.cls = RX11 ∧ yX11_letterTrouble.cls ≠ "java/lang/invoke/MethodHandle" ∧ yX11_letterTrouble.cls ≠ "java/lang/invoke/VarHandle" ∧ (parseMethodDescriptor yX11_letterTrouble.desc).map (fun d => d.parameters.length) = some 3 := by decide +kernel
theorem hd_X12_isBook : yX12_isBook.cls = RX12 ∧ yX12_isBook.cls ≠ "java/lang/invoke/MethodHandle" ∧ yX12_isBook.cls ≠ "java/lang/invoke/VarHandle" ∧ (parseMethodDescriptor yX12_isBook.desc).map (fun d => d.parameters.length) = some 0 := by decide +kernel
theorem hd_X12_isWords : yX12_isWords.cls = RX12 ∧ yX12_isWords.cls ≠ "java/lang/invoke/MethodHandle" ∧ yX12_isWords.cls ≠ "java/lang/invoke/VarHandle" ∧ (parseMethodDescriptor yX12_isWords.desc).map (fun d => d.parameters.length) = some 4 := by decide +kernel
theorem hd_X12_whyNot : yX12_whyNot.cls = RX12 ∧ yX12_whyNot.cls ≠ "java/lang/invoke/MethodHandle" ∧ yX12_whyNot.cls ≠ "java/lang/invoke/VarHandle" ∧ (parseMethodDescriptor yX12_whyNot.desc).map (fun d => d.parameters.length) = some 2 := by decide +kernel
theorem hs_X11_isDay : yX11_isDay.cls ≠ "java/lang/invoke/MethodHandle" ∧ yX11_isDay.cls ≠ "java/lang/invoke/VarHandle" ∧ (parseMethodDescriptor yX11_isDay.desc).map (fun d => d.parameters.length) = some 1 := by decide +kernel
theorem hs_X11_isSlot : yX11_isSlot.cls ≠ "java/lang/invoke/MethodHandle" ∧ yX11_isSlot.cls ≠ "java/lang/invoke/VarHandle" ∧ (parseMethodDescriptor yX11_isSlot.desc).map (fun d => d.parameters.length) = some 1 := by decide +kernel
theorem hs_X12_isSlot : yX12_isSlot.cls ≠ "java/lang/invoke/MethodHandle" ∧ yX12_isSlot.cls ≠ "java/lang/invoke/VarHandle" ∧ (parseMethodDescriptor yX12_isSlot.desc).map (fun d => d.parameters.length) = some 1 := by decide +kernel
set_option maxHeartbeats 4000000 in
set_option maxRecDepth 100000 in
theorem K147_X12_stays (l : Launch) (G : va_G) (cy : Nat → ClassId) (sz : Nat) (a_0 : Nat) (i_0 : Int32) (i_1 : Int32) (a_1 : Nat) (a_2 : Nat) (a_3 : Nat) (a_4 : Nat) (a_5 : Nat) (k_0 : Int32) (k_1 : Int32) (k_2 : Int32) (k_3 : Int32) (k_4 : Int32) (k_5 : Int64) (k_6 : Int32) (k_7 : Int32) (k_8 : Int32) (k_9 : Int32) (a_6 : Nat) (a_7 : Nat) (a_8 : Nat) (a_9 : Nat) (a_10 : Nat) (a_11 : Nat) (a_12 : Nat) (a_13 : Nat) (a_14 : Nat) (a_15 : Nat) (a_16 : Nat) (a_17 : Nat) (a_18 : Nat) (k_10 : Int32) (k_11 : Int32) (k_12 : Int32) (k_13 : Int32) (k_14 : Int32) (k_15 : Int32) (a_19 : Nat) (k_16 : Int32) (a_20 : Nat)   : mm_CI l yX12_stays (mm_ws yX12_stays cX12_stays 5 (some .int)) ({ frames := 3, cells := 0, slots := 0, locals := 68 } : Room) G cy sz [(a_0, .inr (12, [.int 0, .ref a_1, .ref a_2, .ref a_3, .ref a_4, .ref a_5, .int k_0, .int k_1, .int k_2, .int k_3, .int k_4, .long k_5, .int k_6, .int k_7, .int k_8, .int k_9, .ref a_6, .ref a_7, .ref a_8, .ref a_9, .ref a_10, .ref a_11, .ref a_12, .ref a_13, .ref a_14, .ref a_15, .ref a_16, .ref a_17, .ref a_18, .int k_10, .int k_11, .int k_12, .int k_13, .int k_14, .int k_15, .ref a_19, .int k_16, .ref a_20])), (a_7, .inl (cy 1, 30, .inl (fun _ => 0)))] [.ref a_0, .int i_0, .int i_1] (fun u : Unit => [(a_0, .inr (12, [.int 0, .ref a_1, .ref a_2, .ref a_3, .ref a_4, .ref a_5, .int k_0, .int k_1, .int k_2, .int k_3, .int k_4, .long k_5, .int k_6, .int k_7, .int k_8, .int k_9, .ref a_6, .ref a_7, .ref a_8, .ref a_9, .ref a_10, .ref a_11, .ref a_12, .ref a_13, .ref a_14, .ref a_15, .ref a_16, .ref a_17, .ref a_18, .int k_10, .int k_11, .int k_12, .int k_13, .int k_14, .int k_15, .ref a_19, .int k_16, .ref a_20])), (a_7, .inl (cy 1, 30, .inl (fun _ => 0)))]) (fun (r : Int32) (u : Unit) => (-2) = r) 0 0 := by
  refine mm_begin (lv := [(0, .ref a_0), (1, .int i_0), (2, .int i_1)]) (by decide) (Nat.le_of_ble_eq_true rfl) rfl ?_
  intro p e s m below meth c A ls R args Q H locs hRe hQ hAe hx hb hr hlocks hml hown hnm hts hsz hA hS hP hK hD hl
  have hRf : R.frames = 3 := by rw [hRe]
  have hRl : R.locals = 68 := by rw [hRe]
  have hRc : R.cells = 0 := by rw [hRe]
  have hRs : R.slots = 0 := by rw [hRe]
  refine lv_aload_n hx hb dX12_stays_0 rfl (lv_at hl 0 rfl) ?_
  refine lv_iconst (v := 0) hx hb dX12_stays_1 (by decide) ?_
  refine va_put (D := G) (ci := 12) (v := .int 0) (ty := tyX12 0) (C := RX12) (T := TX12) (N := 38) hx hb hts (mm_i inlX12) tyX12 tyX12_ok nmX12 hown hK.1 hP hD hS 0 rfl rfl 0 (by decide) (mm_h hts mm_w177) (fun _ h9 => h9) rfl (tyX12_ok 0 (by decide)) rfl rfl (Nat.le_of_ble_eq_true rfl) dX12_stays_2 ?_
  clear hP hD hS
  clear H locs
  intro H locs (hP : va_P G vwCl [(a_0, .inr (12, [.int 0, .ref a_1, .ref a_2, .ref a_3, .ref a_4, .ref a_5, .int k_0, .int k_1, .int k_2, .int k_3, .int k_4, .long k_5, .int k_6, .int k_7, .int k_8, .int k_9, .ref a_6, .ref a_7, .ref a_8, .ref a_9, .ref a_10, .ref a_11, .ref a_12, .ref a_13, .ref a_14, .ref a_15, .ref a_16, .ref a_17, .ref a_18, .int k_10, .int k_11, .int k_12, .int k_13, .int k_14, .int k_15, .ref a_19, .int k_16, .ref a_20])), (a_7, .inl (cy 1, 30, .inl (fun _ => 0)))] H) (hD : va_D A [(a_0, .inr (12, [.int 0, .ref a_1, .ref a_2, .ref a_3, .ref a_4, .ref a_5, .int k_0, .int k_1, .int k_2, .int k_3, .int k_4, .long k_5, .int k_6, .int k_7, .int k_8, .int k_9, .ref a_6, .ref a_7, .ref a_8, .ref a_9, .ref a_10, .ref a_11, .ref a_12, .ref a_13, .ref a_14, .ref a_15, .ref a_16, .ref a_17, .ref a_18, .int k_10, .int k_11, .int k_12, .int k_13, .int k_14, .int k_15, .ref a_19, .int k_16, .ref a_20])), (a_7, .inl (cy 1, 30, .inl (fun _ => 0)))]) hS
  refine lv_aload_n hx hb dX12_stays_5 rfl (lv_at hl 0 rfl) ?_
  refine lv_iload_n hx hb dX12_stays_6 rfl (lv_at hl 1 rfl) ?_
  refine lv_iload_n hx hb dX12_stays_7 rfl (lv_at hl 2 rfl) ?_
  refine mm_finir (va_runV (As := [.int i_0, .int i_1]) (rest := []) ⟨hx, hb, hml, hown, hts⟩ (K131_X12_isThen l G cy H.size a_0 i_0 i_1 0 a_1 a_2 a_3 a_4 a_5 k_0 k_1 k_2 k_3 k_4 k_5 k_6 k_7 k_8 k_9 a_6 a_7 a_8 a_9 a_10 a_11 a_12 a_13 a_14 a_15 a_16 a_17 a_18 k_10 k_11 k_12 k_13 k_14 k_15 a_19 k_16 a_20 ) (cwV 2 hts (mm_gV mm_w678 mm_w679 mm_w680 mm_w5 mm_w681) rfl rfl rfl hd_X12_isThen ⟨by rw [hRf]; exact Nat.le_of_ble_eq_true rfl, by rw [hRl]; exact Nat.le_of_ble_eq_true rfl⟩) (mm_preV hK hP hD [0, 1] rfl rfl 0 rfl rfl rfl) rfl rfl hl.1 rfl (lv_room (Nat.le_of_ble_eq_true rfl)) dX12_stays_8 ⟨by rw [hRc]; exact Nat.le_of_ble_eq_true rfl, by rw [hRs]; exact Nat.le_of_ble_eq_true rfl⟩) hP hD hS hA [0, 1] rfl (fun _ => rfl) ?_
  clear hP hD hS
  clear H locs
  intro v1 _u H locs hw hP hD hS
  subst hw
  refine lv_if_ne (tgt := 17) hx hb dX12_stays_11 (by decide) (fun c2 => ?_) (fun c2 => ?_)
  · have q3 := mm_neL (lo := 1) (mm_ne c2) mm_k0 mm_k0 (by decide) (by decide)
    exact mm_no q3 (by decide)
  · refine lv_bipush (v := (-2)) hx hb dX12_stays_14 (by decide) ?_
    subst hAe
    rw [hQ]
    exact W.iret (v := (-2)) hx hb hr (fun t ht hW => ⟨⟨(-2), (), rfl, rfl, by rw [ht]; exact hP, hK.warm hW, hD⟩, hS.F ht⟩) hS.2.2 dX12_stays_16

set_option maxHeartbeats 4000000 in
set_option maxRecDepth 100000 in
theorem K148_X11_isReading (l : Launch) (G : va_G) (cy : Nat → ClassId) (sz : Nat) (a_0 : Nat) (i_0 : Int32) (i_1 : Int32) (i_2 : Int32) (a_1 : Nat) (a_2 : Nat) (a_3 : Nat) (a_4 : Nat) (a_5 : Nat) (a_6 : Nat) (a_7 : Nat) (a_8 : Nat) (a_9 : Nat) (a_10 : Nat) (a_11 : Nat) (a_24 : Nat) (a_25 : Nat) (k_0 : Int32) (k_1 : Int32) (k_2 : Int32) (k_3 : Int32) (k_4 : Int32) (k_5 : Int32) (k_6 : Int32) (a_26 : Nat) (a_27 : Nat) (a_28 : Nat) (a_29 : Nat) (a_30 : Nat) (a_31 : Nat) (a_32 : Nat) (a_33 : Nat) (a_34 : Nat) (a_35 : Nat)   : mm_CI l yX11_isReading (mm_ws yX11_isReading cX11_isReading 4 (some .boolean)) ({ frames := 1, cells := 0, slots := 0, locals := 21 } : Room) G cy sz [(a_0, .inr (11, [.ref a_1, .ref a_2, .ref a_3, .ref a_4, .ref a_5, .ref a_6, .ref a_7, .ref a_8, .ref a_9, .ref a_10, .ref a_11])), (a_3, .inr (10, [.ref a_24, .ref a_25])), (a_24, .inr (0, [.int k_0, .int k_1, .int k_2, .int k_3, .int k_4, .int 0, .int k_5, .int k_6, .ref a_26, .ref a_27, .ref a_28, .ref a_29, .ref a_30, .ref a_31, .ref a_32, .ref a_33, .ref a_34, .ref a_35]))] [.ref a_0, .int i_0, .int i_1, .int i_2] (fun u : Unit => [(a_0, .inr (11, [.ref a_1, .ref a_2, .ref a_3, .ref a_4, .ref a_5, .ref a_6, .ref a_7, .ref a_8, .ref a_9, .ref a_10, .ref a_11])), (a_3, .inr (10, [.ref a_24, .ref a_25])), (a_24, .inr (0, [.int k_0, .int k_1, .int k_2, .int k_3, .int k_4, .int 0, .int k_5, .int k_6, .ref a_26, .ref a_27, .ref a_28, .ref a_29, .ref a_30, .ref a_31, .ref a_32, .ref a_33, .ref a_34, .ref a_35]))]) (fun (r : Int32) (u : Unit) => 0 = r) 0 0 := by
  refine mm_begin (lv := [(0, .ref a_0), (1, .int i_0), (2, .int i_1), (3, .int i_2)]) (by decide) (Nat.le_of_ble_eq_true rfl) rfl ?_
  intro p e s m below meth c A ls R args Q H locs hRe hQ hAe hx hb hr hlocks hml hown hnm hts hsz hA hS hP hK hD hl
  have hRf : R.frames = 1 := by rw [hRe]
  have hRl : R.locals = 21 := by rw [hRe]
  have hRc : R.cells = 0 := by rw [hRe]
  have hRs : R.slots = 0 := by rw [hRe]
  refine lv_aload_n hx hb dX11_isReading_0 rfl (lv_at hl 0 rfl) ?_
  refine lv_iload_n hx hb dX11_isReading_1 rfl (lv_at hl 1 rfl) ?_
  refine mm_finir (va_runV (As := [.int i_0]) (rest := []) ⟨hx, hb, hml, hown, hts⟩ (K123_X11_isLand l G cy H.size a_0 i_0 a_1 a_2 a_3 a_4 a_5 a_6 a_7 a_8 a_9 a_10 a_11 a_24 a_25 k_0 k_1 k_2 k_3 k_4 k_5 k_6 a_26 a_27 a_28 a_29 a_30 a_31 a_32 a_33 a_34 a_35 ) (cwV 1 hts (mm_gV mm_w626 mm_w627 mm_w628 mm_w2 mm_w629) rfl rfl rfl hd_X11_isLand ⟨by rw [hRf]; exact Nat.le_of_ble_eq_true rfl, by rw [hRl]; exact Nat.le_of_ble_eq_true rfl⟩) (mm_preV hK hP hD [0, 1, 2] rfl rfl 0 rfl rfl rfl) rfl rfl hl.1 rfl (lv_room (Nat.le_of_ble_eq_true rfl)) dX11_isReading_2 ⟨by rw [hRc]; exact Nat.le_of_ble_eq_true rfl, by rw [hRs]; exact Nat.le_of_ble_eq_true rfl⟩) hP hD hS hA [0, 1, 2] rfl (fun _ => rfl) ?_
  clear hP hD hS
  clear H locs
  intro v1 _u H locs hw hP hD hS
  subst hw
  refine lv_if_eq (tgt := 27) hx hb dX11_isReading_5 (by decide) (fun c2 => ?_) (fun c2 => ?_)
  · refine lv_iconst (v := 0) hx hb dX11_isReading_27 (by decide) ?_
    subst hAe
    rw [hQ]
    exact W.zret (v := 0) hx hb hr rfl (fun t ht hW => ⟨⟨0, (), rfl, rfl, by rw [ht]; exact hP, hK.warm hW, hD⟩, hS.F ht⟩) hS.2.2 dX11_isReading_28
  · have q3 := mm_neL (lo := 1) (mm_ne c2) mm_k0 mm_k0 (by decide) (by decide)
    exact mm_no q3 (by decide)

set_option maxHeartbeats 4000000 in
set_option maxRecDepth 100000 in
theorem K150_X11_isReading (l : Launch) (G : va_G) (cy : Nat → ClassId) (sz : Nat) (a_0 : Nat) (i_0 : Int32) (i_1 : Int32) (i_2 : Int32) (a_1 : Nat) (a_2 : Nat) (a_3 : Nat) (a_4 : Nat) (a_5 : Nat) (a_6 : Nat) (a_7 : Nat) (a_8 : Nat) (a_9 : Nat) (a_10 : Nat) (a_11 : Nat) (a_12 : Nat) (a_13 : Nat) (i_3 : Int32) (i_4 : Int32) (i_5 : Int32) (i_6 : Int32) (i_7 : Int32) (i_8 : Int32) (i_9 : Int32) (a_14 : Nat) (a_15 : Nat) (a_16 : Nat) (a_17 : Nat) (a_18 : Nat) (a_19 : Nat) (a_20 : Nat) (a_21 : Nat) (a_22 : Nat) (a_23 : Nat)   : mm_CI l yX11_isReading (mm_ws yX11_isReading cX11_isReading 4 (some .boolean)) ({ frames := 1, cells := 0, slots := 0, locals := 21 } : Room) G cy sz [(a_0, .inr (11, [.ref a_1, .ref a_2, .ref a_3, .ref a_4, .ref a_5, .ref a_6, .ref a_7, .ref a_8, .ref a_9, .ref a_10, .ref a_11])), (a_3, .inr (10, [.ref a_12, .ref a_13])), (a_12, .inr (0, [.int i_3, .int i_4, .int i_5, .int i_6, .int i_7, .int 0, .int i_8, .int i_9, .ref a_14, .ref a_15, .ref a_16, .ref a_17, .ref a_18, .ref a_19, .ref a_20, .ref a_21, .ref a_22, .ref a_23]))] [.ref a_0, .int i_0, .int i_1, .int i_2] (fun u : Unit => [(a_0, .inr (11, [.ref a_1, .ref a_2, .ref a_3, .ref a_4, .ref a_5, .ref a_6, .ref a_7, .ref a_8, .ref a_9, .ref a_10, .ref a_11])), (a_3, .inr (10, [.ref a_12, .ref a_13])), (a_12, .inr (0, [.int i_3, .int i_4, .int i_5, .int i_6, .int i_7, .int 0, .int i_8, .int i_9, .ref a_14, .ref a_15, .ref a_16, .ref a_17, .ref a_18, .ref a_19, .ref a_20, .ref a_21, .ref a_22, .ref a_23]))]) (fun (r : Int32) (u : Unit) => 0 = r) 0 0 := by
  refine mm_begin (lv := [(0, .ref a_0), (1, .int i_0), (2, .int i_1), (3, .int i_2)]) (by decide) (Nat.le_of_ble_eq_true rfl) rfl ?_
  intro p e s m below meth c A ls R args Q H locs hRe hQ hAe hx hb hr hlocks hml hown hnm hts hsz hA hS hP hK hD hl
  have hRf : R.frames = 1 := by rw [hRe]
  have hRl : R.locals = 21 := by rw [hRe]
  have hRc : R.cells = 0 := by rw [hRe]
  have hRs : R.slots = 0 := by rw [hRe]
  refine lv_aload_n hx hb dX11_isReading_0 rfl (lv_at hl 0 rfl) ?_
  refine lv_iload_n hx hb dX11_isReading_1 rfl (lv_at hl 1 rfl) ?_
  refine mm_finir (va_runV (As := [.int i_0]) (rest := []) ⟨hx, hb, hml, hown, hts⟩ (K123_X11_isLand l G cy H.size a_0 i_0 a_1 a_2 a_3 a_4 a_5 a_6 a_7 a_8 a_9 a_10 a_11 a_12 a_13 i_3 i_4 i_5 i_6 i_7 i_8 i_9 a_14 a_15 a_16 a_17 a_18 a_19 a_20 a_21 a_22 a_23 ) (cwV 1 hts (mm_gV mm_w626 mm_w627 mm_w628 mm_w2 mm_w629) rfl rfl rfl hd_X11_isLand ⟨by rw [hRf]; exact Nat.le_of_ble_eq_true rfl, by rw [hRl]; exact Nat.le_of_ble_eq_true rfl⟩) (mm_preV hK hP hD [0, 1, 2] rfl rfl 0 rfl rfl rfl) rfl rfl hl.1 rfl (lv_room (Nat.le_of_ble_eq_true rfl)) dX11_isReading_2 ⟨by rw [hRc]; exact Nat.le_of_ble_eq_true rfl, by rw [hRs]; exact Nat.le_of_ble_eq_true rfl⟩) hP hD hS hA [0, 1, 2] rfl (fun _ => rfl) ?_
  clear hP hD hS
  clear H locs
  intro v1 _u H locs hw hP hD hS
  subst hw
  refine lv_if_eq (tgt := 27) hx hb dX11_isReading_5 (by decide) (fun c2 => ?_) (fun c2 => ?_)
  · refine lv_iconst (v := 0) hx hb dX11_isReading_27 (by decide) ?_
    subst hAe
    rw [hQ]
    exact W.zret (v := 0) hx hb hr rfl (fun t ht hW => ⟨⟨0, (), rfl, rfl, by rw [ht]; exact hP, hK.warm hW, hD⟩, hS.F ht⟩) hS.2.2 dX11_isReading_28
  · have q3 := mm_neL (lo := 1) (mm_ne c2) mm_k0 mm_k0 (by decide) (by decide)
    exact mm_no q3 (by decide)

set_option maxHeartbeats 4000000 in
set_option maxRecDepth 100000 in
theorem K149_X11_read (l : Launch) (G : va_G) (cy : Nat → ClassId) (sz : Nat) (a_0 : Nat) (i_0 : Int32) (i_1 : Int32) (i_2 : Int32) (a_1 : Nat) (a_2 : Nat) (a_3 : Nat) (a_4 : Nat) (a_5 : Nat) (a_6 : Nat) (a_7 : Nat) (a_8 : Nat) (a_9 : Nat) (a_10 : Nat) (a_11 : Nat) (a_24 : Nat) (a_25 : Nat) (k_0 : Int32) (k_1 : Int32) (k_2 : Int32) (k_3 : Int32) (k_4 : Int32) (k_5 : Int32) (k_6 : Int32) (a_26 : Nat) (a_27 : Nat) (a_28 : Nat) (a_29 : Nat) (a_30 : Nat) (a_31 : Nat) (a_32 : Nat) (a_33 : Nat) (a_34 : Nat) (a_35 : Nat)   : mm_CI l yX11_read (mm_ws yX11_read cX11_read 4 (some .int)) ({ frames := 2, cells := 0, slots := 0, locals := 44 } : Room) G cy sz [(a_0, .inr (11, [.ref a_1, .ref a_2, .ref a_3, .ref a_4, .ref a_5, .ref a_6, .ref a_7, .ref a_8, .ref a_9, .ref a_10, .ref a_11])), (a_3, .inr (10, [.ref a_24, .ref a_25])), (a_24, .inr (0, [.int k_0, .int k_1, .int k_2, .int k_3, .int k_4, .int 0, .int k_5, .int k_6, .ref a_26, .ref a_27, .ref a_28, .ref a_29, .ref a_30, .ref a_31, .ref a_32, .ref a_33, .ref a_34, .ref a_35]))] [.ref a_0, .int i_0, .int i_1, .int i_2] (fun u : Unit => [(a_0, .inr (11, [.ref a_1, .ref a_2, .ref a_3, .ref a_4, .ref a_5, .ref a_6, .ref a_7, .ref a_8, .ref a_9, .ref a_10, .ref a_11])), (a_3, .inr (10, [.ref a_24, .ref a_25])), (a_24, .inr (0, [.int k_0, .int k_1, .int k_2, .int k_3, .int k_4, .int 0, .int k_5, .int k_6, .ref a_26, .ref a_27, .ref a_28, .ref a_29, .ref a_30, .ref a_31, .ref a_32, .ref a_33, .ref a_34, .ref a_35]))]) (fun (r : Int32) (u : Unit) => (-2) = r) 0 0 := by
  refine mm_begin (lv := [(0, .ref a_0), (1, .int i_0), (2, .int i_1), (3, .int i_2)]) (by decide) (Nat.le_of_ble_eq_true rfl) rfl ?_
  intro p e s m below meth c A ls R args Q H locs hRe hQ hAe hx hb hr hlocks hml hown hnm hts hsz hA hS hP hK hD hl
  have hRf : R.frames = 2 := by rw [hRe]
  have hRl : R.locals = 44 := by rw [hRe]
  have hRc : R.cells = 0 := by rw [hRe]
  have hRs : R.slots = 0 := by rw [hRe]
  refine lv_aload_n hx hb dX11_read_0 rfl (lv_at hl 0 rfl) ?_
  refine lv_iload_n hx hb dX11_read_1 rfl (lv_at hl 1 rfl) ?_
  refine lv_iload_n hx hb dX11_read_2 rfl (lv_at hl 2 rfl) ?_
  refine lv_iload_n hx hb dX11_read_3 rfl (lv_at hl 3 rfl) ?_
  refine mm_finir (va_runV (As := [.int i_0, .int i_1, .int i_2]) (rest := []) ⟨hx, hb, hml, hown, hts⟩ (K150_X11_isReading l G cy H.size a_0 i_0 i_1 i_2 a_1 a_2 a_3 a_4 a_5 a_6 a_7 a_8 a_9 a_10 a_11 a_24 a_25 k_0 k_1 k_2 k_3 k_4 k_5 k_6 a_26 a_27 a_28 a_29 a_30 a_31 a_32 a_33 a_34 a_35 ) (cwV 3 hts (mm_gV mm_w825 mm_w826 mm_w827 mm_w2 mm_w828) rfl rfl rfl hd_X11_isReading ⟨by rw [hRf]; exact Nat.le_of_ble_eq_true rfl, by rw [hRl]; exact Nat.le_of_ble_eq_true rfl⟩) (mm_preV hK hP hD [0, 1, 2] rfl rfl 0 rfl rfl rfl) rfl rfl hl.1 rfl (lv_room (Nat.le_of_ble_eq_true rfl)) dX11_read_4 ⟨by rw [hRc]; exact Nat.le_of_ble_eq_true rfl, by rw [hRs]; exact Nat.le_of_ble_eq_true rfl⟩) hP hD hS hA [0, 1, 2] rfl (fun _ => rfl) ?_
  clear hP hD hS
  clear H locs
  intro v1 _u H locs hw hP hD hS
  subst hw
  refine lv_if_eq (tgt := 23) hx hb dX11_read_7 (by decide) (fun c2 => ?_) (fun c2 => ?_)
  · refine lv_bipush (v := (-2)) hx hb dX11_read_23 (by decide) ?_
    subst hAe
    rw [hQ]
    exact W.iret (v := (-2)) hx hb hr (fun t ht hW => ⟨⟨(-2), (), rfl, rfl, by rw [ht]; exact hP, hK.warm hW, hD⟩, hS.F ht⟩) hS.2.2 dX11_read_25
  · have q3 := mm_neL (lo := 1) (mm_ne c2) mm_k0 mm_k0 (by decide) (by decide)
    exact mm_no q3 (by decide)

set_option maxHeartbeats 4000000 in
set_option maxRecDepth 100000 in
theorem K151_X12_read (l : Launch) (G : va_G) (cy : Nat → ClassId) (sz : Nat) (a_0 : Nat) (i_0 : Int32) (i_1 : Int32) (i_2 : Int32) (a_1 : Nat) (a_2 : Nat) (a_3 : Nat) (a_4 : Nat) (a_5 : Nat) (k_0 : Int32) (k_1 : Int32) (k_2 : Int32) (k_3 : Int32) (k_4 : Int32) (k_5 : Int64) (k_6 : Int32) (k_7 : Int32) (k_8 : Int32) (k_9 : Int32) (a_6 : Nat) (a_7 : Nat) (a_8 : Nat) (a_9 : Nat) (a_10 : Nat) (a_11 : Nat) (a_12 : Nat) (a_13 : Nat) (a_14 : Nat) (a_15 : Nat) (a_16 : Nat) (a_17 : Nat) (a_18 : Nat) (k_10 : Int32) (k_11 : Int32) (k_12 : Int32) (k_13 : Int32) (k_14 : Int32) (k_15 : Int32) (a_19 : Nat) (k_16 : Int32) (a_20 : Nat)   : mm_CI l yX12_read (mm_ws yX12_read cX12_read 4 (some .int)) ({ frames := 3, cells := 0, slots := 0, locals := 68 } : Room) G cy sz [(a_0, .inr (12, [.int 0, .ref a_1, .ref a_2, .ref a_3, .ref a_4, .ref a_5, .int k_0, .int k_1, .int k_2, .int k_3, .int k_4, .long k_5, .int k_6, .int k_7, .int k_8, .int k_9, .ref a_6, .ref a_7, .ref a_8, .ref a_9, .ref a_10, .ref a_11, .ref a_12, .ref a_13, .ref a_14, .ref a_15, .ref a_16, .ref a_17, .ref a_18, .int k_10, .int k_11, .int k_12, .int k_13, .int k_14, .int k_15, .ref a_19, .int k_16, .ref a_20])), (a_7, .inl (cy 1, 30, .inl (fun _ => 0)))] [.ref a_0, .int i_0, .int i_1, .int i_2] (fun u : Unit => [(a_0, .inr (12, [.int 0, .ref a_1, .ref a_2, .ref a_3, .ref a_4, .ref a_5, .int k_0, .int k_1, .int k_2, .int k_3, .int k_4, .long k_5, .int k_6, .int k_7, .int k_8, .int k_9, .ref a_6, .ref a_7, .ref a_8, .ref a_9, .ref a_10, .ref a_11, .ref a_12, .ref a_13, .ref a_14, .ref a_15, .ref a_16, .ref a_17, .ref a_18, .int k_10, .int k_11, .int k_12, .int k_13, .int k_14, .int k_15, .ref a_19, .int k_16, .ref a_20])), (a_7, .inl (cy 1, 30, .inl (fun _ => 0)))]) (fun (r : Int32) (u : Unit) => (-2) = r) 0 0 := by
  refine mm_begin (lv := [(0, .ref a_0), (1, .int i_0), (2, .int i_1), (3, .int i_2)]) (by decide) (Nat.le_of_ble_eq_true rfl) rfl ?_
  intro p e s m below meth c A ls R args Q H locs hRe hQ hAe hx hb hr hlocks hml hown hnm hts hsz hA hS hP hK hD hl
  have hRf : R.frames = 3 := by rw [hRe]
  have hRl : R.locals = 68 := by rw [hRe]
  have hRc : R.cells = 0 := by rw [hRe]
  have hRs : R.slots = 0 := by rw [hRe]
  refine lv_aload_n hx hb dX12_read_0 rfl (lv_at hl 0 rfl) ?_
  refine lv_iconst (v := 0) hx hb dX12_read_1 (by decide) ?_
  refine va_put (D := G) (ci := 12) (v := .int 0) (ty := tyX12 0) (C := RX12) (T := TX12) (N := 38) hx hb hts (mm_i inlX12) tyX12 tyX12_ok nmX12 hown hK.1 hP hD hS 0 rfl rfl 0 (by decide) (mm_h hts mm_w177) (fun _ h9 => h9) rfl (tyX12_ok 0 (by decide)) rfl rfl (Nat.le_of_ble_eq_true rfl) dX12_read_2 ?_
  clear hP hD hS
  clear H locs
  intro H locs (hP : va_P G vwCl [(a_0, .inr (12, [.int 0, .ref a_1, .ref a_2, .ref a_3, .ref a_4, .ref a_5, .int k_0, .int k_1, .int k_2, .int k_3, .int k_4, .long k_5, .int k_6, .int k_7, .int k_8, .int k_9, .ref a_6, .ref a_7, .ref a_8, .ref a_9, .ref a_10, .ref a_11, .ref a_12, .ref a_13, .ref a_14, .ref a_15, .ref a_16, .ref a_17, .ref a_18, .int k_10, .int k_11, .int k_12, .int k_13, .int k_14, .int k_15, .ref a_19, .int k_16, .ref a_20])), (a_7, .inl (cy 1, 30, .inl (fun _ => 0)))] H) (hD : va_D A [(a_0, .inr (12, [.int 0, .ref a_1, .ref a_2, .ref a_3, .ref a_4, .ref a_5, .int k_0, .int k_1, .int k_2, .int k_3, .int k_4, .long k_5, .int k_6, .int k_7, .int k_8, .int k_9, .ref a_6, .ref a_7, .ref a_8, .ref a_9, .ref a_10, .ref a_11, .ref a_12, .ref a_13, .ref a_14, .ref a_15, .ref a_16, .ref a_17, .ref a_18, .int k_10, .int k_11, .int k_12, .int k_13, .int k_14, .int k_15, .ref a_19, .int k_16, .ref a_20])), (a_7, .inl (cy 1, 30, .inl (fun _ => 0)))]) hS
  refine lv_aload_n hx hb dX12_read_5 rfl (lv_at hl 0 rfl) ?_
  refine lv_iload_n hx hb dX12_read_6 rfl (lv_at hl 1 rfl) ?_
  refine lv_iload_n hx hb dX12_read_7 rfl (lv_at hl 2 rfl) ?_
  refine mm_finir (va_runV (As := [.int i_0, .int i_1]) (rest := []) ⟨hx, hb, hml, hown, hts⟩ (K131_X12_isThen l G cy H.size a_0 i_0 i_1 0 a_1 a_2 a_3 a_4 a_5 k_0 k_1 k_2 k_3 k_4 k_5 k_6 k_7 k_8 k_9 a_6 a_7 a_8 a_9 a_10 a_11 a_12 a_13 a_14 a_15 a_16 a_17 a_18 k_10 k_11 k_12 k_13 k_14 k_15 a_19 k_16 a_20 ) (cwV 2 hts (mm_gV mm_w678 mm_w679 mm_w680 mm_w5 mm_w681) rfl rfl rfl hd_X12_isThen ⟨by rw [hRf]; exact Nat.le_of_ble_eq_true rfl, by rw [hRl]; exact Nat.le_of_ble_eq_true rfl⟩) (mm_preV hK hP hD [0, 1] rfl rfl 0 rfl rfl rfl) rfl rfl hl.1 rfl (lv_room (Nat.le_of_ble_eq_true rfl)) dX12_read_8 ⟨by rw [hRc]; exact Nat.le_of_ble_eq_true rfl, by rw [hRs]; exact Nat.le_of_ble_eq_true rfl⟩) hP hD hS hA [0, 1] rfl (fun _ => rfl) ?_
  clear hP hD hS
  clear H locs
  intro v1 _u H locs hw hP hD hS
  subst hw
  refine lv_if_eq (tgt := 23) hx hb dX12_read_11 (by decide) (fun c2 => ?_) (fun c2 => ?_)
  · refine lv_bipush (v := (-2)) hx hb dX12_read_23 (by decide) ?_
    subst hAe
    rw [hQ]
    exact W.iret (v := (-2)) hx hb hr (fun t ht hW => ⟨⟨(-2), (), rfl, rfl, by rw [ht]; exact hP, hK.warm hW, hD⟩, hS.F ht⟩) hS.2.2 dX12_read_25
  · have q3 := mm_neL (lo := 1) (mm_ne c2) mm_k0 mm_k0 (by decide) (by decide)
    exact mm_no q3 (by decide)

set_option maxHeartbeats 4000000 in
set_option maxRecDepth 100000 in
theorem K152_X11_heard (l : Launch) (G : va_G) (cy : Nat → ClassId) (sz : Nat) (a_0 : Nat) (i_0 : Int32) (i_1 : Int32) (i_2 : Int32) (a_1 : Nat) (a_2 : Nat) (a_3 : Nat) (a_4 : Nat) (a_5 : Nat) (a_6 : Nat) (a_7 : Nat) (a_8 : Nat) (a_9 : Nat) (a_10 : Nat) (a_11 : Nat) (a_24 : Nat) (a_25 : Nat) (k_0 : Int32) (k_1 : Int32) (k_2 : Int32) (k_3 : Int32) (k_4 : Int32) (k_5 : Int32) (k_6 : Int32) (a_26 : Nat) (a_27 : Nat) (a_28 : Nat) (a_29 : Nat) (a_30 : Nat) (a_31 : Nat) (a_32 : Nat) (a_33 : Nat) (a_34 : Nat) (a_35 : Nat)   : mm_CI l yX11_heard (mm_ws yX11_heard cX11_heard 4 (some .int)) ({ frames := 2, cells := 0, slots := 0, locals := 44 } : Room) G cy sz [(a_0, .inr (11, [.ref a_1, .ref a_2, .ref a_3, .ref a_4, .ref a_5, .ref a_6, .ref a_7, .ref a_8, .ref a_9, .ref a_10, .ref a_11])), (a_3, .inr (10, [.ref a_24, .ref a_25])), (a_24, .inr (0, [.int k_0, .int k_1, .int k_2, .int k_3, .int k_4, .int 0, .int k_5, .int k_6, .ref a_26, .ref a_27, .ref a_28, .ref a_29, .ref a_30, .ref a_31, .ref a_32, .ref a_33, .ref a_34, .ref a_35]))] [.ref a_0, .int i_0, .int i_1, .int i_2] (fun u : Unit => [(a_0, .inr (11, [.ref a_1, .ref a_2, .ref a_3, .ref a_4, .ref a_5, .ref a_6, .ref a_7, .ref a_8, .ref a_9, .ref a_10, .ref a_11])), (a_3, .inr (10, [.ref a_24, .ref a_25])), (a_24, .inr (0, [.int k_0, .int k_1, .int k_2, .int k_3, .int k_4, .int 0, .int k_5, .int k_6, .ref a_26, .ref a_27, .ref a_28, .ref a_29, .ref a_30, .ref a_31, .ref a_32, .ref a_33, .ref a_34, .ref a_35]))]) (fun (r : Int32) (u : Unit) => (-2) = r) 0 0 := by
  refine mm_begin (lv := [(0, .ref a_0), (1, .int i_0), (2, .int i_1), (3, .int i_2)]) (by decide) (Nat.le_of_ble_eq_true rfl) rfl ?_
  intro p e s m below meth c A ls R args Q H locs hRe hQ hAe hx hb hr hlocks hml hown hnm hts hsz hA hS hP hK hD hl
  have hRf : R.frames = 2 := by rw [hRe]
  have hRl : R.locals = 44 := by rw [hRe]
  have hRc : R.cells = 0 := by rw [hRe]
  have hRs : R.slots = 0 := by rw [hRe]
  refine lv_aload_n hx hb dX11_heard_0 rfl (lv_at hl 0 rfl) ?_
  refine lv_iload_n hx hb dX11_heard_1 rfl (lv_at hl 1 rfl) ?_
  refine lv_iload_n hx hb dX11_heard_2 rfl (lv_at hl 2 rfl) ?_
  refine lv_iload_n hx hb dX11_heard_3 rfl (lv_at hl 3 rfl) ?_
  refine mm_finir (va_runV (As := [.int i_0, .int i_1, .int i_2]) (rest := []) ⟨hx, hb, hml, hown, hts⟩ (K150_X11_isReading l G cy H.size a_0 i_0 i_1 i_2 a_1 a_2 a_3 a_4 a_5 a_6 a_7 a_8 a_9 a_10 a_11 a_24 a_25 k_0 k_1 k_2 k_3 k_4 k_5 k_6 a_26 a_27 a_28 a_29 a_30 a_31 a_32 a_33 a_34 a_35 ) (cwV 3 hts (mm_gV mm_w825 mm_w826 mm_w827 mm_w2 mm_w828) rfl rfl rfl hd_X11_isReading ⟨by rw [hRf]; exact Nat.le_of_ble_eq_true rfl, by rw [hRl]; exact Nat.le_of_ble_eq_true rfl⟩) (mm_preV hK hP hD [0, 1, 2] rfl rfl 0 rfl rfl rfl) rfl rfl hl.1 rfl (lv_room (Nat.le_of_ble_eq_true rfl)) dX11_heard_4 ⟨by rw [hRc]; exact Nat.le_of_ble_eq_true rfl, by rw [hRs]; exact Nat.le_of_ble_eq_true rfl⟩) hP hD hS hA [0, 1, 2] rfl (fun _ => rfl) ?_
  clear hP hD hS
  clear H locs
  intro v1 _u H locs hw hP hD hS
  subst hw
  refine lv_if_ne (tgt := 13) hx hb dX11_heard_7 (by decide) (fun c2 => ?_) (fun c2 => ?_)
  · have q3 := mm_neL (lo := 1) (mm_ne c2) mm_k0 mm_k0 (by decide) (by decide)
    exact mm_no q3 (by decide)
  · refine lv_bipush (v := (-2)) hx hb dX11_heard_10 (by decide) ?_
    subst hAe
    rw [hQ]
    exact W.iret (v := (-2)) hx hb hr (fun t ht hW => ⟨⟨(-2), (), rfl, rfl, by rw [ht]; exact hP, hK.warm hW, hD⟩, hS.F ht⟩) hS.2.2 dX11_heard_12

set_option maxHeartbeats 4000000 in
set_option maxRecDepth 100000 in
theorem K153_X12_heard (l : Launch) (G : va_G) (cy : Nat → ClassId) (sz : Nat) (a_0 : Nat) (i_0 : Int32) (i_1 : Int32) (i_2 : Int32) (a_1 : Nat) (a_2 : Nat) (a_3 : Nat) (a_4 : Nat) (a_5 : Nat) (k_0 : Int32) (k_1 : Int32) (k_2 : Int32) (k_3 : Int32) (k_4 : Int32) (k_5 : Int64) (k_6 : Int32) (k_7 : Int32) (k_8 : Int32) (k_9 : Int32) (a_6 : Nat) (a_7 : Nat) (a_8 : Nat) (a_9 : Nat) (a_10 : Nat) (a_11 : Nat) (a_12 : Nat) (a_13 : Nat) (a_14 : Nat) (a_15 : Nat) (a_16 : Nat) (a_17 : Nat) (a_18 : Nat) (k_10 : Int32) (k_11 : Int32) (k_12 : Int32) (k_13 : Int32) (k_14 : Int32) (k_15 : Int32) (a_19 : Nat) (k_16 : Int32) (a_20 : Nat)   : mm_CI l yX12_heard (mm_ws yX12_heard cX12_heard 4 (some .int)) ({ frames := 3, cells := 0, slots := 0, locals := 68 } : Room) G cy sz [(a_0, .inr (12, [.int 0, .ref a_1, .ref a_2, .ref a_3, .ref a_4, .ref a_5, .int k_0, .int k_1, .int k_2, .int k_3, .int k_4, .long k_5, .int k_6, .int k_7, .int k_8, .int k_9, .ref a_6, .ref a_7, .ref a_8, .ref a_9, .ref a_10, .ref a_11, .ref a_12, .ref a_13, .ref a_14, .ref a_15, .ref a_16, .ref a_17, .ref a_18, .int k_10, .int k_11, .int k_12, .int k_13, .int k_14, .int k_15, .ref a_19, .int k_16, .ref a_20])), (a_7, .inl (cy 1, 30, .inl (fun _ => 0)))] [.ref a_0, .int i_0, .int i_1, .int i_2] (fun u : Unit => [(a_0, .inr (12, [.int 0, .ref a_1, .ref a_2, .ref a_3, .ref a_4, .ref a_5, .int k_0, .int k_1, .int k_2, .int k_3, .int k_4, .long k_5, .int k_6, .int k_7, .int k_8, .int k_9, .ref a_6, .ref a_7, .ref a_8, .ref a_9, .ref a_10, .ref a_11, .ref a_12, .ref a_13, .ref a_14, .ref a_15, .ref a_16, .ref a_17, .ref a_18, .int k_10, .int k_11, .int k_12, .int k_13, .int k_14, .int k_15, .ref a_19, .int k_16, .ref a_20])), (a_7, .inl (cy 1, 30, .inl (fun _ => 0)))]) (fun (r : Int32) (u : Unit) => (-2) = r) 0 0 := by
  refine mm_begin (lv := [(0, .ref a_0), (1, .int i_0), (2, .int i_1), (3, .int i_2)]) (by decide) (Nat.le_of_ble_eq_true rfl) rfl ?_
  intro p e s m below meth c A ls R args Q H locs hRe hQ hAe hx hb hr hlocks hml hown hnm hts hsz hA hS hP hK hD hl
  have hRf : R.frames = 3 := by rw [hRe]
  have hRl : R.locals = 68 := by rw [hRe]
  have hRc : R.cells = 0 := by rw [hRe]
  have hRs : R.slots = 0 := by rw [hRe]
  refine lv_aload_n hx hb dX12_heard_0 rfl (lv_at hl 0 rfl) ?_
  refine lv_iconst (v := 0) hx hb dX12_heard_1 (by decide) ?_
  refine va_put (D := G) (ci := 12) (v := .int 0) (ty := tyX12 0) (C := RX12) (T := TX12) (N := 38) hx hb hts (mm_i inlX12) tyX12 tyX12_ok nmX12 hown hK.1 hP hD hS 0 rfl rfl 0 (by decide) (mm_h hts mm_w177) (fun _ h9 => h9) rfl (tyX12_ok 0 (by decide)) rfl rfl (Nat.le_of_ble_eq_true rfl) dX12_heard_2 ?_
  clear hP hD hS
  clear H locs
  intro H locs (hP : va_P G vwCl [(a_0, .inr (12, [.int 0, .ref a_1, .ref a_2, .ref a_3, .ref a_4, .ref a_5, .int k_0, .int k_1, .int k_2, .int k_3, .int k_4, .long k_5, .int k_6, .int k_7, .int k_8, .int k_9, .ref a_6, .ref a_7, .ref a_8, .ref a_9, .ref a_10, .ref a_11, .ref a_12, .ref a_13, .ref a_14, .ref a_15, .ref a_16, .ref a_17, .ref a_18, .int k_10, .int k_11, .int k_12, .int k_13, .int k_14, .int k_15, .ref a_19, .int k_16, .ref a_20])), (a_7, .inl (cy 1, 30, .inl (fun _ => 0)))] H) (hD : va_D A [(a_0, .inr (12, [.int 0, .ref a_1, .ref a_2, .ref a_3, .ref a_4, .ref a_5, .int k_0, .int k_1, .int k_2, .int k_3, .int k_4, .long k_5, .int k_6, .int k_7, .int k_8, .int k_9, .ref a_6, .ref a_7, .ref a_8, .ref a_9, .ref a_10, .ref a_11, .ref a_12, .ref a_13, .ref a_14, .ref a_15, .ref a_16, .ref a_17, .ref a_18, .int k_10, .int k_11, .int k_12, .int k_13, .int k_14, .int k_15, .ref a_19, .int k_16, .ref a_20])), (a_7, .inl (cy 1, 30, .inl (fun _ => 0)))]) hS
  refine lv_aload_n hx hb dX12_heard_5 rfl (lv_at hl 0 rfl) ?_
  refine lv_iload_n hx hb dX12_heard_6 rfl (lv_at hl 1 rfl) ?_
  refine lv_iload_n hx hb dX12_heard_7 rfl (lv_at hl 2 rfl) ?_
  refine mm_finir (va_runV (As := [.int i_0, .int i_1]) (rest := []) ⟨hx, hb, hml, hown, hts⟩ (K131_X12_isThen l G cy H.size a_0 i_0 i_1 0 a_1 a_2 a_3 a_4 a_5 k_0 k_1 k_2 k_3 k_4 k_5 k_6 k_7 k_8 k_9 a_6 a_7 a_8 a_9 a_10 a_11 a_12 a_13 a_14 a_15 a_16 a_17 a_18 k_10 k_11 k_12 k_13 k_14 k_15 a_19 k_16 a_20 ) (cwV 2 hts (mm_gV mm_w678 mm_w679 mm_w680 mm_w5 mm_w681) rfl rfl rfl hd_X12_isThen ⟨by rw [hRf]; exact Nat.le_of_ble_eq_true rfl, by rw [hRl]; exact Nat.le_of_ble_eq_true rfl⟩) (mm_preV hK hP hD [0, 1] rfl rfl 0 rfl rfl rfl) rfl rfl hl.1 rfl (lv_room (Nat.le_of_ble_eq_true rfl)) dX12_heard_8 ⟨by rw [hRc]; exact Nat.le_of_ble_eq_true rfl, by rw [hRs]; exact Nat.le_of_ble_eq_true rfl⟩) hP hD hS hA [0, 1] rfl (fun _ => rfl) ?_
  clear hP hD hS
  clear H locs
  intro v1 _u H locs hw hP hD hS
  subst hw
  refine lv_if_eq (tgt := 23) hx hb dX12_heard_11 (by decide) (fun c2 => ?_) (fun c2 => ?_)
  · refine lv_bipush (v := (-2)) hx hb dX12_heard_23 (by decide) ?_
    subst hAe
    rw [hQ]
    exact W.iret (v := (-2)) hx hb hr (fun t ht hW => ⟨⟨(-2), (), rfl, rfl, by rw [ht]; exact hP, hK.warm hW, hD⟩, hS.F ht⟩) hS.2.2 dX12_heard_25
  · have q3 := mm_neL (lo := 1) (mm_ne c2) mm_k0 mm_k0 (by decide) (by decide)
    exact mm_no q3 (by decide)

set_option maxHeartbeats 4000000 in
set_option maxRecDepth 100000 in
theorem K154_X11_silent (l : Launch) (G : va_G) (cy : Nat → ClassId) (sz : Nat) (a_0 : Nat) (i_0 : Int32) (i_1 : Int32) (i_2 : Int32) (a_1 : Nat) (a_2 : Nat) (a_3 : Nat) (a_4 : Nat) (a_5 : Nat) (a_6 : Nat) (a_7 : Nat) (a_8 : Nat) (a_9 : Nat) (a_10 : Nat) (a_11 : Nat) (a_24 : Nat) (a_25 : Nat) (k_0 : Int32) (k_1 : Int32) (k_2 : Int32) (k_3 : Int32) (k_4 : Int32) (k_5 : Int32) (k_6 : Int32) (a_26 : Nat) (a_27 : Nat) (a_28 : Nat) (a_29 : Nat) (a_30 : Nat) (a_31 : Nat) (a_32 : Nat) (a_33 : Nat) (a_34 : Nat) (a_35 : Nat)   : mm_CI l yX11_silent (mm_ws yX11_silent cX11_silent 6 (some .int)) ({ frames := 2, cells := 0, slots := 0, locals := 44 } : Room) G cy sz [(a_0, .inr (11, [.ref a_1, .ref a_2, .ref a_3, .ref a_4, .ref a_5, .ref a_6, .ref a_7, .ref a_8, .ref a_9, .ref a_10, .ref a_11])), (a_3, .inr (10, [.ref a_24, .ref a_25])), (a_24, .inr (0, [.int k_0, .int k_1, .int k_2, .int k_3, .int k_4, .int 0, .int k_5, .int k_6, .ref a_26, .ref a_27, .ref a_28, .ref a_29, .ref a_30, .ref a_31, .ref a_32, .ref a_33, .ref a_34, .ref a_35]))] [.ref a_0, .int i_0, .int i_1, .int i_2] (fun u : Unit => [(a_0, .inr (11, [.ref a_1, .ref a_2, .ref a_3, .ref a_4, .ref a_5, .ref a_6, .ref a_7, .ref a_8, .ref a_9, .ref a_10, .ref a_11])), (a_3, .inr (10, [.ref a_24, .ref a_25])), (a_24, .inr (0, [.int k_0, .int k_1, .int k_2, .int k_3, .int k_4, .int 0, .int k_5, .int k_6, .ref a_26, .ref a_27, .ref a_28, .ref a_29, .ref a_30, .ref a_31, .ref a_32, .ref a_33, .ref a_34, .ref a_35]))]) (fun (r : Int32) (u : Unit) => (-2) = r) 0 0 := by
  refine mm_begin (lv := [(0, .ref a_0), (1, .int i_0), (2, .int i_1), (3, .int i_2)]) (by decide) (Nat.le_of_ble_eq_true rfl) rfl ?_
  intro p e s m below meth c A ls R args Q H locs hRe hQ hAe hx hb hr hlocks hml hown hnm hts hsz hA hS hP hK hD hl
  have hRf : R.frames = 2 := by rw [hRe]
  have hRl : R.locals = 44 := by rw [hRe]
  have hRc : R.cells = 0 := by rw [hRe]
  have hRs : R.slots = 0 := by rw [hRe]
  refine lv_aload_n hx hb dX11_silent_0 rfl (lv_at hl 0 rfl) ?_
  refine lv_iload_n hx hb dX11_silent_1 rfl (lv_at hl 1 rfl) ?_
  refine lv_iload_n hx hb dX11_silent_2 rfl (lv_at hl 2 rfl) ?_
  refine lv_iload_n hx hb dX11_silent_3 rfl (lv_at hl 3 rfl) ?_
  refine mm_finir (va_runV (As := [.int i_0, .int i_1, .int i_2]) (rest := []) ⟨hx, hb, hml, hown, hts⟩ (K150_X11_isReading l G cy H.size a_0 i_0 i_1 i_2 a_1 a_2 a_3 a_4 a_5 a_6 a_7 a_8 a_9 a_10 a_11 a_24 a_25 k_0 k_1 k_2 k_3 k_4 k_5 k_6 a_26 a_27 a_28 a_29 a_30 a_31 a_32 a_33 a_34 a_35 ) (cwV 3 hts (mm_gV mm_w825 mm_w826 mm_w827 mm_w2 mm_w828) rfl rfl rfl hd_X11_isReading ⟨by rw [hRf]; exact Nat.le_of_ble_eq_true rfl, by rw [hRl]; exact Nat.le_of_ble_eq_true rfl⟩) (mm_preV hK hP hD [0, 1, 2] rfl rfl 0 rfl rfl rfl) rfl rfl hl.1 rfl (lv_room (Nat.le_of_ble_eq_true rfl)) dX11_silent_4 ⟨by rw [hRc]; exact Nat.le_of_ble_eq_true rfl, by rw [hRs]; exact Nat.le_of_ble_eq_true rfl⟩) hP hD hS hA [0, 1, 2] rfl (fun _ => rfl) ?_
  clear hP hD hS
  clear H locs
  intro v1 _u H locs hw hP hD hS
  subst hw
  refine lv_if_ne (tgt := 13) hx hb dX11_silent_7 (by decide) (fun c2 => ?_) (fun c2 => ?_)
  · have q3 := mm_neL (lo := 1) (mm_ne c2) mm_k0 mm_k0 (by decide) (by decide)
    exact mm_no q3 (by decide)
  · refine lv_bipush (v := (-2)) hx hb dX11_silent_10 (by decide) ?_
    subst hAe
    rw [hQ]
    exact W.iret (v := (-2)) hx hb hr (fun t ht hW => ⟨⟨(-2), (), rfl, rfl, by rw [ht]; exact hP, hK.warm hW, hD⟩, hS.F ht⟩) hS.2.2 dX11_silent_12

set_option maxHeartbeats 4000000 in
set_option maxRecDepth 100000 in
theorem K155_X12_silent (l : Launch) (G : va_G) (cy : Nat → ClassId) (sz : Nat) (a_0 : Nat) (i_0 : Int32) (i_1 : Int32) (i_2 : Int32) (a_1 : Nat) (a_2 : Nat) (a_3 : Nat) (a_4 : Nat) (a_5 : Nat) (k_0 : Int32) (k_1 : Int32) (k_2 : Int32) (k_3 : Int32) (k_4 : Int32) (k_5 : Int64) (k_6 : Int32) (k_7 : Int32) (k_8 : Int32) (k_9 : Int32) (a_6 : Nat) (a_7 : Nat) (a_8 : Nat) (a_9 : Nat) (a_10 : Nat) (a_11 : Nat) (a_12 : Nat) (a_13 : Nat) (a_14 : Nat) (a_15 : Nat) (a_16 : Nat) (a_17 : Nat) (a_18 : Nat) (k_10 : Int32) (k_11 : Int32) (k_12 : Int32) (k_13 : Int32) (k_14 : Int32) (k_15 : Int32) (a_19 : Nat) (k_16 : Int32) (a_20 : Nat)   : mm_CI l yX12_silent (mm_ws yX12_silent cX12_silent 6 (some .int)) ({ frames := 3, cells := 0, slots := 0, locals := 68 } : Room) G cy sz [(a_0, .inr (12, [.int 0, .ref a_1, .ref a_2, .ref a_3, .ref a_4, .ref a_5, .int k_0, .int k_1, .int k_2, .int k_3, .int k_4, .long k_5, .int k_6, .int k_7, .int k_8, .int k_9, .ref a_6, .ref a_7, .ref a_8, .ref a_9, .ref a_10, .ref a_11, .ref a_12, .ref a_13, .ref a_14, .ref a_15, .ref a_16, .ref a_17, .ref a_18, .int k_10, .int k_11, .int k_12, .int k_13, .int k_14, .int k_15, .ref a_19, .int k_16, .ref a_20])), (a_7, .inl (cy 1, 30, .inl (fun _ => 0)))] [.ref a_0, .int i_0, .int i_1, .int i_2] (fun u : Unit => [(a_0, .inr (12, [.int 0, .ref a_1, .ref a_2, .ref a_3, .ref a_4, .ref a_5, .int k_0, .int k_1, .int k_2, .int k_3, .int k_4, .long k_5, .int k_6, .int k_7, .int k_8, .int k_9, .ref a_6, .ref a_7, .ref a_8, .ref a_9, .ref a_10, .ref a_11, .ref a_12, .ref a_13, .ref a_14, .ref a_15, .ref a_16, .ref a_17, .ref a_18, .int k_10, .int k_11, .int k_12, .int k_13, .int k_14, .int k_15, .ref a_19, .int k_16, .ref a_20])), (a_7, .inl (cy 1, 30, .inl (fun _ => 0)))]) (fun (r : Int32) (u : Unit) => (-2) = r) 0 0 := by
  refine mm_begin (lv := [(0, .ref a_0), (1, .int i_0), (2, .int i_1), (3, .int i_2)]) (by decide) (Nat.le_of_ble_eq_true rfl) rfl ?_
  intro p e s m below meth c A ls R args Q H locs hRe hQ hAe hx hb hr hlocks hml hown hnm hts hsz hA hS hP hK hD hl
  have hRf : R.frames = 3 := by rw [hRe]
  have hRl : R.locals = 68 := by rw [hRe]
  have hRc : R.cells = 0 := by rw [hRe]
  have hRs : R.slots = 0 := by rw [hRe]
  refine lv_aload_n hx hb dX12_silent_0 rfl (lv_at hl 0 rfl) ?_
  refine lv_iconst (v := 0) hx hb dX12_silent_1 (by decide) ?_
  refine va_put (D := G) (ci := 12) (v := .int 0) (ty := tyX12 0) (C := RX12) (T := TX12) (N := 38) hx hb hts (mm_i inlX12) tyX12 tyX12_ok nmX12 hown hK.1 hP hD hS 0 rfl rfl 0 (by decide) (mm_h hts mm_w177) (fun _ h9 => h9) rfl (tyX12_ok 0 (by decide)) rfl rfl (Nat.le_of_ble_eq_true rfl) dX12_silent_2 ?_
  clear hP hD hS
  clear H locs
  intro H locs (hP : va_P G vwCl [(a_0, .inr (12, [.int 0, .ref a_1, .ref a_2, .ref a_3, .ref a_4, .ref a_5, .int k_0, .int k_1, .int k_2, .int k_3, .int k_4, .long k_5, .int k_6, .int k_7, .int k_8, .int k_9, .ref a_6, .ref a_7, .ref a_8, .ref a_9, .ref a_10, .ref a_11, .ref a_12, .ref a_13, .ref a_14, .ref a_15, .ref a_16, .ref a_17, .ref a_18, .int k_10, .int k_11, .int k_12, .int k_13, .int k_14, .int k_15, .ref a_19, .int k_16, .ref a_20])), (a_7, .inl (cy 1, 30, .inl (fun _ => 0)))] H) (hD : va_D A [(a_0, .inr (12, [.int 0, .ref a_1, .ref a_2, .ref a_3, .ref a_4, .ref a_5, .int k_0, .int k_1, .int k_2, .int k_3, .int k_4, .long k_5, .int k_6, .int k_7, .int k_8, .int k_9, .ref a_6, .ref a_7, .ref a_8, .ref a_9, .ref a_10, .ref a_11, .ref a_12, .ref a_13, .ref a_14, .ref a_15, .ref a_16, .ref a_17, .ref a_18, .int k_10, .int k_11, .int k_12, .int k_13, .int k_14, .int k_15, .ref a_19, .int k_16, .ref a_20])), (a_7, .inl (cy 1, 30, .inl (fun _ => 0)))]) hS
  refine lv_aload_n hx hb dX12_silent_5 rfl (lv_at hl 0 rfl) ?_
  refine lv_iload_n hx hb dX12_silent_6 rfl (lv_at hl 1 rfl) ?_
  refine lv_iload_n hx hb dX12_silent_7 rfl (lv_at hl 2 rfl) ?_
  refine mm_finir (va_runV (As := [.int i_0, .int i_1]) (rest := []) ⟨hx, hb, hml, hown, hts⟩ (K131_X12_isThen l G cy H.size a_0 i_0 i_1 0 a_1 a_2 a_3 a_4 a_5 k_0 k_1 k_2 k_3 k_4 k_5 k_6 k_7 k_8 k_9 a_6 a_7 a_8 a_9 a_10 a_11 a_12 a_13 a_14 a_15 a_16 a_17 a_18 k_10 k_11 k_12 k_13 k_14 k_15 a_19 k_16 a_20 ) (cwV 2 hts (mm_gV mm_w678 mm_w679 mm_w680 mm_w5 mm_w681) rfl rfl rfl hd_X12_isThen ⟨by rw [hRf]; exact Nat.le_of_ble_eq_true rfl, by rw [hRl]; exact Nat.le_of_ble_eq_true rfl⟩) (mm_preV hK hP hD [0, 1] rfl rfl 0 rfl rfl rfl) rfl rfl hl.1 rfl (lv_room (Nat.le_of_ble_eq_true rfl)) dX12_silent_8 ⟨by rw [hRc]; exact Nat.le_of_ble_eq_true rfl, by rw [hRs]; exact Nat.le_of_ble_eq_true rfl⟩) hP hD hS hA [0, 1] rfl (fun _ => rfl) ?_
  clear hP hD hS
  clear H locs
  intro v1 _u H locs hw hP hD hS
  subst hw
  refine lv_if_eq (tgt := 23) hx hb dX12_silent_11 (by decide) (fun c2 => ?_) (fun c2 => ?_)
  · refine lv_bipush (v := (-2)) hx hb dX12_silent_23 (by decide) ?_
    subst hAe
    rw [hQ]
    exact W.iret (v := (-2)) hx hb hr (fun t ht hW => ⟨⟨(-2), (), rfl, rfl, by rw [ht]; exact hP, hK.warm hW, hD⟩, hS.F ht⟩) hS.2.2 dX12_silent_25
  · have q3 := mm_neL (lo := 1) (mm_ne c2) mm_k0 mm_k0 (by decide) (by decide)
    exact mm_no q3 (by decide)

set_option maxHeartbeats 4000000 in
set_option maxRecDepth 100000 in
theorem K156_X11_again (l : Launch) (G : va_G) (cy : Nat → ClassId) (sz : Nat) (a_0 : Nat) (i_0 : Int32) (i_1 : Int32) (i_2 : Int32) (a_1 : Nat) (a_2 : Nat) (a_3 : Nat) (a_4 : Nat) (a_5 : Nat) (a_6 : Nat) (a_7 : Nat) (a_8 : Nat) (a_9 : Nat) (a_10 : Nat) (a_11 : Nat) (a_24 : Nat) (a_25 : Nat) (k_0 : Int32) (k_1 : Int32) (k_2 : Int32) (k_3 : Int32) (k_4 : Int32) (k_5 : Int32) (k_6 : Int32) (a_26 : Nat) (a_27 : Nat) (a_28 : Nat) (a_29 : Nat) (a_30 : Nat) (a_31 : Nat) (a_32 : Nat) (a_33 : Nat) (a_34 : Nat) (a_35 : Nat)   : mm_CI l yX11_again (mm_ws yX11_again cX11_again 4 (some .int)) ({ frames := 2, cells := 0, slots := 0, locals := 44 } : Room) G cy sz [(a_0, .inr (11, [.ref a_1, .ref a_2, .ref a_3, .ref a_4, .ref a_5, .ref a_6, .ref a_7, .ref a_8, .ref a_9, .ref a_10, .ref a_11])), (a_3, .inr (10, [.ref a_24, .ref a_25])), (a_24, .inr (0, [.int k_0, .int k_1, .int k_2, .int k_3, .int k_4, .int 0, .int k_5, .int k_6, .ref a_26, .ref a_27, .ref a_28, .ref a_29, .ref a_30, .ref a_31, .ref a_32, .ref a_33, .ref a_34, .ref a_35]))] [.ref a_0, .int i_0, .int i_1, .int i_2] (fun u : Unit => [(a_0, .inr (11, [.ref a_1, .ref a_2, .ref a_3, .ref a_4, .ref a_5, .ref a_6, .ref a_7, .ref a_8, .ref a_9, .ref a_10, .ref a_11])), (a_3, .inr (10, [.ref a_24, .ref a_25])), (a_24, .inr (0, [.int k_0, .int k_1, .int k_2, .int k_3, .int k_4, .int 0, .int k_5, .int k_6, .ref a_26, .ref a_27, .ref a_28, .ref a_29, .ref a_30, .ref a_31, .ref a_32, .ref a_33, .ref a_34, .ref a_35]))]) (fun (r : Int32) (u : Unit) => (-2) = r) 0 0 := by
  refine mm_begin (lv := [(0, .ref a_0), (1, .int i_0), (2, .int i_1), (3, .int i_2)]) (by decide) (Nat.le_of_ble_eq_true rfl) rfl ?_
  intro p e s m below meth c A ls R args Q H locs hRe hQ hAe hx hb hr hlocks hml hown hnm hts hsz hA hS hP hK hD hl
  have hRf : R.frames = 2 := by rw [hRe]
  have hRl : R.locals = 44 := by rw [hRe]
  have hRc : R.cells = 0 := by rw [hRe]
  have hRs : R.slots = 0 := by rw [hRe]
  refine lv_aload_n hx hb dX11_again_0 rfl (lv_at hl 0 rfl) ?_
  refine lv_iload_n hx hb dX11_again_1 rfl (lv_at hl 1 rfl) ?_
  refine lv_iload_n hx hb dX11_again_2 rfl (lv_at hl 2 rfl) ?_
  refine lv_iload_n hx hb dX11_again_3 rfl (lv_at hl 3 rfl) ?_
  refine mm_finir (va_runV (As := [.int i_0, .int i_1, .int i_2]) (rest := []) ⟨hx, hb, hml, hown, hts⟩ (K150_X11_isReading l G cy H.size a_0 i_0 i_1 i_2 a_1 a_2 a_3 a_4 a_5 a_6 a_7 a_8 a_9 a_10 a_11 a_24 a_25 k_0 k_1 k_2 k_3 k_4 k_5 k_6 a_26 a_27 a_28 a_29 a_30 a_31 a_32 a_33 a_34 a_35 ) (cwV 3 hts (mm_gV mm_w825 mm_w826 mm_w827 mm_w2 mm_w828) rfl rfl rfl hd_X11_isReading ⟨by rw [hRf]; exact Nat.le_of_ble_eq_true rfl, by rw [hRl]; exact Nat.le_of_ble_eq_true rfl⟩) (mm_preV hK hP hD [0, 1, 2] rfl rfl 0 rfl rfl rfl) rfl rfl hl.1 rfl (lv_room (Nat.le_of_ble_eq_true rfl)) dX11_again_4 ⟨by rw [hRc]; exact Nat.le_of_ble_eq_true rfl, by rw [hRs]; exact Nat.le_of_ble_eq_true rfl⟩) hP hD hS hA [0, 1, 2] rfl (fun _ => rfl) ?_
  clear hP hD hS
  clear H locs
  intro v1 _u H locs hw hP hD hS
  subst hw
  refine lv_if_ne (tgt := 13) hx hb dX11_again_7 (by decide) (fun c2 => ?_) (fun c2 => ?_)
  · have q3 := mm_neL (lo := 1) (mm_ne c2) mm_k0 mm_k0 (by decide) (by decide)
    exact mm_no q3 (by decide)
  · refine lv_bipush (v := (-2)) hx hb dX11_again_10 (by decide) ?_
    subst hAe
    rw [hQ]
    exact W.iret (v := (-2)) hx hb hr (fun t ht hW => ⟨⟨(-2), (), rfl, rfl, by rw [ht]; exact hP, hK.warm hW, hD⟩, hS.F ht⟩) hS.2.2 dX11_again_12

set_option maxHeartbeats 4000000 in
set_option maxRecDepth 100000 in
theorem K157_X12_again (l : Launch) (G : va_G) (cy : Nat → ClassId) (sz : Nat) (a_0 : Nat) (i_0 : Int32) (i_1 : Int32) (i_2 : Int32) (a_1 : Nat) (a_2 : Nat) (a_3 : Nat) (a_4 : Nat) (a_5 : Nat) (k_0 : Int32) (k_1 : Int32) (k_2 : Int32) (k_3 : Int32) (k_4 : Int32) (k_5 : Int64) (k_6 : Int32) (k_7 : Int32) (k_8 : Int32) (k_9 : Int32) (a_6 : Nat) (a_7 : Nat) (a_8 : Nat) (a_9 : Nat) (a_10 : Nat) (a_11 : Nat) (a_12 : Nat) (a_13 : Nat) (a_14 : Nat) (a_15 : Nat) (a_16 : Nat) (a_17 : Nat) (a_18 : Nat) (k_10 : Int32) (k_11 : Int32) (k_12 : Int32) (k_13 : Int32) (k_14 : Int32) (k_15 : Int32) (a_19 : Nat) (k_16 : Int32) (a_20 : Nat)   : mm_CI l yX12_again (mm_ws yX12_again cX12_again 6 (some .int)) ({ frames := 3, cells := 0, slots := 0, locals := 68 } : Room) G cy sz [(a_0, .inr (12, [.int 0, .ref a_1, .ref a_2, .ref a_3, .ref a_4, .ref a_5, .int k_0, .int k_1, .int k_2, .int k_3, .int k_4, .long k_5, .int k_6, .int k_7, .int k_8, .int k_9, .ref a_6, .ref a_7, .ref a_8, .ref a_9, .ref a_10, .ref a_11, .ref a_12, .ref a_13, .ref a_14, .ref a_15, .ref a_16, .ref a_17, .ref a_18, .int k_10, .int k_11, .int k_12, .int k_13, .int k_14, .int k_15, .ref a_19, .int k_16, .ref a_20])), (a_7, .inl (cy 1, 30, .inl (fun _ => 0)))] [.ref a_0, .int i_0, .int i_1, .int i_2] (fun u : Unit => [(a_0, .inr (12, [.int 0, .ref a_1, .ref a_2, .ref a_3, .ref a_4, .ref a_5, .int k_0, .int k_1, .int k_2, .int k_3, .int k_4, .long k_5, .int k_6, .int k_7, .int k_8, .int k_9, .ref a_6, .ref a_7, .ref a_8, .ref a_9, .ref a_10, .ref a_11, .ref a_12, .ref a_13, .ref a_14, .ref a_15, .ref a_16, .ref a_17, .ref a_18, .int k_10, .int k_11, .int k_12, .int k_13, .int k_14, .int k_15, .ref a_19, .int k_16, .ref a_20])), (a_7, .inl (cy 1, 30, .inl (fun _ => 0)))]) (fun (r : Int32) (u : Unit) => (-2) = r) 0 0 := by
  refine mm_begin (lv := [(0, .ref a_0), (1, .int i_0), (2, .int i_1), (3, .int i_2)]) (by decide) (Nat.le_of_ble_eq_true rfl) rfl ?_
  intro p e s m below meth c A ls R args Q H locs hRe hQ hAe hx hb hr hlocks hml hown hnm hts hsz hA hS hP hK hD hl
  have hRf : R.frames = 3 := by rw [hRe]
  have hRl : R.locals = 68 := by rw [hRe]
  have hRc : R.cells = 0 := by rw [hRe]
  have hRs : R.slots = 0 := by rw [hRe]
  refine lv_aload_n hx hb dX12_again_0 rfl (lv_at hl 0 rfl) ?_
  refine lv_iconst (v := 0) hx hb dX12_again_1 (by decide) ?_
  refine va_put (D := G) (ci := 12) (v := .int 0) (ty := tyX12 0) (C := RX12) (T := TX12) (N := 38) hx hb hts (mm_i inlX12) tyX12 tyX12_ok nmX12 hown hK.1 hP hD hS 0 rfl rfl 0 (by decide) (mm_h hts mm_w177) (fun _ h9 => h9) rfl (tyX12_ok 0 (by decide)) rfl rfl (Nat.le_of_ble_eq_true rfl) dX12_again_2 ?_
  clear hP hD hS
  clear H locs
  intro H locs (hP : va_P G vwCl [(a_0, .inr (12, [.int 0, .ref a_1, .ref a_2, .ref a_3, .ref a_4, .ref a_5, .int k_0, .int k_1, .int k_2, .int k_3, .int k_4, .long k_5, .int k_6, .int k_7, .int k_8, .int k_9, .ref a_6, .ref a_7, .ref a_8, .ref a_9, .ref a_10, .ref a_11, .ref a_12, .ref a_13, .ref a_14, .ref a_15, .ref a_16, .ref a_17, .ref a_18, .int k_10, .int k_11, .int k_12, .int k_13, .int k_14, .int k_15, .ref a_19, .int k_16, .ref a_20])), (a_7, .inl (cy 1, 30, .inl (fun _ => 0)))] H) (hD : va_D A [(a_0, .inr (12, [.int 0, .ref a_1, .ref a_2, .ref a_3, .ref a_4, .ref a_5, .int k_0, .int k_1, .int k_2, .int k_3, .int k_4, .long k_5, .int k_6, .int k_7, .int k_8, .int k_9, .ref a_6, .ref a_7, .ref a_8, .ref a_9, .ref a_10, .ref a_11, .ref a_12, .ref a_13, .ref a_14, .ref a_15, .ref a_16, .ref a_17, .ref a_18, .int k_10, .int k_11, .int k_12, .int k_13, .int k_14, .int k_15, .ref a_19, .int k_16, .ref a_20])), (a_7, .inl (cy 1, 30, .inl (fun _ => 0)))]) hS
  refine lv_aload_n hx hb dX12_again_5 rfl (lv_at hl 0 rfl) ?_
  refine lv_iload_n hx hb dX12_again_6 rfl (lv_at hl 1 rfl) ?_
  refine lv_iload_n hx hb dX12_again_7 rfl (lv_at hl 2 rfl) ?_
  refine mm_finir (va_runV (As := [.int i_0, .int i_1]) (rest := []) ⟨hx, hb, hml, hown, hts⟩ (K131_X12_isThen l G cy H.size a_0 i_0 i_1 0 a_1 a_2 a_3 a_4 a_5 k_0 k_1 k_2 k_3 k_4 k_5 k_6 k_7 k_8 k_9 a_6 a_7 a_8 a_9 a_10 a_11 a_12 a_13 a_14 a_15 a_16 a_17 a_18 k_10 k_11 k_12 k_13 k_14 k_15 a_19 k_16 a_20 ) (cwV 2 hts (mm_gV mm_w678 mm_w679 mm_w680 mm_w5 mm_w681) rfl rfl rfl hd_X12_isThen ⟨by rw [hRf]; exact Nat.le_of_ble_eq_true rfl, by rw [hRl]; exact Nat.le_of_ble_eq_true rfl⟩) (mm_preV hK hP hD [0, 1] rfl rfl 0 rfl rfl rfl) rfl rfl hl.1 rfl (lv_room (Nat.le_of_ble_eq_true rfl)) dX12_again_8 ⟨by rw [hRc]; exact Nat.le_of_ble_eq_true rfl, by rw [hRs]; exact Nat.le_of_ble_eq_true rfl⟩) hP hD hS hA [0, 1] rfl (fun _ => rfl) ?_
  clear hP hD hS
  clear H locs
  intro v1 _u H locs hw hP hD hS
  subst hw
  refine lv_if_eq (tgt := 23) hx hb dX12_again_11 (by decide) (fun c2 => ?_) (fun c2 => ?_)
  · refine lv_bipush (v := (-2)) hx hb dX12_again_23 (by decide) ?_
    subst hAe
    rw [hQ]
    exact W.iret (v := (-2)) hx hb hr (fun t ht hW => ⟨⟨(-2), (), rfl, rfl, by rw [ht]; exact hP, hK.warm hW, hD⟩, hS.F ht⟩) hS.2.2 dX12_again_25
  · have q3 := mm_neL (lo := 1) (mm_ne c2) mm_k0 mm_k0 (by decide) (by decide)
    exact mm_no q3 (by decide)

set_option maxHeartbeats 4000000 in
set_option maxRecDepth 100000 in
theorem K158_X11_first (l : Launch) (G : va_G) (cy : Nat → ClassId) (sz : Nat) (a_0 : Nat) (i_0 : Int32) (i_1 : Int32) (i_2 : Int32) (i_3 : Int32) (a_1 : Nat) (a_2 : Nat) (a_3 : Nat) (a_4 : Nat) (a_5 : Nat) (a_6 : Nat) (a_7 : Nat) (a_8 : Nat) (a_9 : Nat) (a_10 : Nat) (a_11 : Nat) (a_24 : Nat) (a_25 : Nat) (k_0 : Int32) (k_1 : Int32) (k_2 : Int32) (k_3 : Int32) (k_4 : Int32) (k_5 : Int32) (k_6 : Int32) (a_26 : Nat) (a_27 : Nat) (a_28 : Nat) (a_29 : Nat) (a_30 : Nat) (a_31 : Nat) (a_32 : Nat) (a_33 : Nat) (a_34 : Nat) (a_35 : Nat)   : mm_CI l yX11_first (mm_ws yX11_first cX11_first 5 (some .int)) ({ frames := 2, cells := 0, slots := 0, locals := 44 } : Room) G cy sz [(a_0, .inr (11, [.ref a_1, .ref a_2, .ref a_3, .ref a_4, .ref a_5, .ref a_6, .ref a_7, .ref a_8, .ref a_9, .ref a_10, .ref a_11])), (a_3, .inr (10, [.ref a_24, .ref a_25])), (a_24, .inr (0, [.int k_0, .int k_1, .int k_2, .int k_3, .int k_4, .int 0, .int k_5, .int k_6, .ref a_26, .ref a_27, .ref a_28, .ref a_29, .ref a_30, .ref a_31, .ref a_32, .ref a_33, .ref a_34, .ref a_35]))] [.ref a_0, .int i_0, .int i_1, .int i_2, .int i_3] (fun u : Unit => [(a_0, .inr (11, [.ref a_1, .ref a_2, .ref a_3, .ref a_4, .ref a_5, .ref a_6, .ref a_7, .ref a_8, .ref a_9, .ref a_10, .ref a_11])), (a_3, .inr (10, [.ref a_24, .ref a_25])), (a_24, .inr (0, [.int k_0, .int k_1, .int k_2, .int k_3, .int k_4, .int 0, .int k_5, .int k_6, .ref a_26, .ref a_27, .ref a_28, .ref a_29, .ref a_30, .ref a_31, .ref a_32, .ref a_33, .ref a_34, .ref a_35]))]) (fun (r : Int32) (u : Unit) => (-2) = r) 0 0 := by
  refine mm_begin (lv := [(0, .ref a_0), (1, .int i_0), (2, .int i_1), (3, .int i_2), (4, .int i_3)]) (by decide) (Nat.le_of_ble_eq_true rfl) rfl ?_
  intro p e s m below meth c A ls R args Q H locs hRe hQ hAe hx hb hr hlocks hml hown hnm hts hsz hA hS hP hK hD hl
  have hRf : R.frames = 2 := by rw [hRe]
  have hRl : R.locals = 44 := by rw [hRe]
  have hRc : R.cells = 0 := by rw [hRe]
  have hRs : R.slots = 0 := by rw [hRe]
  refine lv_aload_n hx hb dX11_first_0 rfl (lv_at hl 0 rfl) ?_
  refine lv_iload_n hx hb dX11_first_1 rfl (lv_at hl 1 rfl) ?_
  refine lv_iload_n hx hb dX11_first_2 rfl (lv_at hl 2 rfl) ?_
  refine lv_iload_n hx hb dX11_first_3 rfl (lv_at hl 3 rfl) ?_
  refine mm_finir (va_runV (As := [.int i_0, .int i_1, .int i_2]) (rest := []) ⟨hx, hb, hml, hown, hts⟩ (K150_X11_isReading l G cy H.size a_0 i_0 i_1 i_2 a_1 a_2 a_3 a_4 a_5 a_6 a_7 a_8 a_9 a_10 a_11 a_24 a_25 k_0 k_1 k_2 k_3 k_4 k_5 k_6 a_26 a_27 a_28 a_29 a_30 a_31 a_32 a_33 a_34 a_35 ) (cwV 3 hts (mm_gV mm_w825 mm_w826 mm_w827 mm_w2 mm_w828) rfl rfl rfl hd_X11_isReading ⟨by rw [hRf]; exact Nat.le_of_ble_eq_true rfl, by rw [hRl]; exact Nat.le_of_ble_eq_true rfl⟩) (mm_preV hK hP hD [0, 1, 2] rfl rfl 0 rfl rfl rfl) rfl rfl hl.1 rfl (lv_room (Nat.le_of_ble_eq_true rfl)) dX11_first_4 ⟨by rw [hRc]; exact Nat.le_of_ble_eq_true rfl, by rw [hRs]; exact Nat.le_of_ble_eq_true rfl⟩) hP hD hS hA [0, 1, 2] rfl (fun _ => rfl) ?_
  clear hP hD hS
  clear H locs
  intro v1 _u H locs hw hP hD hS
  subst hw
  refine lv_if_eq (tgt := 18) hx hb dX11_first_7 (by decide) (fun c2 => ?_) (fun c2 => ?_)
  · refine lv_bipush (v := (-2)) hx hb dX11_first_18 (by decide) ?_
    subst hAe
    rw [hQ]
    exact W.iret (v := (-2)) hx hb hr (fun t ht hW => ⟨⟨(-2), (), rfl, rfl, by rw [ht]; exact hP, hK.warm hW, hD⟩, hS.F ht⟩) hS.2.2 dX11_first_20
  · have q3 := mm_neL (lo := 1) (mm_ne c2) mm_k0 mm_k0 (by decide) (by decide)
    exact mm_no q3 (by decide)

set_option maxHeartbeats 4000000 in
set_option maxRecDepth 100000 in
theorem K159_X12_first (l : Launch) (G : va_G) (cy : Nat → ClassId) (sz : Nat) (a_0 : Nat) (i_0 : Int32) (i_1 : Int32) (i_2 : Int32) (i_3 : Int32) (a_1 : Nat) (a_2 : Nat) (a_3 : Nat) (a_4 : Nat) (a_5 : Nat) (k_0 : Int32) (k_1 : Int32) (k_2 : Int32) (k_3 : Int32) (k_4 : Int32) (k_5 : Int64) (k_6 : Int32) (k_7 : Int32) (k_8 : Int32) (k_9 : Int32) (a_6 : Nat) (a_7 : Nat) (a_8 : Nat) (a_9 : Nat) (a_10 : Nat) (a_11 : Nat) (a_12 : Nat) (a_13 : Nat) (a_14 : Nat) (a_15 : Nat) (a_16 : Nat) (a_17 : Nat) (a_18 : Nat) (k_10 : Int32) (k_11 : Int32) (k_12 : Int32) (k_13 : Int32) (k_14 : Int32) (k_15 : Int32) (a_19 : Nat) (k_16 : Int32) (a_20 : Nat)   : mm_CI l yX12_first (mm_ws yX12_first cX12_first 6 (some .int)) ({ frames := 3, cells := 0, slots := 0, locals := 68 } : Room) G cy sz [(a_0, .inr (12, [.int 0, .ref a_1, .ref a_2, .ref a_3, .ref a_4, .ref a_5, .int k_0, .int k_1, .int k_2, .int k_3, .int k_4, .long k_5, .int k_6, .int k_7, .int k_8, .int k_9, .ref a_6, .ref a_7, .ref a_8, .ref a_9, .ref a_10, .ref a_11, .ref a_12, .ref a_13, .ref a_14, .ref a_15, .ref a_16, .ref a_17, .ref a_18, .int k_10, .int k_11, .int k_12, .int k_13, .int k_14, .int k_15, .ref a_19, .int k_16, .ref a_20])), (a_7, .inl (cy 1, 30, .inl (fun _ => 0)))] [.ref a_0, .int i_0, .int i_1, .int i_2, .int i_3] (fun u : Unit => [(a_0, .inr (12, [.int 0, .ref a_1, .ref a_2, .ref a_3, .ref a_4, .ref a_5, .int k_0, .int k_1, .int k_2, .int k_3, .int k_4, .long k_5, .int k_6, .int k_7, .int k_8, .int k_9, .ref a_6, .ref a_7, .ref a_8, .ref a_9, .ref a_10, .ref a_11, .ref a_12, .ref a_13, .ref a_14, .ref a_15, .ref a_16, .ref a_17, .ref a_18, .int k_10, .int k_11, .int k_12, .int k_13, .int k_14, .int k_15, .ref a_19, .int k_16, .ref a_20])), (a_7, .inl (cy 1, 30, .inl (fun _ => 0)))]) (fun (r : Int32) (u : Unit) => (-2) = r) 0 0 := by
  refine mm_begin (lv := [(0, .ref a_0), (1, .int i_0), (2, .int i_1), (3, .int i_2), (4, .int i_3)]) (by decide) (Nat.le_of_ble_eq_true rfl) rfl ?_
  intro p e s m below meth c A ls R args Q H locs hRe hQ hAe hx hb hr hlocks hml hown hnm hts hsz hA hS hP hK hD hl
  have hRf : R.frames = 3 := by rw [hRe]
  have hRl : R.locals = 68 := by rw [hRe]
  have hRc : R.cells = 0 := by rw [hRe]
  have hRs : R.slots = 0 := by rw [hRe]
  refine lv_aload_n hx hb dX12_first_0 rfl (lv_at hl 0 rfl) ?_
  refine lv_iconst (v := 0) hx hb dX12_first_1 (by decide) ?_
  refine va_put (D := G) (ci := 12) (v := .int 0) (ty := tyX12 0) (C := RX12) (T := TX12) (N := 38) hx hb hts (mm_i inlX12) tyX12 tyX12_ok nmX12 hown hK.1 hP hD hS 0 rfl rfl 0 (by decide) (mm_h hts mm_w177) (fun _ h9 => h9) rfl (tyX12_ok 0 (by decide)) rfl rfl (Nat.le_of_ble_eq_true rfl) dX12_first_2 ?_
  clear hP hD hS
  clear H locs
  intro H locs (hP : va_P G vwCl [(a_0, .inr (12, [.int 0, .ref a_1, .ref a_2, .ref a_3, .ref a_4, .ref a_5, .int k_0, .int k_1, .int k_2, .int k_3, .int k_4, .long k_5, .int k_6, .int k_7, .int k_8, .int k_9, .ref a_6, .ref a_7, .ref a_8, .ref a_9, .ref a_10, .ref a_11, .ref a_12, .ref a_13, .ref a_14, .ref a_15, .ref a_16, .ref a_17, .ref a_18, .int k_10, .int k_11, .int k_12, .int k_13, .int k_14, .int k_15, .ref a_19, .int k_16, .ref a_20])), (a_7, .inl (cy 1, 30, .inl (fun _ => 0)))] H) (hD : va_D A [(a_0, .inr (12, [.int 0, .ref a_1, .ref a_2, .ref a_3, .ref a_4, .ref a_5, .int k_0, .int k_1, .int k_2, .int k_3, .int k_4, .long k_5, .int k_6, .int k_7, .int k_8, .int k_9, .ref a_6, .ref a_7, .ref a_8, .ref a_9, .ref a_10, .ref a_11, .ref a_12, .ref a_13, .ref a_14, .ref a_15, .ref a_16, .ref a_17, .ref a_18, .int k_10, .int k_11, .int k_12, .int k_13, .int k_14, .int k_15, .ref a_19, .int k_16, .ref a_20])), (a_7, .inl (cy 1, 30, .inl (fun _ => 0)))]) hS
  refine lv_aload_n hx hb dX12_first_5 rfl (lv_at hl 0 rfl) ?_
  refine lv_iload_n hx hb dX12_first_6 rfl (lv_at hl 1 rfl) ?_
  refine lv_iload_n hx hb dX12_first_7 rfl (lv_at hl 2 rfl) ?_
  refine mm_finir (va_runV (As := [.int i_0, .int i_1]) (rest := []) ⟨hx, hb, hml, hown, hts⟩ (K131_X12_isThen l G cy H.size a_0 i_0 i_1 0 a_1 a_2 a_3 a_4 a_5 k_0 k_1 k_2 k_3 k_4 k_5 k_6 k_7 k_8 k_9 a_6 a_7 a_8 a_9 a_10 a_11 a_12 a_13 a_14 a_15 a_16 a_17 a_18 k_10 k_11 k_12 k_13 k_14 k_15 a_19 k_16 a_20 ) (cwV 2 hts (mm_gV mm_w678 mm_w679 mm_w680 mm_w5 mm_w681) rfl rfl rfl hd_X12_isThen ⟨by rw [hRf]; exact Nat.le_of_ble_eq_true rfl, by rw [hRl]; exact Nat.le_of_ble_eq_true rfl⟩) (mm_preV hK hP hD [0, 1] rfl rfl 0 rfl rfl rfl) rfl rfl hl.1 rfl (lv_room (Nat.le_of_ble_eq_true rfl)) dX12_first_8 ⟨by rw [hRc]; exact Nat.le_of_ble_eq_true rfl, by rw [hRs]; exact Nat.le_of_ble_eq_true rfl⟩) hP hD hS hA [0, 1] rfl (fun _ => rfl) ?_
  clear hP hD hS
  clear H locs
  intro v1 _u H locs hw hP hD hS
  subst hw
  refine lv_if_eq (tgt := 32) hx hb dX12_first_11 (by decide) (fun c2 => ?_) (fun c2 => ?_)
  · refine lv_bipush (v := (-2)) hx hb dX12_first_32 (by decide) ?_
    subst hAe
    rw [hQ]
    exact W.iret (v := (-2)) hx hb hr (fun t ht hW => ⟨⟨(-2), (), rfl, rfl, by rw [ht]; exact hP, hK.warm hW, hD⟩, hS.F ht⟩) hS.2.2 dX12_first_34
  · have q3 := mm_neL (lo := 1) (mm_ne c2) mm_k0 mm_k0 (by decide) (by decide)
    exact mm_no q3 (by decide)

set_option maxHeartbeats 4000000 in
set_option maxRecDepth 100000 in
theorem K160_X11_best (l : Launch) (G : va_G) (cy : Nat → ClassId) (sz : Nat) (a_0 : Nat) (i_0 : Int32) (i_1 : Int32) (i_2 : Int32) (i_3 : Int32) (a_1 : Nat) (a_2 : Nat) (a_3 : Nat) (a_4 : Nat) (a_5 : Nat) (a_6 : Nat) (a_7 : Nat) (a_8 : Nat) (a_9 : Nat) (a_10 : Nat) (a_11 : Nat) (a_24 : Nat) (a_25 : Nat) (k_0 : Int32) (k_1 : Int32) (k_2 : Int32) (k_3 : Int32) (k_4 : Int32) (k_5 : Int32) (k_6 : Int32) (a_26 : Nat) (a_27 : Nat) (a_28 : Nat) (a_29 : Nat) (a_30 : Nat) (a_31 : Nat) (a_32 : Nat) (a_33 : Nat) (a_34 : Nat) (a_35 : Nat)   : mm_CI l yX11_best (mm_ws yX11_best cX11_best 5 (some .int)) ({ frames := 2, cells := 0, slots := 0, locals := 44 } : Room) G cy sz [(a_0, .inr (11, [.ref a_1, .ref a_2, .ref a_3, .ref a_4, .ref a_5, .ref a_6, .ref a_7, .ref a_8, .ref a_9, .ref a_10, .ref a_11])), (a_3, .inr (10, [.ref a_24, .ref a_25])), (a_24, .inr (0, [.int k_0, .int k_1, .int k_2, .int k_3, .int k_4, .int 0, .int k_5, .int k_6, .ref a_26, .ref a_27, .ref a_28, .ref a_29, .ref a_30, .ref a_31, .ref a_32, .ref a_33, .ref a_34, .ref a_35]))] [.ref a_0, .int i_0, .int i_1, .int i_2, .int i_3] (fun u : Unit => [(a_0, .inr (11, [.ref a_1, .ref a_2, .ref a_3, .ref a_4, .ref a_5, .ref a_6, .ref a_7, .ref a_8, .ref a_9, .ref a_10, .ref a_11])), (a_3, .inr (10, [.ref a_24, .ref a_25])), (a_24, .inr (0, [.int k_0, .int k_1, .int k_2, .int k_3, .int k_4, .int 0, .int k_5, .int k_6, .ref a_26, .ref a_27, .ref a_28, .ref a_29, .ref a_30, .ref a_31, .ref a_32, .ref a_33, .ref a_34, .ref a_35]))]) (fun (r : Int32) (u : Unit) => (-2) = r) 0 0 := by
  refine mm_begin (lv := [(0, .ref a_0), (1, .int i_0), (2, .int i_1), (3, .int i_2), (4, .int i_3)]) (by decide) (Nat.le_of_ble_eq_true rfl) rfl ?_
  intro p e s m below meth c A ls R args Q H locs hRe hQ hAe hx hb hr hlocks hml hown hnm hts hsz hA hS hP hK hD hl
  have hRf : R.frames = 2 := by rw [hRe]
  have hRl : R.locals = 44 := by rw [hRe]
  have hRc : R.cells = 0 := by rw [hRe]
  have hRs : R.slots = 0 := by rw [hRe]
  refine lv_aload_n hx hb dX11_best_0 rfl (lv_at hl 0 rfl) ?_
  refine lv_iload_n hx hb dX11_best_1 rfl (lv_at hl 1 rfl) ?_
  refine lv_iload_n hx hb dX11_best_2 rfl (lv_at hl 2 rfl) ?_
  refine lv_iload hx hb dX11_best_3 (lv_at hl 4 rfl) ?_
  refine mm_finir (va_runV (As := [.int i_0, .int i_1, .int i_3]) (rest := []) ⟨hx, hb, hml, hown, hts⟩ (K150_X11_isReading l G cy H.size a_0 i_0 i_1 i_3 a_1 a_2 a_3 a_4 a_5 a_6 a_7 a_8 a_9 a_10 a_11 a_24 a_25 k_0 k_1 k_2 k_3 k_4 k_5 k_6 a_26 a_27 a_28 a_29 a_30 a_31 a_32 a_33 a_34 a_35 ) (cwV 3 hts (mm_gV mm_w825 mm_w826 mm_w827 mm_w2 mm_w828) rfl rfl rfl hd_X11_isReading ⟨by rw [hRf]; exact Nat.le_of_ble_eq_true rfl, by rw [hRl]; exact Nat.le_of_ble_eq_true rfl⟩) (mm_preV hK hP hD [0, 1, 2] rfl rfl 0 rfl rfl rfl) rfl rfl hl.1 rfl (lv_room (Nat.le_of_ble_eq_true rfl)) dX11_best_5 ⟨by rw [hRc]; exact Nat.le_of_ble_eq_true rfl, by rw [hRs]; exact Nat.le_of_ble_eq_true rfl⟩) hP hD hS hA [0, 1, 2] rfl (fun _ => rfl) ?_
  clear hP hD hS
  clear H locs
  intro v1 _u H locs hw hP hD hS
  subst hw
  refine lv_if_eq (tgt := 23) hx hb dX11_best_8 (by decide) (fun c2 => ?_) (fun c2 => ?_)
  · refine lv_bipush (v := (-2)) hx hb dX11_best_23 (by decide) ?_
    subst hAe
    rw [hQ]
    exact W.iret (v := (-2)) hx hb hr (fun t ht hW => ⟨⟨(-2), (), rfl, rfl, by rw [ht]; exact hP, hK.warm hW, hD⟩, hS.F ht⟩) hS.2.2 dX11_best_25
  · have q3 := mm_neL (lo := 1) (mm_ne c2) mm_k0 mm_k0 (by decide) (by decide)
    exact mm_no q3 (by decide)

set_option maxHeartbeats 4000000 in
set_option maxRecDepth 100000 in
theorem K161_X12_best (l : Launch) (G : va_G) (cy : Nat → ClassId) (sz : Nat) (a_0 : Nat) (i_0 : Int32) (i_1 : Int32) (i_2 : Int32) (i_3 : Int32) (a_1 : Nat) (a_2 : Nat) (a_3 : Nat) (a_4 : Nat) (a_5 : Nat) (k_0 : Int32) (k_1 : Int32) (k_2 : Int32) (k_3 : Int32) (k_4 : Int32) (k_5 : Int64) (k_6 : Int32) (k_7 : Int32) (k_8 : Int32) (k_9 : Int32) (a_6 : Nat) (a_7 : Nat) (a_8 : Nat) (a_9 : Nat) (a_10 : Nat) (a_11 : Nat) (a_12 : Nat) (a_13 : Nat) (a_14 : Nat) (a_15 : Nat) (a_16 : Nat) (a_17 : Nat) (a_18 : Nat) (k_10 : Int32) (k_11 : Int32) (k_12 : Int32) (k_13 : Int32) (k_14 : Int32) (k_15 : Int32) (a_19 : Nat) (k_16 : Int32) (a_20 : Nat)   : mm_CI l yX12_best (mm_ws yX12_best cX12_best 5 (some .int)) ({ frames := 3, cells := 0, slots := 0, locals := 68 } : Room) G cy sz [(a_0, .inr (12, [.int 0, .ref a_1, .ref a_2, .ref a_3, .ref a_4, .ref a_5, .int k_0, .int k_1, .int k_2, .int k_3, .int k_4, .long k_5, .int k_6, .int k_7, .int k_8, .int k_9, .ref a_6, .ref a_7, .ref a_8, .ref a_9, .ref a_10, .ref a_11, .ref a_12, .ref a_13, .ref a_14, .ref a_15, .ref a_16, .ref a_17, .ref a_18, .int k_10, .int k_11, .int k_12, .int k_13, .int k_14, .int k_15, .ref a_19, .int k_16, .ref a_20])), (a_7, .inl (cy 1, 30, .inl (fun _ => 0)))] [.ref a_0, .int i_0, .int i_1, .int i_2, .int i_3] (fun u : Unit => [(a_0, .inr (12, [.int 0, .ref a_1, .ref a_2, .ref a_3, .ref a_4, .ref a_5, .int k_0, .int k_1, .int k_2, .int k_3, .int k_4, .long k_5, .int k_6, .int k_7, .int k_8, .int k_9, .ref a_6, .ref a_7, .ref a_8, .ref a_9, .ref a_10, .ref a_11, .ref a_12, .ref a_13, .ref a_14, .ref a_15, .ref a_16, .ref a_17, .ref a_18, .int k_10, .int k_11, .int k_12, .int k_13, .int k_14, .int k_15, .ref a_19, .int k_16, .ref a_20])), (a_7, .inl (cy 1, 30, .inl (fun _ => 0)))]) (fun (r : Int32) (u : Unit) => (-2) = r) 0 0 := by
  refine mm_begin (lv := [(0, .ref a_0), (1, .int i_0), (2, .int i_1), (3, .int i_2), (4, .int i_3)]) (by decide) (Nat.le_of_ble_eq_true rfl) rfl ?_
  intro p e s m below meth c A ls R args Q H locs hRe hQ hAe hx hb hr hlocks hml hown hnm hts hsz hA hS hP hK hD hl
  have hRf : R.frames = 3 := by rw [hRe]
  have hRl : R.locals = 68 := by rw [hRe]
  have hRc : R.cells = 0 := by rw [hRe]
  have hRs : R.slots = 0 := by rw [hRe]
  refine lv_aload_n hx hb dX12_best_0 rfl (lv_at hl 0 rfl) ?_
  refine lv_iconst (v := 0) hx hb dX12_best_1 (by decide) ?_
  refine va_put (D := G) (ci := 12) (v := .int 0) (ty := tyX12 0) (C := RX12) (T := TX12) (N := 38) hx hb hts (mm_i inlX12) tyX12 tyX12_ok nmX12 hown hK.1 hP hD hS 0 rfl rfl 0 (by decide) (mm_h hts mm_w177) (fun _ h9 => h9) rfl (tyX12_ok 0 (by decide)) rfl rfl (Nat.le_of_ble_eq_true rfl) dX12_best_2 ?_
  clear hP hD hS
  clear H locs
  intro H locs (hP : va_P G vwCl [(a_0, .inr (12, [.int 0, .ref a_1, .ref a_2, .ref a_3, .ref a_4, .ref a_5, .int k_0, .int k_1, .int k_2, .int k_3, .int k_4, .long k_5, .int k_6, .int k_7, .int k_8, .int k_9, .ref a_6, .ref a_7, .ref a_8, .ref a_9, .ref a_10, .ref a_11, .ref a_12, .ref a_13, .ref a_14, .ref a_15, .ref a_16, .ref a_17, .ref a_18, .int k_10, .int k_11, .int k_12, .int k_13, .int k_14, .int k_15, .ref a_19, .int k_16, .ref a_20])), (a_7, .inl (cy 1, 30, .inl (fun _ => 0)))] H) (hD : va_D A [(a_0, .inr (12, [.int 0, .ref a_1, .ref a_2, .ref a_3, .ref a_4, .ref a_5, .int k_0, .int k_1, .int k_2, .int k_3, .int k_4, .long k_5, .int k_6, .int k_7, .int k_8, .int k_9, .ref a_6, .ref a_7, .ref a_8, .ref a_9, .ref a_10, .ref a_11, .ref a_12, .ref a_13, .ref a_14, .ref a_15, .ref a_16, .ref a_17, .ref a_18, .int k_10, .int k_11, .int k_12, .int k_13, .int k_14, .int k_15, .ref a_19, .int k_16, .ref a_20])), (a_7, .inl (cy 1, 30, .inl (fun _ => 0)))]) hS
  refine lv_aload_n hx hb dX12_best_5 rfl (lv_at hl 0 rfl) ?_
  refine lv_iload_n hx hb dX12_best_6 rfl (lv_at hl 1 rfl) ?_
  refine lv_iload_n hx hb dX12_best_7 rfl (lv_at hl 2 rfl) ?_
  refine mm_finir (va_runV (As := [.int i_0, .int i_1]) (rest := []) ⟨hx, hb, hml, hown, hts⟩ (K131_X12_isThen l G cy H.size a_0 i_0 i_1 0 a_1 a_2 a_3 a_4 a_5 k_0 k_1 k_2 k_3 k_4 k_5 k_6 k_7 k_8 k_9 a_6 a_7 a_8 a_9 a_10 a_11 a_12 a_13 a_14 a_15 a_16 a_17 a_18 k_10 k_11 k_12 k_13 k_14 k_15 a_19 k_16 a_20 ) (cwV 2 hts (mm_gV mm_w678 mm_w679 mm_w680 mm_w5 mm_w681) rfl rfl rfl hd_X12_isThen ⟨by rw [hRf]; exact Nat.le_of_ble_eq_true rfl, by rw [hRl]; exact Nat.le_of_ble_eq_true rfl⟩) (mm_preV hK hP hD [0, 1] rfl rfl 0 rfl rfl rfl) rfl rfl hl.1 rfl (lv_room (Nat.le_of_ble_eq_true rfl)) dX12_best_8 ⟨by rw [hRc]; exact Nat.le_of_ble_eq_true rfl, by rw [hRs]; exact Nat.le_of_ble_eq_true rfl⟩) hP hD hS hA [0, 1] rfl (fun _ => rfl) ?_
  clear hP hD hS
  clear H locs
  intro v1 _u H locs hw hP hD hS
  subst hw
  refine lv_if_eq (tgt := 49) hx hb dX12_best_11 (by decide) (fun c2 => ?_) (fun c2 => ?_)
  · refine lv_bipush (v := (-2)) hx hb dX12_best_49 (by decide) ?_
    subst hAe
    rw [hQ]
    exact W.iret (v := (-2)) hx hb hr (fun t ht hW => ⟨⟨(-2), (), rfl, rfl, by rw [ht]; exact hP, hK.warm hW, hD⟩, hS.F ht⟩) hS.2.2 dX12_best_51
  · have q3 := mm_neL (lo := 1) (mm_ne c2) mm_k0 mm_k0 (by decide) (by decide)
    exact mm_no q3 (by decide)

set_option maxHeartbeats 4000000 in
set_option maxRecDepth 100000 in
theorem K162_X11_worst (l : Launch) (G : va_G) (cy : Nat → ClassId) (sz : Nat) (a_0 : Nat) (i_0 : Int32) (i_1 : Int32) (i_2 : Int32) (i_3 : Int32) (a_1 : Nat) (a_2 : Nat) (a_3 : Nat) (a_4 : Nat) (a_5 : Nat) (a_6 : Nat) (a_7 : Nat) (a_8 : Nat) (a_9 : Nat) (a_10 : Nat) (a_11 : Nat) (a_24 : Nat) (a_25 : Nat) (k_0 : Int32) (k_1 : Int32) (k_2 : Int32) (k_3 : Int32) (k_4 : Int32) (k_5 : Int32) (k_6 : Int32) (a_26 : Nat) (a_27 : Nat) (a_28 : Nat) (a_29 : Nat) (a_30 : Nat) (a_31 : Nat) (a_32 : Nat) (a_33 : Nat) (a_34 : Nat) (a_35 : Nat)   : mm_CI l yX11_worst (mm_ws yX11_worst cX11_worst 5 (some .int)) ({ frames := 2, cells := 0, slots := 0, locals := 44 } : Room) G cy sz [(a_0, .inr (11, [.ref a_1, .ref a_2, .ref a_3, .ref a_4, .ref a_5, .ref a_6, .ref a_7, .ref a_8, .ref a_9, .ref a_10, .ref a_11])), (a_3, .inr (10, [.ref a_24, .ref a_25])), (a_24, .inr (0, [.int k_0, .int k_1, .int k_2, .int k_3, .int k_4, .int 0, .int k_5, .int k_6, .ref a_26, .ref a_27, .ref a_28, .ref a_29, .ref a_30, .ref a_31, .ref a_32, .ref a_33, .ref a_34, .ref a_35]))] [.ref a_0, .int i_0, .int i_1, .int i_2, .int i_3] (fun u : Unit => [(a_0, .inr (11, [.ref a_1, .ref a_2, .ref a_3, .ref a_4, .ref a_5, .ref a_6, .ref a_7, .ref a_8, .ref a_9, .ref a_10, .ref a_11])), (a_3, .inr (10, [.ref a_24, .ref a_25])), (a_24, .inr (0, [.int k_0, .int k_1, .int k_2, .int k_3, .int k_4, .int 0, .int k_5, .int k_6, .ref a_26, .ref a_27, .ref a_28, .ref a_29, .ref a_30, .ref a_31, .ref a_32, .ref a_33, .ref a_34, .ref a_35]))]) (fun (r : Int32) (u : Unit) => (-2) = r) 0 0 := by
  refine mm_begin (lv := [(0, .ref a_0), (1, .int i_0), (2, .int i_1), (3, .int i_2), (4, .int i_3)]) (by decide) (Nat.le_of_ble_eq_true rfl) rfl ?_
  intro p e s m below meth c A ls R args Q H locs hRe hQ hAe hx hb hr hlocks hml hown hnm hts hsz hA hS hP hK hD hl
  have hRf : R.frames = 2 := by rw [hRe]
  have hRl : R.locals = 44 := by rw [hRe]
  have hRc : R.cells = 0 := by rw [hRe]
  have hRs : R.slots = 0 := by rw [hRe]
  refine lv_aload_n hx hb dX11_worst_0 rfl (lv_at hl 0 rfl) ?_
  refine lv_iload_n hx hb dX11_worst_1 rfl (lv_at hl 1 rfl) ?_
  refine lv_iload_n hx hb dX11_worst_2 rfl (lv_at hl 2 rfl) ?_
  refine lv_iload hx hb dX11_worst_3 (lv_at hl 4 rfl) ?_
  refine mm_finir (va_runV (As := [.int i_0, .int i_1, .int i_3]) (rest := []) ⟨hx, hb, hml, hown, hts⟩ (K150_X11_isReading l G cy H.size a_0 i_0 i_1 i_3 a_1 a_2 a_3 a_4 a_5 a_6 a_7 a_8 a_9 a_10 a_11 a_24 a_25 k_0 k_1 k_2 k_3 k_4 k_5 k_6 a_26 a_27 a_28 a_29 a_30 a_31 a_32 a_33 a_34 a_35 ) (cwV 3 hts (mm_gV mm_w825 mm_w826 mm_w827 mm_w2 mm_w828) rfl rfl rfl hd_X11_isReading ⟨by rw [hRf]; exact Nat.le_of_ble_eq_true rfl, by rw [hRl]; exact Nat.le_of_ble_eq_true rfl⟩) (mm_preV hK hP hD [0, 1, 2] rfl rfl 0 rfl rfl rfl) rfl rfl hl.1 rfl (lv_room (Nat.le_of_ble_eq_true rfl)) dX11_worst_5 ⟨by rw [hRc]; exact Nat.le_of_ble_eq_true rfl, by rw [hRs]; exact Nat.le_of_ble_eq_true rfl⟩) hP hD hS hA [0, 1, 2] rfl (fun _ => rfl) ?_
  clear hP hD hS
  clear H locs
  intro v1 _u H locs hw hP hD hS
  subst hw
  refine lv_if_eq (tgt := 23) hx hb dX11_worst_8 (by decide) (fun c2 => ?_) (fun c2 => ?_)
  · refine lv_bipush (v := (-2)) hx hb dX11_worst_23 (by decide) ?_
    subst hAe
    rw [hQ]
    exact W.iret (v := (-2)) hx hb hr (fun t ht hW => ⟨⟨(-2), (), rfl, rfl, by rw [ht]; exact hP, hK.warm hW, hD⟩, hS.F ht⟩) hS.2.2 dX11_worst_25
  · have q3 := mm_neL (lo := 1) (mm_ne c2) mm_k0 mm_k0 (by decide) (by decide)
    exact mm_no q3 (by decide)

set_option maxHeartbeats 4000000 in
set_option maxRecDepth 100000 in
theorem K163_X12_worst (l : Launch) (G : va_G) (cy : Nat → ClassId) (sz : Nat) (a_0 : Nat) (i_0 : Int32) (i_1 : Int32) (i_2 : Int32) (i_3 : Int32) (a_1 : Nat) (a_2 : Nat) (a_3 : Nat) (a_4 : Nat) (a_5 : Nat) (k_0 : Int32) (k_1 : Int32) (k_2 : Int32) (k_3 : Int32) (k_4 : Int32) (k_5 : Int64) (k_6 : Int32) (k_7 : Int32) (k_8 : Int32) (k_9 : Int32) (a_6 : Nat) (a_7 : Nat) (a_8 : Nat) (a_9 : Nat) (a_10 : Nat) (a_11 : Nat) (a_12 : Nat) (a_13 : Nat) (a_14 : Nat) (a_15 : Nat) (a_16 : Nat) (a_17 : Nat) (a_18 : Nat) (k_10 : Int32) (k_11 : Int32) (k_12 : Int32) (k_13 : Int32) (k_14 : Int32) (k_15 : Int32) (a_19 : Nat) (k_16 : Int32) (a_20 : Nat)   : mm_CI l yX12_worst (mm_ws yX12_worst cX12_worst 5 (some .int)) ({ frames := 3, cells := 0, slots := 0, locals := 68 } : Room) G cy sz [(a_0, .inr (12, [.int 0, .ref a_1, .ref a_2, .ref a_3, .ref a_4, .ref a_5, .int k_0, .int k_1, .int k_2, .int k_3, .int k_4, .long k_5, .int k_6, .int k_7, .int k_8, .int k_9, .ref a_6, .ref a_7, .ref a_8, .ref a_9, .ref a_10, .ref a_11, .ref a_12, .ref a_13, .ref a_14, .ref a_15, .ref a_16, .ref a_17, .ref a_18, .int k_10, .int k_11, .int k_12, .int k_13, .int k_14, .int k_15, .ref a_19, .int k_16, .ref a_20])), (a_7, .inl (cy 1, 30, .inl (fun _ => 0)))] [.ref a_0, .int i_0, .int i_1, .int i_2, .int i_3] (fun u : Unit => [(a_0, .inr (12, [.int 0, .ref a_1, .ref a_2, .ref a_3, .ref a_4, .ref a_5, .int k_0, .int k_1, .int k_2, .int k_3, .int k_4, .long k_5, .int k_6, .int k_7, .int k_8, .int k_9, .ref a_6, .ref a_7, .ref a_8, .ref a_9, .ref a_10, .ref a_11, .ref a_12, .ref a_13, .ref a_14, .ref a_15, .ref a_16, .ref a_17, .ref a_18, .int k_10, .int k_11, .int k_12, .int k_13, .int k_14, .int k_15, .ref a_19, .int k_16, .ref a_20])), (a_7, .inl (cy 1, 30, .inl (fun _ => 0)))]) (fun (r : Int32) (u : Unit) => (-2) = r) 0 0 := by
  refine mm_begin (lv := [(0, .ref a_0), (1, .int i_0), (2, .int i_1), (3, .int i_2), (4, .int i_3)]) (by decide) (Nat.le_of_ble_eq_true rfl) rfl ?_
  intro p e s m below meth c A ls R args Q H locs hRe hQ hAe hx hb hr hlocks hml hown hnm hts hsz hA hS hP hK hD hl
  have hRf : R.frames = 3 := by rw [hRe]
  have hRl : R.locals = 68 := by rw [hRe]
  have hRc : R.cells = 0 := by rw [hRe]
  have hRs : R.slots = 0 := by rw [hRe]
  refine lv_aload_n hx hb dX12_worst_0 rfl (lv_at hl 0 rfl) ?_
  refine lv_iconst (v := 0) hx hb dX12_worst_1 (by decide) ?_
  refine va_put (D := G) (ci := 12) (v := .int 0) (ty := tyX12 0) (C := RX12) (T := TX12) (N := 38) hx hb hts (mm_i inlX12) tyX12 tyX12_ok nmX12 hown hK.1 hP hD hS 0 rfl rfl 0 (by decide) (mm_h hts mm_w177) (fun _ h9 => h9) rfl (tyX12_ok 0 (by decide)) rfl rfl (Nat.le_of_ble_eq_true rfl) dX12_worst_2 ?_
  clear hP hD hS
  clear H locs
  intro H locs (hP : va_P G vwCl [(a_0, .inr (12, [.int 0, .ref a_1, .ref a_2, .ref a_3, .ref a_4, .ref a_5, .int k_0, .int k_1, .int k_2, .int k_3, .int k_4, .long k_5, .int k_6, .int k_7, .int k_8, .int k_9, .ref a_6, .ref a_7, .ref a_8, .ref a_9, .ref a_10, .ref a_11, .ref a_12, .ref a_13, .ref a_14, .ref a_15, .ref a_16, .ref a_17, .ref a_18, .int k_10, .int k_11, .int k_12, .int k_13, .int k_14, .int k_15, .ref a_19, .int k_16, .ref a_20])), (a_7, .inl (cy 1, 30, .inl (fun _ => 0)))] H) (hD : va_D A [(a_0, .inr (12, [.int 0, .ref a_1, .ref a_2, .ref a_3, .ref a_4, .ref a_5, .int k_0, .int k_1, .int k_2, .int k_3, .int k_4, .long k_5, .int k_6, .int k_7, .int k_8, .int k_9, .ref a_6, .ref a_7, .ref a_8, .ref a_9, .ref a_10, .ref a_11, .ref a_12, .ref a_13, .ref a_14, .ref a_15, .ref a_16, .ref a_17, .ref a_18, .int k_10, .int k_11, .int k_12, .int k_13, .int k_14, .int k_15, .ref a_19, .int k_16, .ref a_20])), (a_7, .inl (cy 1, 30, .inl (fun _ => 0)))]) hS
  refine lv_aload_n hx hb dX12_worst_5 rfl (lv_at hl 0 rfl) ?_
  refine lv_iload_n hx hb dX12_worst_6 rfl (lv_at hl 1 rfl) ?_
  refine lv_iload_n hx hb dX12_worst_7 rfl (lv_at hl 2 rfl) ?_
  refine mm_finir (va_runV (As := [.int i_0, .int i_1]) (rest := []) ⟨hx, hb, hml, hown, hts⟩ (K131_X12_isThen l G cy H.size a_0 i_0 i_1 0 a_1 a_2 a_3 a_4 a_5 k_0 k_1 k_2 k_3 k_4 k_5 k_6 k_7 k_8 k_9 a_6 a_7 a_8 a_9 a_10 a_11 a_12 a_13 a_14 a_15 a_16 a_17 a_18 k_10 k_11 k_12 k_13 k_14 k_15 a_19 k_16 a_20 ) (cwV 2 hts (mm_gV mm_w678 mm_w679 mm_w680 mm_w5 mm_w681) rfl rfl rfl hd_X12_isThen ⟨by rw [hRf]; exact Nat.le_of_ble_eq_true rfl, by rw [hRl]; exact Nat.le_of_ble_eq_true rfl⟩) (mm_preV hK hP hD [0, 1] rfl rfl 0 rfl rfl rfl) rfl rfl hl.1 rfl (lv_room (Nat.le_of_ble_eq_true rfl)) dX12_worst_8 ⟨by rw [hRc]; exact Nat.le_of_ble_eq_true rfl, by rw [hRs]; exact Nat.le_of_ble_eq_true rfl⟩) hP hD hS hA [0, 1] rfl (fun _ => rfl) ?_
  clear hP hD hS
  clear H locs
  intro v1 _u H locs hw hP hD hS
  subst hw
  refine lv_if_eq (tgt := 49) hx hb dX12_worst_11 (by decide) (fun c2 => ?_) (fun c2 => ?_)
  · refine lv_bipush (v := (-2)) hx hb dX12_worst_49 (by decide) ?_
    subst hAe
    rw [hQ]
    exact W.iret (v := (-2)) hx hb hr (fun t ht hW => ⟨⟨(-2), (), rfl, rfl, by rw [ht]; exact hP, hK.warm hW, hD⟩, hS.F ht⟩) hS.2.2 dX12_worst_51
  · have q3 := mm_neL (lo := 1) (mm_ne c2) mm_k0 mm_k0 (by decide) (by decide)
    exact mm_no q3 (by decide)

set_option maxHeartbeats 4000000 in
set_option maxRecDepth 100000 in
theorem K164_X11_isLandAndText (l : Launch) (G : va_G) (cy : Nat → ClassId) (sz : Nat) (a_0 : Nat) (i_0 : Int32) (i_1 : Int32) (a_1 : Nat) (a_2 : Nat) (a_3 : Nat) (a_4 : Nat) (a_5 : Nat) (a_6 : Nat) (a_7 : Nat) (a_8 : Nat) (a_9 : Nat) (a_10 : Nat) (a_11 : Nat) (a_24 : Nat) (a_25 : Nat) (k_0 : Int32) (k_1 : Int32) (k_2 : Int32) (k_3 : Int32) (k_4 : Int32) (k_5 : Int32) (k_6 : Int32) (a_26 : Nat) (a_27 : Nat) (a_28 : Nat) (a_29 : Nat) (a_30 : Nat) (a_31 : Nat) (a_32 : Nat) (a_33 : Nat) (a_34 : Nat) (a_35 : Nat)   : mm_CI l yX11_isLandAndText (mm_ws yX11_isLandAndText cX11_isLandAndText 3 (some .boolean)) ({ frames := 1, cells := 0, slots := 0, locals := 21 } : Room) G cy sz [(a_0, .inr (11, [.ref a_1, .ref a_2, .ref a_3, .ref a_4, .ref a_5, .ref a_6, .ref a_7, .ref a_8, .ref a_9, .ref a_10, .ref a_11])), (a_3, .inr (10, [.ref a_24, .ref a_25])), (a_24, .inr (0, [.int k_0, .int k_1, .int k_2, .int k_3, .int k_4, .int 0, .int k_5, .int k_6, .ref a_26, .ref a_27, .ref a_28, .ref a_29, .ref a_30, .ref a_31, .ref a_32, .ref a_33, .ref a_34, .ref a_35]))] [.ref a_0, .int i_0, .int i_1] (fun u : Unit => [(a_0, .inr (11, [.ref a_1, .ref a_2, .ref a_3, .ref a_4, .ref a_5, .ref a_6, .ref a_7, .ref a_8, .ref a_9, .ref a_10, .ref a_11])), (a_3, .inr (10, [.ref a_24, .ref a_25])), (a_24, .inr (0, [.int k_0, .int k_1, .int k_2, .int k_3, .int k_4, .int 0, .int k_5, .int k_6, .ref a_26, .ref a_27, .ref a_28, .ref a_29, .ref a_30, .ref a_31, .ref a_32, .ref a_33, .ref a_34, .ref a_35]))]) (fun (r : Int32) (u : Unit) => 0 = r) 0 0 := by
  refine mm_begin (lv := [(0, .ref a_0), (1, .int i_0), (2, .int i_1)]) (by decide) (Nat.le_of_ble_eq_true rfl) rfl ?_
  intro p e s m below meth c A ls R args Q H locs hRe hQ hAe hx hb hr hlocks hml hown hnm hts hsz hA hS hP hK hD hl
  have hRf : R.frames = 1 := by rw [hRe]
  have hRl : R.locals = 21 := by rw [hRe]
  have hRc : R.cells = 0 := by rw [hRe]
  have hRs : R.slots = 0 := by rw [hRe]
  refine lv_aload_n hx hb dX11_isLandAndText_0 rfl (lv_at hl 0 rfl) ?_
  refine lv_iload_n hx hb dX11_isLandAndText_1 rfl (lv_at hl 1 rfl) ?_
  refine mm_finir (va_runV (As := [.int i_0]) (rest := []) ⟨hx, hb, hml, hown, hts⟩ (K123_X11_isLand l G cy H.size a_0 i_0 a_1 a_2 a_3 a_4 a_5 a_6 a_7 a_8 a_9 a_10 a_11 a_24 a_25 k_0 k_1 k_2 k_3 k_4 k_5 k_6 a_26 a_27 a_28 a_29 a_30 a_31 a_32 a_33 a_34 a_35 ) (cwV 1 hts (mm_gV mm_w626 mm_w627 mm_w628 mm_w2 mm_w629) rfl rfl rfl hd_X11_isLand ⟨by rw [hRf]; exact Nat.le_of_ble_eq_true rfl, by rw [hRl]; exact Nat.le_of_ble_eq_true rfl⟩) (mm_preV hK hP hD [0, 1, 2] rfl rfl 0 rfl rfl rfl) rfl rfl hl.1 rfl (lv_room (Nat.le_of_ble_eq_true rfl)) dX11_isLandAndText_2 ⟨by rw [hRc]; exact Nat.le_of_ble_eq_true rfl, by rw [hRs]; exact Nat.le_of_ble_eq_true rfl⟩) hP hD hS hA [0, 1, 2] rfl (fun _ => rfl) ?_
  clear hP hD hS
  clear H locs
  intro v1 _u H locs hw hP hD hS
  subst hw
  refine lv_if_eq (tgt := 20) hx hb dX11_isLandAndText_5 (by decide) (fun c2 => ?_) (fun c2 => ?_)
  · refine lv_iconst (v := 0) hx hb dX11_isLandAndText_20 (by decide) ?_
    subst hAe
    rw [hQ]
    exact W.zret (v := 0) hx hb hr rfl (fun t ht hW => ⟨⟨0, (), rfl, rfl, by rw [ht]; exact hP, hK.warm hW, hD⟩, hS.F ht⟩) hS.2.2 dX11_isLandAndText_21
  · have q3 := mm_neL (lo := 1) (mm_ne c2) mm_k0 mm_k0 (by decide) (by decide)
    exact mm_no q3 (by decide)

set_option maxHeartbeats 4000000 in
set_option maxRecDepth 100000 in
theorem K166_X11_isLandAndText (l : Launch) (G : va_G) (cy : Nat → ClassId) (sz : Nat) (a_0 : Nat) (i_0 : Int32) (i_1 : Int32) (a_1 : Nat) (a_2 : Nat) (a_3 : Nat) (a_4 : Nat) (a_5 : Nat) (a_6 : Nat) (a_7 : Nat) (a_8 : Nat) (a_9 : Nat) (a_10 : Nat) (a_11 : Nat) (a_12 : Nat) (a_13 : Nat) (i_2 : Int32) (i_3 : Int32) (i_4 : Int32) (i_5 : Int32) (i_6 : Int32) (i_7 : Int32) (i_8 : Int32) (a_14 : Nat) (a_15 : Nat) (a_16 : Nat) (a_17 : Nat) (a_18 : Nat) (a_19 : Nat) (a_20 : Nat) (a_21 : Nat) (a_22 : Nat) (a_23 : Nat)   : mm_CI l yX11_isLandAndText (mm_ws yX11_isLandAndText cX11_isLandAndText 3 (some .boolean)) ({ frames := 1, cells := 0, slots := 0, locals := 21 } : Room) G cy sz [(a_0, .inr (11, [.ref a_1, .ref a_2, .ref a_3, .ref a_4, .ref a_5, .ref a_6, .ref a_7, .ref a_8, .ref a_9, .ref a_10, .ref a_11])), (a_3, .inr (10, [.ref a_12, .ref a_13])), (a_12, .inr (0, [.int i_2, .int i_3, .int i_4, .int i_5, .int i_6, .int 0, .int i_7, .int i_8, .ref a_14, .ref a_15, .ref a_16, .ref a_17, .ref a_18, .ref a_19, .ref a_20, .ref a_21, .ref a_22, .ref a_23]))] [.ref a_0, .int i_0, .int i_1] (fun u : Unit => [(a_0, .inr (11, [.ref a_1, .ref a_2, .ref a_3, .ref a_4, .ref a_5, .ref a_6, .ref a_7, .ref a_8, .ref a_9, .ref a_10, .ref a_11])), (a_3, .inr (10, [.ref a_12, .ref a_13])), (a_12, .inr (0, [.int i_2, .int i_3, .int i_4, .int i_5, .int i_6, .int 0, .int i_7, .int i_8, .ref a_14, .ref a_15, .ref a_16, .ref a_17, .ref a_18, .ref a_19, .ref a_20, .ref a_21, .ref a_22, .ref a_23]))]) (fun (r : Int32) (u : Unit) => 0 = r) 0 0 := by
  refine mm_begin (lv := [(0, .ref a_0), (1, .int i_0), (2, .int i_1)]) (by decide) (Nat.le_of_ble_eq_true rfl) rfl ?_
  intro p e s m below meth c A ls R args Q H locs hRe hQ hAe hx hb hr hlocks hml hown hnm hts hsz hA hS hP hK hD hl
  have hRf : R.frames = 1 := by rw [hRe]
  have hRl : R.locals = 21 := by rw [hRe]
  have hRc : R.cells = 0 := by rw [hRe]
  have hRs : R.slots = 0 := by rw [hRe]
  refine lv_aload_n hx hb dX11_isLandAndText_0 rfl (lv_at hl 0 rfl) ?_
  refine lv_iload_n hx hb dX11_isLandAndText_1 rfl (lv_at hl 1 rfl) ?_
  refine mm_finir (va_runV (As := [.int i_0]) (rest := []) ⟨hx, hb, hml, hown, hts⟩ (K123_X11_isLand l G cy H.size a_0 i_0 a_1 a_2 a_3 a_4 a_5 a_6 a_7 a_8 a_9 a_10 a_11 a_12 a_13 i_2 i_3 i_4 i_5 i_6 i_7 i_8 a_14 a_15 a_16 a_17 a_18 a_19 a_20 a_21 a_22 a_23 ) (cwV 1 hts (mm_gV mm_w626 mm_w627 mm_w628 mm_w2 mm_w629) rfl rfl rfl hd_X11_isLand ⟨by rw [hRf]; exact Nat.le_of_ble_eq_true rfl, by rw [hRl]; exact Nat.le_of_ble_eq_true rfl⟩) (mm_preV hK hP hD [0, 1, 2] rfl rfl 0 rfl rfl rfl) rfl rfl hl.1 rfl (lv_room (Nat.le_of_ble_eq_true rfl)) dX11_isLandAndText_2 ⟨by rw [hRc]; exact Nat.le_of_ble_eq_true rfl, by rw [hRs]; exact Nat.le_of_ble_eq_true rfl⟩) hP hD hS hA [0, 1, 2] rfl (fun _ => rfl) ?_
  clear hP hD hS
  clear H locs
  intro v1 _u H locs hw hP hD hS
  subst hw
  refine lv_if_eq (tgt := 20) hx hb dX11_isLandAndText_5 (by decide) (fun c2 => ?_) (fun c2 => ?_)
  · refine lv_iconst (v := 0) hx hb dX11_isLandAndText_20 (by decide) ?_
    subst hAe
    rw [hQ]
    exact W.zret (v := 0) hx hb hr rfl (fun t ht hW => ⟨⟨0, (), rfl, rfl, by rw [ht]; exact hP, hK.warm hW, hD⟩, hS.F ht⟩) hS.2.2 dX11_isLandAndText_21
  · have q3 := mm_neL (lo := 1) (mm_ne c2) mm_k0 mm_k0 (by decide) (by decide)
    exact mm_no q3 (by decide)

set_option maxHeartbeats 4000000 in
set_option maxRecDepth 100000 in
theorem K165_X11_sorts (l : Launch) (G : va_G) (cy : Nat → ClassId) (sz : Nat) (a_0 : Nat) (i_0 : Int32) (i_1 : Int32) (a_1 : Nat) (a_2 : Nat) (a_3 : Nat) (a_4 : Nat) (a_5 : Nat) (a_6 : Nat) (a_7 : Nat) (a_8 : Nat) (a_9 : Nat) (a_10 : Nat) (a_11 : Nat) (a_24 : Nat) (a_25 : Nat) (k_0 : Int32) (k_1 : Int32) (k_2 : Int32) (k_3 : Int32) (k_4 : Int32) (k_5 : Int32) (k_6 : Int32) (a_26 : Nat) (a_27 : Nat) (a_28 : Nat) (a_29 : Nat) (a_30 : Nat) (a_31 : Nat) (a_32 : Nat) (a_33 : Nat) (a_34 : Nat) (a_35 : Nat)   : mm_CI l yX11_sorts (mm_ws yX11_sorts cX11_sorts 5 (some .int)) ({ frames := 2, cells := 0, slots := 0, locals := 43 } : Room) G cy sz [(a_0, .inr (11, [.ref a_1, .ref a_2, .ref a_3, .ref a_4, .ref a_5, .ref a_6, .ref a_7, .ref a_8, .ref a_9, .ref a_10, .ref a_11])), (a_3, .inr (10, [.ref a_24, .ref a_25])), (a_24, .inr (0, [.int k_0, .int k_1, .int k_2, .int k_3, .int k_4, .int 0, .int k_5, .int k_6, .ref a_26, .ref a_27, .ref a_28, .ref a_29, .ref a_30, .ref a_31, .ref a_32, .ref a_33, .ref a_34, .ref a_35]))] [.ref a_0, .int i_0, .int i_1] (fun u : Unit => [(a_0, .inr (11, [.ref a_1, .ref a_2, .ref a_3, .ref a_4, .ref a_5, .ref a_6, .ref a_7, .ref a_8, .ref a_9, .ref a_10, .ref a_11])), (a_3, .inr (10, [.ref a_24, .ref a_25])), (a_24, .inr (0, [.int k_0, .int k_1, .int k_2, .int k_3, .int k_4, .int 0, .int k_5, .int k_6, .ref a_26, .ref a_27, .ref a_28, .ref a_29, .ref a_30, .ref a_31, .ref a_32, .ref a_33, .ref a_34, .ref a_35]))]) (fun (r : Int32) (u : Unit) => (-2) = r) 0 0 := by
  refine mm_begin (lv := [(0, .ref a_0), (1, .int i_0), (2, .int i_1)]) (by decide) (Nat.le_of_ble_eq_true rfl) rfl ?_
  intro p e s m below meth c A ls R args Q H locs hRe hQ hAe hx hb hr hlocks hml hown hnm hts hsz hA hS hP hK hD hl
  have hRf : R.frames = 2 := by rw [hRe]
  have hRl : R.locals = 43 := by rw [hRe]
  have hRc : R.cells = 0 := by rw [hRe]
  have hRs : R.slots = 0 := by rw [hRe]
  refine lv_aload_n hx hb dX11_sorts_0 rfl (lv_at hl 0 rfl) ?_
  refine lv_iload_n hx hb dX11_sorts_1 rfl (lv_at hl 1 rfl) ?_
  refine lv_iload_n hx hb dX11_sorts_2 rfl (lv_at hl 2 rfl) ?_
  refine mm_finir (va_runV (As := [.int i_0, .int i_1]) (rest := []) ⟨hx, hb, hml, hown, hts⟩ (K166_X11_isLandAndText l G cy H.size a_0 i_0 i_1 a_1 a_2 a_3 a_4 a_5 a_6 a_7 a_8 a_9 a_10 a_11 a_24 a_25 k_0 k_1 k_2 k_3 k_4 k_5 k_6 a_26 a_27 a_28 a_29 a_30 a_31 a_32 a_33 a_34 a_35 ) (cwV 2 hts (mm_gV mm_w955 mm_w956 mm_w957 mm_w2 mm_w958) rfl rfl rfl hd_X11_isLandAndText ⟨by rw [hRf]; exact Nat.le_of_ble_eq_true rfl, by rw [hRl]; exact Nat.le_of_ble_eq_true rfl⟩) (mm_preV hK hP hD [0, 1, 2] rfl rfl 0 rfl rfl rfl) rfl rfl hl.1 rfl (lv_room (Nat.le_of_ble_eq_true rfl)) dX11_sorts_3 ⟨by rw [hRc]; exact Nat.le_of_ble_eq_true rfl, by rw [hRs]; exact Nat.le_of_ble_eq_true rfl⟩) hP hD hS hA [0, 1, 2] rfl (fun _ => rfl) ?_
  clear hP hD hS
  clear H locs
  intro v1 _u H locs hw hP hD hS
  subst hw
  refine lv_if_ne (tgt := 12) hx hb dX11_sorts_6 (by decide) (fun c2 => ?_) (fun c2 => ?_)
  · have q3 := mm_neL (lo := 1) (mm_ne c2) mm_k0 mm_k0 (by decide) (by decide)
    exact mm_no q3 (by decide)
  · refine lv_bipush (v := (-2)) hx hb dX11_sorts_9 (by decide) ?_
    subst hAe
    rw [hQ]
    exact W.iret (v := (-2)) hx hb hr (fun t ht hW => ⟨⟨(-2), (), rfl, rfl, by rw [ht]; exact hP, hK.warm hW, hD⟩, hS.F ht⟩) hS.2.2 dX11_sorts_11

set_option maxHeartbeats 4000000 in
set_option maxRecDepth 100000 in
theorem K167_X12_sorts (l : Launch) (G : va_G) (cy : Nat → ClassId) (sz : Nat) (a_0 : Nat) (i_0 : Int32) (i_1 : Int32) (a_1 : Nat) (a_2 : Nat) (a_3 : Nat) (a_4 : Nat) (a_5 : Nat) (k_0 : Int32) (k_1 : Int32) (k_2 : Int32) (k_3 : Int32) (k_4 : Int32) (k_5 : Int64) (k_6 : Int32) (k_7 : Int32) (k_8 : Int32) (k_9 : Int32) (a_6 : Nat) (a_7 : Nat) (a_8 : Nat) (a_9 : Nat) (a_10 : Nat) (a_11 : Nat) (a_12 : Nat) (a_13 : Nat) (a_14 : Nat) (a_15 : Nat) (a_16 : Nat) (a_17 : Nat) (a_18 : Nat) (k_10 : Int32) (k_11 : Int32) (k_12 : Int32) (k_13 : Int32) (k_14 : Int32) (k_15 : Int32) (a_19 : Nat) (k_16 : Int32) (a_20 : Nat)   : mm_CI l yX12_sorts (mm_ws yX12_sorts cX12_sorts 5 (some .int)) ({ frames := 2, cells := 0, slots := 0, locals := 46 } : Room) G cy sz [(a_0, .inr (12, [.int 0, .ref a_1, .ref a_2, .ref a_3, .ref a_4, .ref a_5, .int k_0, .int k_1, .int k_2, .int k_3, .int k_4, .long k_5, .int k_6, .int k_7, .int k_8, .int k_9, .ref a_6, .ref a_7, .ref a_8, .ref a_9, .ref a_10, .ref a_11, .ref a_12, .ref a_13, .ref a_14, .ref a_15, .ref a_16, .ref a_17, .ref a_18, .int k_10, .int k_11, .int k_12, .int k_13, .int k_14, .int k_15, .ref a_19, .int k_16, .ref a_20])), (a_7, .inl (cy 1, 30, .inl (fun _ => 0)))] [.ref a_0, .int i_0, .int i_1] (fun u : Unit => [(a_0, .inr (12, [.int 0, .ref a_1, .ref a_2, .ref a_3, .ref a_4, .ref a_5, .int k_0, .int k_1, .int k_2, .int k_3, .int k_4, .long k_5, .int k_6, .int k_7, .int k_8, .int k_9, .ref a_6, .ref a_7, .ref a_8, .ref a_9, .ref a_10, .ref a_11, .ref a_12, .ref a_13, .ref a_14, .ref a_15, .ref a_16, .ref a_17, .ref a_18, .int k_10, .int k_11, .int k_12, .int k_13, .int k_14, .int k_15, .ref a_19, .int k_16, .ref a_20])), (a_7, .inl (cy 1, 30, .inl (fun _ => 0)))]) (fun (r : Int32) (u : Unit) => (-2) = r) 0 0 := by
  refine mm_begin (lv := [(0, .ref a_0), (1, .int i_0), (2, .int i_1)]) (by decide) (Nat.le_of_ble_eq_true rfl) rfl ?_
  intro p e s m below meth c A ls R args Q H locs hRe hQ hAe hx hb hr hlocks hml hown hnm hts hsz hA hS hP hK hD hl
  have hRf : R.frames = 2 := by rw [hRe]
  have hRl : R.locals = 46 := by rw [hRe]
  have hRc : R.cells = 0 := by rw [hRe]
  have hRs : R.slots = 0 := by rw [hRe]
  refine lv_aload_n hx hb dX12_sorts_0 rfl (lv_at hl 0 rfl) ?_
  refine lv_iconst (v := 0) hx hb dX12_sorts_1 (by decide) ?_
  refine va_put (D := G) (ci := 12) (v := .int 0) (ty := tyX12 0) (C := RX12) (T := TX12) (N := 38) hx hb hts (mm_i inlX12) tyX12 tyX12_ok nmX12 hown hK.1 hP hD hS 0 rfl rfl 0 (by decide) (mm_h hts mm_w177) (fun _ h9 => h9) rfl (tyX12_ok 0 (by decide)) rfl rfl (Nat.le_of_ble_eq_true rfl) dX12_sorts_2 ?_
  clear hP hD hS
  clear H locs
  intro H locs (hP : va_P G vwCl [(a_0, .inr (12, [.int 0, .ref a_1, .ref a_2, .ref a_3, .ref a_4, .ref a_5, .int k_0, .int k_1, .int k_2, .int k_3, .int k_4, .long k_5, .int k_6, .int k_7, .int k_8, .int k_9, .ref a_6, .ref a_7, .ref a_8, .ref a_9, .ref a_10, .ref a_11, .ref a_12, .ref a_13, .ref a_14, .ref a_15, .ref a_16, .ref a_17, .ref a_18, .int k_10, .int k_11, .int k_12, .int k_13, .int k_14, .int k_15, .ref a_19, .int k_16, .ref a_20])), (a_7, .inl (cy 1, 30, .inl (fun _ => 0)))] H) (hD : va_D A [(a_0, .inr (12, [.int 0, .ref a_1, .ref a_2, .ref a_3, .ref a_4, .ref a_5, .int k_0, .int k_1, .int k_2, .int k_3, .int k_4, .long k_5, .int k_6, .int k_7, .int k_8, .int k_9, .ref a_6, .ref a_7, .ref a_8, .ref a_9, .ref a_10, .ref a_11, .ref a_12, .ref a_13, .ref a_14, .ref a_15, .ref a_16, .ref a_17, .ref a_18, .int k_10, .int k_11, .int k_12, .int k_13, .int k_14, .int k_15, .ref a_19, .int k_16, .ref a_20])), (a_7, .inl (cy 1, 30, .inl (fun _ => 0)))]) hS
  refine lv_aload_n hx hb dX12_sorts_5 rfl (lv_at hl 0 rfl) ?_
  refine lv_iload_n hx hb dX12_sorts_6 rfl (lv_at hl 1 rfl) ?_
  refine mm_finir (va_runV (As := [.int i_0]) (rest := []) ⟨hx, hb, hml, hown, hts⟩ (K126_X12_isLand l G cy H.size a_0 i_0 0 a_1 a_2 a_3 a_4 a_5 k_0 k_1 k_2 k_3 k_4 k_5 k_6 k_7 k_8 k_9 a_6 a_7 a_8 a_9 a_10 a_11 a_12 a_13 a_14 a_15 a_16 a_17 a_18 k_10 k_11 k_12 k_13 k_14 k_15 a_19 k_16 a_20 ) (cwV 1 hts (mm_gV mm_w641 mm_w642 mm_w643 mm_w5 mm_w644) rfl rfl rfl hd_X12_isLand ⟨by rw [hRf]; exact Nat.le_of_ble_eq_true rfl, by rw [hRl]; exact Nat.le_of_ble_eq_true rfl⟩) (mm_preV hK hP hD [0, 1] rfl rfl 0 rfl rfl rfl) rfl rfl hl.1 rfl (lv_room (Nat.le_of_ble_eq_true rfl)) dX12_sorts_7 ⟨by rw [hRc]; exact Nat.le_of_ble_eq_true rfl, by rw [hRs]; exact Nat.le_of_ble_eq_true rfl⟩) hP hD hS hA [0, 1] rfl (fun _ => rfl) ?_
  clear hP hD hS
  clear H locs
  intro v1 _u H locs hw hP hD hS
  subst hw
  refine lv_if_eq (tgt := 22) hx hb dX12_sorts_10 (by decide) (fun c2 => ?_) (fun c2 => ?_)
  · refine lv_bipush (v := (-2)) hx hb dX12_sorts_22 (by decide) ?_
    subst hAe
    rw [hQ]
    exact W.iret (v := (-2)) hx hb hr (fun t ht hW => ⟨⟨(-2), (), rfl, rfl, by rw [ht]; exact hP, hK.warm hW, hD⟩, hS.F ht⟩) hS.2.2 dX12_sorts_24
  · have q3 := mm_neL (lo := 1) (mm_ne c2) mm_k0 mm_k0 (by decide) (by decide)
    exact mm_no q3 (by decide)

set_option maxHeartbeats 4000000 in
set_option maxRecDepth 100000 in
theorem K168_X11_clear (l : Launch) (G : va_G) (cy : Nat → ClassId) (sz : Nat) (a_0 : Nat) (i_0 : Int32) (i_1 : Int32) (a_1 : Nat) (a_2 : Nat) (a_3 : Nat) (a_4 : Nat) (a_5 : Nat) (a_6 : Nat) (a_7 : Nat) (a_8 : Nat) (a_9 : Nat) (a_10 : Nat) (a_11 : Nat) (a_24 : Nat) (a_25 : Nat) (k_0 : Int32) (k_1 : Int32) (k_2 : Int32) (k_3 : Int32) (k_4 : Int32) (k_5 : Int32) (k_6 : Int32) (a_26 : Nat) (a_27 : Nat) (a_28 : Nat) (a_29 : Nat) (a_30 : Nat) (a_31 : Nat) (a_32 : Nat) (a_33 : Nat) (a_34 : Nat) (a_35 : Nat)   : mm_CI l yX11_clear (mm_ws yX11_clear cX11_clear 5 (some .int)) ({ frames := 2, cells := 0, slots := 0, locals := 43 } : Room) G cy sz [(a_0, .inr (11, [.ref a_1, .ref a_2, .ref a_3, .ref a_4, .ref a_5, .ref a_6, .ref a_7, .ref a_8, .ref a_9, .ref a_10, .ref a_11])), (a_3, .inr (10, [.ref a_24, .ref a_25])), (a_24, .inr (0, [.int k_0, .int k_1, .int k_2, .int k_3, .int k_4, .int 0, .int k_5, .int k_6, .ref a_26, .ref a_27, .ref a_28, .ref a_29, .ref a_30, .ref a_31, .ref a_32, .ref a_33, .ref a_34, .ref a_35]))] [.ref a_0, .int i_0, .int i_1] (fun u : Unit => [(a_0, .inr (11, [.ref a_1, .ref a_2, .ref a_3, .ref a_4, .ref a_5, .ref a_6, .ref a_7, .ref a_8, .ref a_9, .ref a_10, .ref a_11])), (a_3, .inr (10, [.ref a_24, .ref a_25])), (a_24, .inr (0, [.int k_0, .int k_1, .int k_2, .int k_3, .int k_4, .int 0, .int k_5, .int k_6, .ref a_26, .ref a_27, .ref a_28, .ref a_29, .ref a_30, .ref a_31, .ref a_32, .ref a_33, .ref a_34, .ref a_35]))]) (fun (r : Int32) (u : Unit) => (-2) = r) 0 0 := by
  refine mm_begin (lv := [(0, .ref a_0), (1, .int i_0), (2, .int i_1)]) (by decide) (Nat.le_of_ble_eq_true rfl) rfl ?_
  intro p e s m below meth c A ls R args Q H locs hRe hQ hAe hx hb hr hlocks hml hown hnm hts hsz hA hS hP hK hD hl
  have hRf : R.frames = 2 := by rw [hRe]
  have hRl : R.locals = 43 := by rw [hRe]
  have hRc : R.cells = 0 := by rw [hRe]
  have hRs : R.slots = 0 := by rw [hRe]
  refine lv_aload_n hx hb dX11_clear_0 rfl (lv_at hl 0 rfl) ?_
  refine lv_iload_n hx hb dX11_clear_1 rfl (lv_at hl 1 rfl) ?_
  refine lv_iload_n hx hb dX11_clear_2 rfl (lv_at hl 2 rfl) ?_
  refine mm_finir (va_runV (As := [.int i_0, .int i_1]) (rest := []) ⟨hx, hb, hml, hown, hts⟩ (K166_X11_isLandAndText l G cy H.size a_0 i_0 i_1 a_1 a_2 a_3 a_4 a_5 a_6 a_7 a_8 a_9 a_10 a_11 a_24 a_25 k_0 k_1 k_2 k_3 k_4 k_5 k_6 a_26 a_27 a_28 a_29 a_30 a_31 a_32 a_33 a_34 a_35 ) (cwV 2 hts (mm_gV mm_w955 mm_w956 mm_w957 mm_w2 mm_w958) rfl rfl rfl hd_X11_isLandAndText ⟨by rw [hRf]; exact Nat.le_of_ble_eq_true rfl, by rw [hRl]; exact Nat.le_of_ble_eq_true rfl⟩) (mm_preV hK hP hD [0, 1, 2] rfl rfl 0 rfl rfl rfl) rfl rfl hl.1 rfl (lv_room (Nat.le_of_ble_eq_true rfl)) dX11_clear_3 ⟨by rw [hRc]; exact Nat.le_of_ble_eq_true rfl, by rw [hRs]; exact Nat.le_of_ble_eq_true rfl⟩) hP hD hS hA [0, 1, 2] rfl (fun _ => rfl) ?_
  clear hP hD hS
  clear H locs
  intro v1 _u H locs hw hP hD hS
  subst hw
  refine lv_if_ne (tgt := 12) hx hb dX11_clear_6 (by decide) (fun c2 => ?_) (fun c2 => ?_)
  · have q3 := mm_neL (lo := 1) (mm_ne c2) mm_k0 mm_k0 (by decide) (by decide)
    exact mm_no q3 (by decide)
  · refine lv_bipush (v := (-2)) hx hb dX11_clear_9 (by decide) ?_
    subst hAe
    rw [hQ]
    exact W.iret (v := (-2)) hx hb hr (fun t ht hW => ⟨⟨(-2), (), rfl, rfl, by rw [ht]; exact hP, hK.warm hW, hD⟩, hS.F ht⟩) hS.2.2 dX11_clear_11

set_option maxHeartbeats 4000000 in
set_option maxRecDepth 100000 in
theorem K169_X12_clear (l : Launch) (G : va_G) (cy : Nat → ClassId) (sz : Nat) (a_0 : Nat) (i_0 : Int32) (i_1 : Int32) (a_1 : Nat) (a_2 : Nat) (a_3 : Nat) (a_4 : Nat) (a_5 : Nat) (k_0 : Int32) (k_1 : Int32) (k_2 : Int32) (k_3 : Int32) (k_4 : Int32) (k_5 : Int64) (k_6 : Int32) (k_7 : Int32) (k_8 : Int32) (k_9 : Int32) (a_6 : Nat) (a_7 : Nat) (a_8 : Nat) (a_9 : Nat) (a_10 : Nat) (a_11 : Nat) (a_12 : Nat) (a_13 : Nat) (a_14 : Nat) (a_15 : Nat) (a_16 : Nat) (a_17 : Nat) (a_18 : Nat) (k_10 : Int32) (k_11 : Int32) (k_12 : Int32) (k_13 : Int32) (k_14 : Int32) (k_15 : Int32) (a_19 : Nat) (k_16 : Int32) (a_20 : Nat)   : mm_CI l yX12_clear (mm_ws yX12_clear cX12_clear 4 (some .int)) ({ frames := 2, cells := 0, slots := 0, locals := 46 } : Room) G cy sz [(a_0, .inr (12, [.int 0, .ref a_1, .ref a_2, .ref a_3, .ref a_4, .ref a_5, .int k_0, .int k_1, .int k_2, .int k_3, .int k_4, .long k_5, .int k_6, .int k_7, .int k_8, .int k_9, .ref a_6, .ref a_7, .ref a_8, .ref a_9, .ref a_10, .ref a_11, .ref a_12, .ref a_13, .ref a_14, .ref a_15, .ref a_16, .ref a_17, .ref a_18, .int k_10, .int k_11, .int k_12, .int k_13, .int k_14, .int k_15, .ref a_19, .int k_16, .ref a_20])), (a_7, .inl (cy 1, 30, .inl (fun _ => 0)))] [.ref a_0, .int i_0, .int i_1] (fun u : Unit => [(a_0, .inr (12, [.int 0, .ref a_1, .ref a_2, .ref a_3, .ref a_4, .ref a_5, .int k_0, .int k_1, .int k_2, .int k_3, .int k_4, .long k_5, .int k_6, .int k_7, .int k_8, .int k_9, .ref a_6, .ref a_7, .ref a_8, .ref a_9, .ref a_10, .ref a_11, .ref a_12, .ref a_13, .ref a_14, .ref a_15, .ref a_16, .ref a_17, .ref a_18, .int k_10, .int k_11, .int k_12, .int k_13, .int k_14, .int k_15, .ref a_19, .int k_16, .ref a_20])), (a_7, .inl (cy 1, 30, .inl (fun _ => 0)))]) (fun (r : Int32) (u : Unit) => (-2) = r) 0 0 := by
  refine mm_begin (lv := [(0, .ref a_0), (1, .int i_0), (2, .int i_1)]) (by decide) (Nat.le_of_ble_eq_true rfl) rfl ?_
  intro p e s m below meth c A ls R args Q H locs hRe hQ hAe hx hb hr hlocks hml hown hnm hts hsz hA hS hP hK hD hl
  have hRf : R.frames = 2 := by rw [hRe]
  have hRl : R.locals = 46 := by rw [hRe]
  have hRc : R.cells = 0 := by rw [hRe]
  have hRs : R.slots = 0 := by rw [hRe]
  refine lv_aload_n hx hb dX12_clear_0 rfl (lv_at hl 0 rfl) ?_
  refine lv_iconst (v := 0) hx hb dX12_clear_1 (by decide) ?_
  refine va_put (D := G) (ci := 12) (v := .int 0) (ty := tyX12 0) (C := RX12) (T := TX12) (N := 38) hx hb hts (mm_i inlX12) tyX12 tyX12_ok nmX12 hown hK.1 hP hD hS 0 rfl rfl 0 (by decide) (mm_h hts mm_w177) (fun _ h9 => h9) rfl (tyX12_ok 0 (by decide)) rfl rfl (Nat.le_of_ble_eq_true rfl) dX12_clear_2 ?_
  clear hP hD hS
  clear H locs
  intro H locs (hP : va_P G vwCl [(a_0, .inr (12, [.int 0, .ref a_1, .ref a_2, .ref a_3, .ref a_4, .ref a_5, .int k_0, .int k_1, .int k_2, .int k_3, .int k_4, .long k_5, .int k_6, .int k_7, .int k_8, .int k_9, .ref a_6, .ref a_7, .ref a_8, .ref a_9, .ref a_10, .ref a_11, .ref a_12, .ref a_13, .ref a_14, .ref a_15, .ref a_16, .ref a_17, .ref a_18, .int k_10, .int k_11, .int k_12, .int k_13, .int k_14, .int k_15, .ref a_19, .int k_16, .ref a_20])), (a_7, .inl (cy 1, 30, .inl (fun _ => 0)))] H) (hD : va_D A [(a_0, .inr (12, [.int 0, .ref a_1, .ref a_2, .ref a_3, .ref a_4, .ref a_5, .int k_0, .int k_1, .int k_2, .int k_3, .int k_4, .long k_5, .int k_6, .int k_7, .int k_8, .int k_9, .ref a_6, .ref a_7, .ref a_8, .ref a_9, .ref a_10, .ref a_11, .ref a_12, .ref a_13, .ref a_14, .ref a_15, .ref a_16, .ref a_17, .ref a_18, .int k_10, .int k_11, .int k_12, .int k_13, .int k_14, .int k_15, .ref a_19, .int k_16, .ref a_20])), (a_7, .inl (cy 1, 30, .inl (fun _ => 0)))]) hS
  refine lv_aload_n hx hb dX12_clear_5 rfl (lv_at hl 0 rfl) ?_
  refine lv_iload_n hx hb dX12_clear_6 rfl (lv_at hl 1 rfl) ?_
  refine mm_finir (va_runV (As := [.int i_0]) (rest := []) ⟨hx, hb, hml, hown, hts⟩ (K126_X12_isLand l G cy H.size a_0 i_0 0 a_1 a_2 a_3 a_4 a_5 k_0 k_1 k_2 k_3 k_4 k_5 k_6 k_7 k_8 k_9 a_6 a_7 a_8 a_9 a_10 a_11 a_12 a_13 a_14 a_15 a_16 a_17 a_18 k_10 k_11 k_12 k_13 k_14 k_15 a_19 k_16 a_20 ) (cwV 1 hts (mm_gV mm_w641 mm_w642 mm_w643 mm_w5 mm_w644) rfl rfl rfl hd_X12_isLand ⟨by rw [hRf]; exact Nat.le_of_ble_eq_true rfl, by rw [hRl]; exact Nat.le_of_ble_eq_true rfl⟩) (mm_preV hK hP hD [0, 1] rfl rfl 0 rfl rfl rfl) rfl rfl hl.1 rfl (lv_room (Nat.le_of_ble_eq_true rfl)) dX12_clear_7 ⟨by rw [hRc]; exact Nat.le_of_ble_eq_true rfl, by rw [hRs]; exact Nat.le_of_ble_eq_true rfl⟩) hP hD hS hA [0, 1] rfl (fun _ => rfl) ?_
  clear hP hD hS
  clear H locs
  intro v1 _u H locs hw hP hD hS
  subst hw
  refine lv_if_eq (tgt := 22) hx hb dX12_clear_10 (by decide) (fun c2 => ?_) (fun c2 => ?_)
  · refine lv_bipush (v := (-2)) hx hb dX12_clear_22 (by decide) ?_
    subst hAe
    rw [hQ]
    exact W.iret (v := (-2)) hx hb hr (fun t ht hW => ⟨⟨(-2), (), rfl, rfl, by rw [ht]; exact hP, hK.warm hW, hD⟩, hS.F ht⟩) hS.2.2 dX12_clear_24
  · have q3 := mm_neL (lo := 1) (mm_ne c2) mm_k0 mm_k0 (by decide) (by decide)
    exact mm_no q3 (by decide)

set_option maxHeartbeats 4000000 in
set_option maxRecDepth 100000 in
theorem K170_X11_agree (l : Launch) (G : va_G) (cy : Nat → ClassId) (sz : Nat) (a_0 : Nat) (i_0 : Int32) (i_1 : Int32) (i_2 : Int32) (a_1 : Nat) (a_2 : Nat) (a_3 : Nat) (a_4 : Nat) (a_5 : Nat) (a_6 : Nat) (a_7 : Nat) (a_8 : Nat) (a_9 : Nat) (a_10 : Nat) (a_11 : Nat) (a_24 : Nat) (a_25 : Nat) (k_0 : Int32) (k_1 : Int32) (k_2 : Int32) (k_3 : Int32) (k_4 : Int32) (k_5 : Int32) (k_6 : Int32) (a_26 : Nat) (a_27 : Nat) (a_28 : Nat) (a_29 : Nat) (a_30 : Nat) (a_31 : Nat) (a_32 : Nat) (a_33 : Nat) (a_34 : Nat) (a_35 : Nat)   : mm_CI l yX11_agree (mm_ws yX11_agree cX11_agree 6 (some .int)) ({ frames := 2, cells := 0, slots := 0, locals := 43 } : Room) G cy sz [(a_0, .inr (11, [.ref a_1, .ref a_2, .ref a_3, .ref a_4, .ref a_5, .ref a_6, .ref a_7, .ref a_8, .ref a_9, .ref a_10, .ref a_11])), (a_3, .inr (10, [.ref a_24, .ref a_25])), (a_24, .inr (0, [.int k_0, .int k_1, .int k_2, .int k_3, .int k_4, .int 0, .int k_5, .int k_6, .ref a_26, .ref a_27, .ref a_28, .ref a_29, .ref a_30, .ref a_31, .ref a_32, .ref a_33, .ref a_34, .ref a_35]))] [.ref a_0, .int i_0, .int i_1, .int i_2] (fun u : Unit => [(a_0, .inr (11, [.ref a_1, .ref a_2, .ref a_3, .ref a_4, .ref a_5, .ref a_6, .ref a_7, .ref a_8, .ref a_9, .ref a_10, .ref a_11])), (a_3, .inr (10, [.ref a_24, .ref a_25])), (a_24, .inr (0, [.int k_0, .int k_1, .int k_2, .int k_3, .int k_4, .int 0, .int k_5, .int k_6, .ref a_26, .ref a_27, .ref a_28, .ref a_29, .ref a_30, .ref a_31, .ref a_32, .ref a_33, .ref a_34, .ref a_35]))]) (fun (r : Int32) (u : Unit) => (-2) = r) 0 0 := by
  refine mm_begin (lv := [(0, .ref a_0), (1, .int i_0), (2, .int i_1), (3, .int i_2)]) (by decide) (Nat.le_of_ble_eq_true rfl) rfl ?_
  intro p e s m below meth c A ls R args Q H locs hRe hQ hAe hx hb hr hlocks hml hown hnm hts hsz hA hS hP hK hD hl
  have hRf : R.frames = 2 := by rw [hRe]
  have hRl : R.locals = 43 := by rw [hRe]
  have hRc : R.cells = 0 := by rw [hRe]
  have hRs : R.slots = 0 := by rw [hRe]
  refine lv_aload_n hx hb dX11_agree_0 rfl (lv_at hl 0 rfl) ?_
  refine lv_iload_n hx hb dX11_agree_1 rfl (lv_at hl 1 rfl) ?_
  refine lv_iload_n hx hb dX11_agree_2 rfl (lv_at hl 2 rfl) ?_
  refine mm_finir (va_runV (As := [.int i_0, .int i_1]) (rest := []) ⟨hx, hb, hml, hown, hts⟩ (K166_X11_isLandAndText l G cy H.size a_0 i_0 i_1 a_1 a_2 a_3 a_4 a_5 a_6 a_7 a_8 a_9 a_10 a_11 a_24 a_25 k_0 k_1 k_2 k_3 k_4 k_5 k_6 a_26 a_27 a_28 a_29 a_30 a_31 a_32 a_33 a_34 a_35 ) (cwV 2 hts (mm_gV mm_w955 mm_w956 mm_w957 mm_w2 mm_w958) rfl rfl rfl hd_X11_isLandAndText ⟨by rw [hRf]; exact Nat.le_of_ble_eq_true rfl, by rw [hRl]; exact Nat.le_of_ble_eq_true rfl⟩) (mm_preV hK hP hD [0, 1, 2] rfl rfl 0 rfl rfl rfl) rfl rfl hl.1 rfl (lv_room (Nat.le_of_ble_eq_true rfl)) dX11_agree_3 ⟨by rw [hRc]; exact Nat.le_of_ble_eq_true rfl, by rw [hRs]; exact Nat.le_of_ble_eq_true rfl⟩) hP hD hS hA [0, 1, 2] rfl (fun _ => rfl) ?_
  clear hP hD hS
  clear H locs
  intro v1 _u H locs hw hP hD hS
  subst hw
  refine lv_if_eq (tgt := 17) hx hb dX11_agree_6 (by decide) (fun c2 => ?_) (fun c2 => ?_)
  · refine lv_bipush (v := (-2)) hx hb dX11_agree_17 (by decide) ?_
    subst hAe
    rw [hQ]
    exact W.iret (v := (-2)) hx hb hr (fun t ht hW => ⟨⟨(-2), (), rfl, rfl, by rw [ht]; exact hP, hK.warm hW, hD⟩, hS.F ht⟩) hS.2.2 dX11_agree_19
  · have q3 := mm_neL (lo := 1) (mm_ne c2) mm_k0 mm_k0 (by decide) (by decide)
    exact mm_no q3 (by decide)

set_option maxHeartbeats 4000000 in
set_option maxRecDepth 100000 in
theorem K171_X12_agree (l : Launch) (G : va_G) (cy : Nat → ClassId) (sz : Nat) (a_0 : Nat) (i_0 : Int32) (i_1 : Int32) (i_2 : Int32) (a_1 : Nat) (a_2 : Nat) (a_3 : Nat) (a_4 : Nat) (a_5 : Nat) (k_0 : Int32) (k_1 : Int32) (k_2 : Int32) (k_3 : Int32) (k_4 : Int32) (k_5 : Int64) (k_6 : Int32) (k_7 : Int32) (k_8 : Int32) (k_9 : Int32) (a_6 : Nat) (a_7 : Nat) (a_8 : Nat) (a_9 : Nat) (a_10 : Nat) (a_11 : Nat) (a_12 : Nat) (a_13 : Nat) (a_14 : Nat) (a_15 : Nat) (a_16 : Nat) (a_17 : Nat) (a_18 : Nat) (k_10 : Int32) (k_11 : Int32) (k_12 : Int32) (k_13 : Int32) (k_14 : Int32) (k_15 : Int32) (a_19 : Nat) (k_16 : Int32) (a_20 : Nat)   : mm_CI l yX12_agree (mm_ws yX12_agree cX12_agree 5 (some .int)) ({ frames := 2, cells := 0, slots := 0, locals := 46 } : Room) G cy sz [(a_0, .inr (12, [.int 0, .ref a_1, .ref a_2, .ref a_3, .ref a_4, .ref a_5, .int k_0, .int k_1, .int k_2, .int k_3, .int k_4, .long k_5, .int k_6, .int k_7, .int k_8, .int k_9, .ref a_6, .ref a_7, .ref a_8, .ref a_9, .ref a_10, .ref a_11, .ref a_12, .ref a_13, .ref a_14, .ref a_15, .ref a_16, .ref a_17, .ref a_18, .int k_10, .int k_11, .int k_12, .int k_13, .int k_14, .int k_15, .ref a_19, .int k_16, .ref a_20])), (a_7, .inl (cy 1, 30, .inl (fun _ => 0)))] [.ref a_0, .int i_0, .int i_1, .int i_2] (fun u : Unit => [(a_0, .inr (12, [.int 0, .ref a_1, .ref a_2, .ref a_3, .ref a_4, .ref a_5, .int k_0, .int k_1, .int k_2, .int k_3, .int k_4, .long k_5, .int k_6, .int k_7, .int k_8, .int k_9, .ref a_6, .ref a_7, .ref a_8, .ref a_9, .ref a_10, .ref a_11, .ref a_12, .ref a_13, .ref a_14, .ref a_15, .ref a_16, .ref a_17, .ref a_18, .int k_10, .int k_11, .int k_12, .int k_13, .int k_14, .int k_15, .ref a_19, .int k_16, .ref a_20])), (a_7, .inl (cy 1, 30, .inl (fun _ => 0)))]) (fun (r : Int32) (u : Unit) => (-2) = r) 0 0 := by
  refine mm_begin (lv := [(0, .ref a_0), (1, .int i_0), (2, .int i_1), (3, .int i_2)]) (by decide) (Nat.le_of_ble_eq_true rfl) rfl ?_
  intro p e s m below meth c A ls R args Q H locs hRe hQ hAe hx hb hr hlocks hml hown hnm hts hsz hA hS hP hK hD hl
  have hRf : R.frames = 2 := by rw [hRe]
  have hRl : R.locals = 46 := by rw [hRe]
  have hRc : R.cells = 0 := by rw [hRe]
  have hRs : R.slots = 0 := by rw [hRe]
  refine lv_aload_n hx hb dX12_agree_0 rfl (lv_at hl 0 rfl) ?_
  refine lv_iconst (v := 0) hx hb dX12_agree_1 (by decide) ?_
  refine va_put (D := G) (ci := 12) (v := .int 0) (ty := tyX12 0) (C := RX12) (T := TX12) (N := 38) hx hb hts (mm_i inlX12) tyX12 tyX12_ok nmX12 hown hK.1 hP hD hS 0 rfl rfl 0 (by decide) (mm_h hts mm_w177) (fun _ h9 => h9) rfl (tyX12_ok 0 (by decide)) rfl rfl (Nat.le_of_ble_eq_true rfl) dX12_agree_2 ?_
  clear hP hD hS
  clear H locs
  intro H locs (hP : va_P G vwCl [(a_0, .inr (12, [.int 0, .ref a_1, .ref a_2, .ref a_3, .ref a_4, .ref a_5, .int k_0, .int k_1, .int k_2, .int k_3, .int k_4, .long k_5, .int k_6, .int k_7, .int k_8, .int k_9, .ref a_6, .ref a_7, .ref a_8, .ref a_9, .ref a_10, .ref a_11, .ref a_12, .ref a_13, .ref a_14, .ref a_15, .ref a_16, .ref a_17, .ref a_18, .int k_10, .int k_11, .int k_12, .int k_13, .int k_14, .int k_15, .ref a_19, .int k_16, .ref a_20])), (a_7, .inl (cy 1, 30, .inl (fun _ => 0)))] H) (hD : va_D A [(a_0, .inr (12, [.int 0, .ref a_1, .ref a_2, .ref a_3, .ref a_4, .ref a_5, .int k_0, .int k_1, .int k_2, .int k_3, .int k_4, .long k_5, .int k_6, .int k_7, .int k_8, .int k_9, .ref a_6, .ref a_7, .ref a_8, .ref a_9, .ref a_10, .ref a_11, .ref a_12, .ref a_13, .ref a_14, .ref a_15, .ref a_16, .ref a_17, .ref a_18, .int k_10, .int k_11, .int k_12, .int k_13, .int k_14, .int k_15, .ref a_19, .int k_16, .ref a_20])), (a_7, .inl (cy 1, 30, .inl (fun _ => 0)))]) hS
  refine lv_aload_n hx hb dX12_agree_5 rfl (lv_at hl 0 rfl) ?_
  refine lv_iload_n hx hb dX12_agree_6 rfl (lv_at hl 1 rfl) ?_
  refine mm_finir (va_runV (As := [.int i_0]) (rest := []) ⟨hx, hb, hml, hown, hts⟩ (K126_X12_isLand l G cy H.size a_0 i_0 0 a_1 a_2 a_3 a_4 a_5 k_0 k_1 k_2 k_3 k_4 k_5 k_6 k_7 k_8 k_9 a_6 a_7 a_8 a_9 a_10 a_11 a_12 a_13 a_14 a_15 a_16 a_17 a_18 k_10 k_11 k_12 k_13 k_14 k_15 a_19 k_16 a_20 ) (cwV 1 hts (mm_gV mm_w641 mm_w642 mm_w643 mm_w5 mm_w644) rfl rfl rfl hd_X12_isLand ⟨by rw [hRf]; exact Nat.le_of_ble_eq_true rfl, by rw [hRl]; exact Nat.le_of_ble_eq_true rfl⟩) (mm_preV hK hP hD [0, 1] rfl rfl 0 rfl rfl rfl) rfl rfl hl.1 rfl (lv_room (Nat.le_of_ble_eq_true rfl)) dX12_agree_7 ⟨by rw [hRc]; exact Nat.le_of_ble_eq_true rfl, by rw [hRs]; exact Nat.le_of_ble_eq_true rfl⟩) hP hD hS hA [0, 1] rfl (fun _ => rfl) ?_
  clear hP hD hS
  clear H locs
  intro v1 _u H locs hw hP hD hS
  subst hw
  refine lv_if_eq (tgt := 31) hx hb dX12_agree_10 (by decide) (fun c2 => ?_) (fun c2 => ?_)
  · refine lv_bipush (v := (-2)) hx hb dX12_agree_31 (by decide) ?_
    subst hAe
    rw [hQ]
    exact W.iret (v := (-2)) hx hb hr (fun t ht hW => ⟨⟨(-2), (), rfl, rfl, by rw [ht]; exact hP, hK.warm hW, hD⟩, hS.F ht⟩) hS.2.2 dX12_agree_33
  · have q3 := mm_neL (lo := 1) (mm_ne c2) mm_k0 mm_k0 (by decide) (by decide)
    exact mm_no q3 (by decide)

set_option maxHeartbeats 4000000 in
set_option maxRecDepth 100000 in
theorem K172_X11_days (l : Launch) (G : va_G) (cy : Nat → ClassId) (sz : Nat) (a_0 : Nat) (i_0 : Int32) (i_1 : Int32) (i_2 : Int32) (a_1 : Nat) (a_2 : Nat) (a_3 : Nat) (a_4 : Nat) (a_5 : Nat) (a_6 : Nat) (a_7 : Nat) (a_8 : Nat) (a_9 : Nat) (a_10 : Nat) (a_11 : Nat) (a_24 : Nat) (a_25 : Nat) (k_0 : Int32) (k_1 : Int32) (k_2 : Int32) (k_3 : Int32) (k_4 : Int32) (k_5 : Int32) (k_6 : Int32) (a_26 : Nat) (a_27 : Nat) (a_28 : Nat) (a_29 : Nat) (a_30 : Nat) (a_31 : Nat) (a_32 : Nat) (a_33 : Nat) (a_34 : Nat) (a_35 : Nat)   : mm_CI l yX11_days (mm_ws yX11_days cX11_days 7 (some .int)) ({ frames := 2, cells := 0, slots := 0, locals := 43 } : Room) G cy sz [(a_0, .inr (11, [.ref a_1, .ref a_2, .ref a_3, .ref a_4, .ref a_5, .ref a_6, .ref a_7, .ref a_8, .ref a_9, .ref a_10, .ref a_11])), (a_3, .inr (10, [.ref a_24, .ref a_25])), (a_24, .inr (0, [.int k_0, .int k_1, .int k_2, .int k_3, .int k_4, .int 0, .int k_5, .int k_6, .ref a_26, .ref a_27, .ref a_28, .ref a_29, .ref a_30, .ref a_31, .ref a_32, .ref a_33, .ref a_34, .ref a_35]))] [.ref a_0, .int i_0, .int i_1, .int i_2] (fun u : Unit => [(a_0, .inr (11, [.ref a_1, .ref a_2, .ref a_3, .ref a_4, .ref a_5, .ref a_6, .ref a_7, .ref a_8, .ref a_9, .ref a_10, .ref a_11])), (a_3, .inr (10, [.ref a_24, .ref a_25])), (a_24, .inr (0, [.int k_0, .int k_1, .int k_2, .int k_3, .int k_4, .int 0, .int k_5, .int k_6, .ref a_26, .ref a_27, .ref a_28, .ref a_29, .ref a_30, .ref a_31, .ref a_32, .ref a_33, .ref a_34, .ref a_35]))]) (fun (r : Int32) (u : Unit) => (-2) = r) 0 0 := by
  refine mm_begin (lv := [(0, .ref a_0), (1, .int i_0), (2, .int i_1), (3, .int i_2)]) (by decide) (Nat.le_of_ble_eq_true rfl) rfl ?_
  intro p e s m below meth c A ls R args Q H locs hRe hQ hAe hx hb hr hlocks hml hown hnm hts hsz hA hS hP hK hD hl
  have hRf : R.frames = 2 := by rw [hRe]
  have hRl : R.locals = 43 := by rw [hRe]
  have hRc : R.cells = 0 := by rw [hRe]
  have hRs : R.slots = 0 := by rw [hRe]
  refine lv_aload_n hx hb dX11_days_0 rfl (lv_at hl 0 rfl) ?_
  refine lv_iload_n hx hb dX11_days_1 rfl (lv_at hl 1 rfl) ?_
  refine lv_iload_n hx hb dX11_days_2 rfl (lv_at hl 2 rfl) ?_
  refine mm_finir (va_runV (As := [.int i_0, .int i_1]) (rest := []) ⟨hx, hb, hml, hown, hts⟩ (K166_X11_isLandAndText l G cy H.size a_0 i_0 i_1 a_1 a_2 a_3 a_4 a_5 a_6 a_7 a_8 a_9 a_10 a_11 a_24 a_25 k_0 k_1 k_2 k_3 k_4 k_5 k_6 a_26 a_27 a_28 a_29 a_30 a_31 a_32 a_33 a_34 a_35 ) (cwV 2 hts (mm_gV mm_w955 mm_w956 mm_w957 mm_w2 mm_w958) rfl rfl rfl hd_X11_isLandAndText ⟨by rw [hRf]; exact Nat.le_of_ble_eq_true rfl, by rw [hRl]; exact Nat.le_of_ble_eq_true rfl⟩) (mm_preV hK hP hD [0, 1, 2] rfl rfl 0 rfl rfl rfl) rfl rfl hl.1 rfl (lv_room (Nat.le_of_ble_eq_true rfl)) dX11_days_3 ⟨by rw [hRc]; exact Nat.le_of_ble_eq_true rfl, by rw [hRs]; exact Nat.le_of_ble_eq_true rfl⟩) hP hD hS hA [0, 1, 2] rfl (fun _ => rfl) ?_
  clear hP hD hS
  clear H locs
  intro v1 _u H locs hw hP hD hS
  subst hw
  refine lv_if_eq (tgt := 16) hx hb dX11_days_6 (by decide) (fun c2 => ?_) (fun c2 => ?_)
  · refine lv_bipush (v := (-2)) hx hb dX11_days_16 (by decide) ?_
    subst hAe
    rw [hQ]
    exact W.iret (v := (-2)) hx hb hr (fun t ht hW => ⟨⟨(-2), (), rfl, rfl, by rw [ht]; exact hP, hK.warm hW, hD⟩, hS.F ht⟩) hS.2.2 dX11_days_18
  · have q3 := mm_neL (lo := 1) (mm_ne c2) mm_k0 mm_k0 (by decide) (by decide)
    exact mm_no q3 (by decide)

set_option maxHeartbeats 4000000 in
set_option maxRecDepth 100000 in
theorem K173_X12_days (l : Launch) (G : va_G) (cy : Nat → ClassId) (sz : Nat) (a_0 : Nat) (i_0 : Int32) (i_1 : Int32) (i_2 : Int32) (a_1 : Nat) (a_2 : Nat) (a_3 : Nat) (a_4 : Nat) (a_5 : Nat) (k_0 : Int32) (k_1 : Int32) (k_2 : Int32) (k_3 : Int32) (k_4 : Int32) (k_5 : Int64) (k_6 : Int32) (k_7 : Int32) (k_8 : Int32) (k_9 : Int32) (a_6 : Nat) (a_7 : Nat) (a_8 : Nat) (a_9 : Nat) (a_10 : Nat) (a_11 : Nat) (a_12 : Nat) (a_13 : Nat) (a_14 : Nat) (a_15 : Nat) (a_16 : Nat) (a_17 : Nat) (a_18 : Nat) (k_10 : Int32) (k_11 : Int32) (k_12 : Int32) (k_13 : Int32) (k_14 : Int32) (k_15 : Int32) (a_19 : Nat) (k_16 : Int32) (a_20 : Nat)   : mm_CI l yX12_days (mm_ws yX12_days cX12_days 6 (some .int)) ({ frames := 2, cells := 0, slots := 0, locals := 46 } : Room) G cy sz [(a_0, .inr (12, [.int 0, .ref a_1, .ref a_2, .ref a_3, .ref a_4, .ref a_5, .int k_0, .int k_1, .int k_2, .int k_3, .int k_4, .long k_5, .int k_6, .int k_7, .int k_8, .int k_9, .ref a_6, .ref a_7, .ref a_8, .ref a_9, .ref a_10, .ref a_11, .ref a_12, .ref a_13, .ref a_14, .ref a_15, .ref a_16, .ref a_17, .ref a_18, .int k_10, .int k_11, .int k_12, .int k_13, .int k_14, .int k_15, .ref a_19, .int k_16, .ref a_20])), (a_7, .inl (cy 1, 30, .inl (fun _ => 0)))] [.ref a_0, .int i_0, .int i_1, .int i_2] (fun u : Unit => [(a_0, .inr (12, [.int 0, .ref a_1, .ref a_2, .ref a_3, .ref a_4, .ref a_5, .int k_0, .int k_1, .int k_2, .int k_3, .int k_4, .long k_5, .int k_6, .int k_7, .int k_8, .int k_9, .ref a_6, .ref a_7, .ref a_8, .ref a_9, .ref a_10, .ref a_11, .ref a_12, .ref a_13, .ref a_14, .ref a_15, .ref a_16, .ref a_17, .ref a_18, .int k_10, .int k_11, .int k_12, .int k_13, .int k_14, .int k_15, .ref a_19, .int k_16, .ref a_20])), (a_7, .inl (cy 1, 30, .inl (fun _ => 0)))]) (fun (r : Int32) (u : Unit) => (-2) = r) 0 0 := by
  refine mm_begin (lv := [(0, .ref a_0), (1, .int i_0), (2, .int i_1), (3, .int i_2)]) (by decide) (Nat.le_of_ble_eq_true rfl) rfl ?_
  intro p e s m below meth c A ls R args Q H locs hRe hQ hAe hx hb hr hlocks hml hown hnm hts hsz hA hS hP hK hD hl
  have hRf : R.frames = 2 := by rw [hRe]
  have hRl : R.locals = 46 := by rw [hRe]
  have hRc : R.cells = 0 := by rw [hRe]
  have hRs : R.slots = 0 := by rw [hRe]
  refine lv_aload_n hx hb dX12_days_0 rfl (lv_at hl 0 rfl) ?_
  refine lv_iconst (v := 0) hx hb dX12_days_1 (by decide) ?_
  refine va_put (D := G) (ci := 12) (v := .int 0) (ty := tyX12 0) (C := RX12) (T := TX12) (N := 38) hx hb hts (mm_i inlX12) tyX12 tyX12_ok nmX12 hown hK.1 hP hD hS 0 rfl rfl 0 (by decide) (mm_h hts mm_w177) (fun _ h9 => h9) rfl (tyX12_ok 0 (by decide)) rfl rfl (Nat.le_of_ble_eq_true rfl) dX12_days_2 ?_
  clear hP hD hS
  clear H locs
  intro H locs (hP : va_P G vwCl [(a_0, .inr (12, [.int 0, .ref a_1, .ref a_2, .ref a_3, .ref a_4, .ref a_5, .int k_0, .int k_1, .int k_2, .int k_3, .int k_4, .long k_5, .int k_6, .int k_7, .int k_8, .int k_9, .ref a_6, .ref a_7, .ref a_8, .ref a_9, .ref a_10, .ref a_11, .ref a_12, .ref a_13, .ref a_14, .ref a_15, .ref a_16, .ref a_17, .ref a_18, .int k_10, .int k_11, .int k_12, .int k_13, .int k_14, .int k_15, .ref a_19, .int k_16, .ref a_20])), (a_7, .inl (cy 1, 30, .inl (fun _ => 0)))] H) (hD : va_D A [(a_0, .inr (12, [.int 0, .ref a_1, .ref a_2, .ref a_3, .ref a_4, .ref a_5, .int k_0, .int k_1, .int k_2, .int k_3, .int k_4, .long k_5, .int k_6, .int k_7, .int k_8, .int k_9, .ref a_6, .ref a_7, .ref a_8, .ref a_9, .ref a_10, .ref a_11, .ref a_12, .ref a_13, .ref a_14, .ref a_15, .ref a_16, .ref a_17, .ref a_18, .int k_10, .int k_11, .int k_12, .int k_13, .int k_14, .int k_15, .ref a_19, .int k_16, .ref a_20])), (a_7, .inl (cy 1, 30, .inl (fun _ => 0)))]) hS
  refine lv_aload_n hx hb dX12_days_5 rfl (lv_at hl 0 rfl) ?_
  refine lv_iload_n hx hb dX12_days_6 rfl (lv_at hl 1 rfl) ?_
  refine mm_finir (va_runV (As := [.int i_0]) (rest := []) ⟨hx, hb, hml, hown, hts⟩ (K126_X12_isLand l G cy H.size a_0 i_0 0 a_1 a_2 a_3 a_4 a_5 k_0 k_1 k_2 k_3 k_4 k_5 k_6 k_7 k_8 k_9 a_6 a_7 a_8 a_9 a_10 a_11 a_12 a_13 a_14 a_15 a_16 a_17 a_18 k_10 k_11 k_12 k_13 k_14 k_15 a_19 k_16 a_20 ) (cwV 1 hts (mm_gV mm_w641 mm_w642 mm_w643 mm_w5 mm_w644) rfl rfl rfl hd_X12_isLand ⟨by rw [hRf]; exact Nat.le_of_ble_eq_true rfl, by rw [hRl]; exact Nat.le_of_ble_eq_true rfl⟩) (mm_preV hK hP hD [0, 1] rfl rfl 0 rfl rfl rfl) rfl rfl hl.1 rfl (lv_room (Nat.le_of_ble_eq_true rfl)) dX12_days_7 ⟨by rw [hRc]; exact Nat.le_of_ble_eq_true rfl, by rw [hRs]; exact Nat.le_of_ble_eq_true rfl⟩) hP hD hS hA [0, 1] rfl (fun _ => rfl) ?_
  clear hP hD hS
  clear H locs
  intro v1 _u H locs hw hP hD hS
  subst hw
  refine lv_if_eq (tgt := 30) hx hb dX12_days_10 (by decide) (fun c2 => ?_) (fun c2 => ?_)
  · refine lv_bipush (v := (-2)) hx hb dX12_days_30 (by decide) ?_
    subst hAe
    rw [hQ]
    exact W.iret (v := (-2)) hx hb hr (fun t ht hW => ⟨⟨(-2), (), rfl, rfl, by rw [ht]; exact hP, hK.warm hW, hD⟩, hS.F ht⟩) hS.2.2 dX12_days_32
  · have q3 := mm_neL (lo := 1) (mm_ne c2) mm_k0 mm_k0 (by decide) (by decide)
    exact mm_no q3 (by decide)

set_option maxHeartbeats 4000000 in
set_option maxRecDepth 100000 in
theorem K174_X11_run (l : Launch) (G : va_G) (cy : Nat → ClassId) (sz : Nat) (a_0 : Nat) (i_0 : Int32) (i_1 : Int32) (a_1 : Nat) (a_2 : Nat) (a_3 : Nat) (a_4 : Nat) (a_5 : Nat) (a_6 : Nat) (a_7 : Nat) (a_8 : Nat) (a_9 : Nat) (a_10 : Nat) (a_11 : Nat) (a_24 : Nat) (a_25 : Nat) (k_0 : Int32) (k_1 : Int32) (k_2 : Int32) (k_3 : Int32) (k_4 : Int32) (k_5 : Int32) (k_6 : Int32) (a_26 : Nat) (a_27 : Nat) (a_28 : Nat) (a_29 : Nat) (a_30 : Nat) (a_31 : Nat) (a_32 : Nat) (a_33 : Nat) (a_34 : Nat) (a_35 : Nat)   : mm_CI l yX11_run (mm_ws yX11_run cX11_run 7 (some .int)) ({ frames := 2, cells := 0, slots := 0, locals := 43 } : Room) G cy sz [(a_0, .inr (11, [.ref a_1, .ref a_2, .ref a_3, .ref a_4, .ref a_5, .ref a_6, .ref a_7, .ref a_8, .ref a_9, .ref a_10, .ref a_11])), (a_3, .inr (10, [.ref a_24, .ref a_25])), (a_24, .inr (0, [.int k_0, .int k_1, .int k_2, .int k_3, .int k_4, .int 0, .int k_5, .int k_6, .ref a_26, .ref a_27, .ref a_28, .ref a_29, .ref a_30, .ref a_31, .ref a_32, .ref a_33, .ref a_34, .ref a_35]))] [.ref a_0, .int i_0, .int i_1] (fun u : Unit => [(a_0, .inr (11, [.ref a_1, .ref a_2, .ref a_3, .ref a_4, .ref a_5, .ref a_6, .ref a_7, .ref a_8, .ref a_9, .ref a_10, .ref a_11])), (a_3, .inr (10, [.ref a_24, .ref a_25])), (a_24, .inr (0, [.int k_0, .int k_1, .int k_2, .int k_3, .int k_4, .int 0, .int k_5, .int k_6, .ref a_26, .ref a_27, .ref a_28, .ref a_29, .ref a_30, .ref a_31, .ref a_32, .ref a_33, .ref a_34, .ref a_35]))]) (fun (r : Int32) (u : Unit) => (-2) = r) 0 0 := by
  refine mm_begin (lv := [(0, .ref a_0), (1, .int i_0), (2, .int i_1)]) (by decide) (Nat.le_of_ble_eq_true rfl) rfl ?_
  intro p e s m below meth c A ls R args Q H locs hRe hQ hAe hx hb hr hlocks hml hown hnm hts hsz hA hS hP hK hD hl
  have hRf : R.frames = 2 := by rw [hRe]
  have hRl : R.locals = 43 := by rw [hRe]
  have hRc : R.cells = 0 := by rw [hRe]
  have hRs : R.slots = 0 := by rw [hRe]
  refine lv_aload_n hx hb dX11_run_0 rfl (lv_at hl 0 rfl) ?_
  refine lv_iload_n hx hb dX11_run_1 rfl (lv_at hl 1 rfl) ?_
  refine lv_iload_n hx hb dX11_run_2 rfl (lv_at hl 2 rfl) ?_
  refine mm_finir (va_runV (As := [.int i_0, .int i_1]) (rest := []) ⟨hx, hb, hml, hown, hts⟩ (K166_X11_isLandAndText l G cy H.size a_0 i_0 i_1 a_1 a_2 a_3 a_4 a_5 a_6 a_7 a_8 a_9 a_10 a_11 a_24 a_25 k_0 k_1 k_2 k_3 k_4 k_5 k_6 a_26 a_27 a_28 a_29 a_30 a_31 a_32 a_33 a_34 a_35 ) (cwV 2 hts (mm_gV mm_w955 mm_w956 mm_w957 mm_w2 mm_w958) rfl rfl rfl hd_X11_isLandAndText ⟨by rw [hRf]; exact Nat.le_of_ble_eq_true rfl, by rw [hRl]; exact Nat.le_of_ble_eq_true rfl⟩) (mm_preV hK hP hD [0, 1, 2] rfl rfl 0 rfl rfl rfl) rfl rfl hl.1 rfl (lv_room (Nat.le_of_ble_eq_true rfl)) dX11_run_3 ⟨by rw [hRc]; exact Nat.le_of_ble_eq_true rfl, by rw [hRs]; exact Nat.le_of_ble_eq_true rfl⟩) hP hD hS hA [0, 1, 2] rfl (fun _ => rfl) ?_
  clear hP hD hS
  clear H locs
  intro v1 _u H locs hw hP hD hS
  subst hw
  refine lv_if_ne (tgt := 12) hx hb dX11_run_6 (by decide) (fun c2 => ?_) (fun c2 => ?_)
  · have q3 := mm_neL (lo := 1) (mm_ne c2) mm_k0 mm_k0 (by decide) (by decide)
    exact mm_no q3 (by decide)
  · refine lv_bipush (v := (-2)) hx hb dX11_run_9 (by decide) ?_
    subst hAe
    rw [hQ]
    exact W.iret (v := (-2)) hx hb hr (fun t ht hW => ⟨⟨(-2), (), rfl, rfl, by rw [ht]; exact hP, hK.warm hW, hD⟩, hS.F ht⟩) hS.2.2 dX11_run_11

set_option maxHeartbeats 4000000 in
set_option maxRecDepth 100000 in
theorem K175_X12_run (l : Launch) (G : va_G) (cy : Nat → ClassId) (sz : Nat) (a_0 : Nat) (i_0 : Int32) (i_1 : Int32) (a_1 : Nat) (a_2 : Nat) (a_3 : Nat) (a_4 : Nat) (a_5 : Nat) (k_0 : Int32) (k_1 : Int32) (k_2 : Int32) (k_3 : Int32) (k_4 : Int32) (k_5 : Int64) (k_6 : Int32) (k_7 : Int32) (k_8 : Int32) (k_9 : Int32) (a_6 : Nat) (a_7 : Nat) (a_8 : Nat) (a_9 : Nat) (a_10 : Nat) (a_11 : Nat) (a_12 : Nat) (a_13 : Nat) (a_14 : Nat) (a_15 : Nat) (a_16 : Nat) (a_17 : Nat) (a_18 : Nat) (k_10 : Int32) (k_11 : Int32) (k_12 : Int32) (k_13 : Int32) (k_14 : Int32) (k_15 : Int32) (a_19 : Nat) (k_16 : Int32) (a_20 : Nat)   : mm_CI l yX12_run (mm_ws yX12_run cX12_run 6 (some .int)) ({ frames := 2, cells := 0, slots := 0, locals := 46 } : Room) G cy sz [(a_0, .inr (12, [.int 0, .ref a_1, .ref a_2, .ref a_3, .ref a_4, .ref a_5, .int k_0, .int k_1, .int k_2, .int k_3, .int k_4, .long k_5, .int k_6, .int k_7, .int k_8, .int k_9, .ref a_6, .ref a_7, .ref a_8, .ref a_9, .ref a_10, .ref a_11, .ref a_12, .ref a_13, .ref a_14, .ref a_15, .ref a_16, .ref a_17, .ref a_18, .int k_10, .int k_11, .int k_12, .int k_13, .int k_14, .int k_15, .ref a_19, .int k_16, .ref a_20])), (a_7, .inl (cy 1, 30, .inl (fun _ => 0)))] [.ref a_0, .int i_0, .int i_1] (fun u : Unit => [(a_0, .inr (12, [.int 0, .ref a_1, .ref a_2, .ref a_3, .ref a_4, .ref a_5, .int k_0, .int k_1, .int k_2, .int k_3, .int k_4, .long k_5, .int k_6, .int k_7, .int k_8, .int k_9, .ref a_6, .ref a_7, .ref a_8, .ref a_9, .ref a_10, .ref a_11, .ref a_12, .ref a_13, .ref a_14, .ref a_15, .ref a_16, .ref a_17, .ref a_18, .int k_10, .int k_11, .int k_12, .int k_13, .int k_14, .int k_15, .ref a_19, .int k_16, .ref a_20])), (a_7, .inl (cy 1, 30, .inl (fun _ => 0)))]) (fun (r : Int32) (u : Unit) => (-2) = r) 0 0 := by
  refine mm_begin (lv := [(0, .ref a_0), (1, .int i_0), (2, .int i_1)]) (by decide) (Nat.le_of_ble_eq_true rfl) rfl ?_
  intro p e s m below meth c A ls R args Q H locs hRe hQ hAe hx hb hr hlocks hml hown hnm hts hsz hA hS hP hK hD hl
  have hRf : R.frames = 2 := by rw [hRe]
  have hRl : R.locals = 46 := by rw [hRe]
  have hRc : R.cells = 0 := by rw [hRe]
  have hRs : R.slots = 0 := by rw [hRe]
  refine lv_aload_n hx hb dX12_run_0 rfl (lv_at hl 0 rfl) ?_
  refine lv_iconst (v := 0) hx hb dX12_run_1 (by decide) ?_
  refine va_put (D := G) (ci := 12) (v := .int 0) (ty := tyX12 0) (C := RX12) (T := TX12) (N := 38) hx hb hts (mm_i inlX12) tyX12 tyX12_ok nmX12 hown hK.1 hP hD hS 0 rfl rfl 0 (by decide) (mm_h hts mm_w177) (fun _ h9 => h9) rfl (tyX12_ok 0 (by decide)) rfl rfl (Nat.le_of_ble_eq_true rfl) dX12_run_2 ?_
  clear hP hD hS
  clear H locs
  intro H locs (hP : va_P G vwCl [(a_0, .inr (12, [.int 0, .ref a_1, .ref a_2, .ref a_3, .ref a_4, .ref a_5, .int k_0, .int k_1, .int k_2, .int k_3, .int k_4, .long k_5, .int k_6, .int k_7, .int k_8, .int k_9, .ref a_6, .ref a_7, .ref a_8, .ref a_9, .ref a_10, .ref a_11, .ref a_12, .ref a_13, .ref a_14, .ref a_15, .ref a_16, .ref a_17, .ref a_18, .int k_10, .int k_11, .int k_12, .int k_13, .int k_14, .int k_15, .ref a_19, .int k_16, .ref a_20])), (a_7, .inl (cy 1, 30, .inl (fun _ => 0)))] H) (hD : va_D A [(a_0, .inr (12, [.int 0, .ref a_1, .ref a_2, .ref a_3, .ref a_4, .ref a_5, .int k_0, .int k_1, .int k_2, .int k_3, .int k_4, .long k_5, .int k_6, .int k_7, .int k_8, .int k_9, .ref a_6, .ref a_7, .ref a_8, .ref a_9, .ref a_10, .ref a_11, .ref a_12, .ref a_13, .ref a_14, .ref a_15, .ref a_16, .ref a_17, .ref a_18, .int k_10, .int k_11, .int k_12, .int k_13, .int k_14, .int k_15, .ref a_19, .int k_16, .ref a_20])), (a_7, .inl (cy 1, 30, .inl (fun _ => 0)))]) hS
  refine lv_aload_n hx hb dX12_run_5 rfl (lv_at hl 0 rfl) ?_
  refine lv_iload_n hx hb dX12_run_6 rfl (lv_at hl 1 rfl) ?_
  refine mm_finir (va_runV (As := [.int i_0]) (rest := []) ⟨hx, hb, hml, hown, hts⟩ (K126_X12_isLand l G cy H.size a_0 i_0 0 a_1 a_2 a_3 a_4 a_5 k_0 k_1 k_2 k_3 k_4 k_5 k_6 k_7 k_8 k_9 a_6 a_7 a_8 a_9 a_10 a_11 a_12 a_13 a_14 a_15 a_16 a_17 a_18 k_10 k_11 k_12 k_13 k_14 k_15 a_19 k_16 a_20 ) (cwV 1 hts (mm_gV mm_w641 mm_w642 mm_w643 mm_w5 mm_w644) rfl rfl rfl hd_X12_isLand ⟨by rw [hRf]; exact Nat.le_of_ble_eq_true rfl, by rw [hRl]; exact Nat.le_of_ble_eq_true rfl⟩) (mm_preV hK hP hD [0, 1] rfl rfl 0 rfl rfl rfl) rfl rfl hl.1 rfl (lv_room (Nat.le_of_ble_eq_true rfl)) dX12_run_7 ⟨by rw [hRc]; exact Nat.le_of_ble_eq_true rfl, by rw [hRs]; exact Nat.le_of_ble_eq_true rfl⟩) hP hD hS hA [0, 1] rfl (fun _ => rfl) ?_
  clear hP hD hS
  clear H locs
  intro v1 _u H locs hw hP hD hS
  subst hw
  refine lv_if_eq (tgt := 22) hx hb dX12_run_10 (by decide) (fun c2 => ?_) (fun c2 => ?_)
  · refine lv_bipush (v := (-2)) hx hb dX12_run_22 (by decide) ?_
    subst hAe
    rw [hQ]
    exact W.iret (v := (-2)) hx hb hr (fun t ht hW => ⟨⟨(-2), (), rfl, rfl, by rw [ht]; exact hP, hK.warm hW, hD⟩, hS.F ht⟩) hS.2.2 dX12_run_24
  · have q3 := mm_neL (lo := 1) (mm_ne c2) mm_k0 mm_k0 (by decide) (by decide)
    exact mm_no q3 (by decide)

set_option maxHeartbeats 4000000 in
set_option maxRecDepth 100000 in
theorem K176_X11_average (l : Launch) (G : va_G) (cy : Nat → ClassId) (sz : Nat) (a_0 : Nat) (i_0 : Int32) (i_1 : Int32) (i_2 : Int32) (a_1 : Nat) (a_2 : Nat) (a_3 : Nat) (a_4 : Nat) (a_5 : Nat) (a_6 : Nat) (a_7 : Nat) (a_8 : Nat) (a_9 : Nat) (a_10 : Nat) (a_11 : Nat) (a_24 : Nat) (a_25 : Nat) (k_0 : Int32) (k_1 : Int32) (k_2 : Int32) (k_3 : Int32) (k_4 : Int32) (k_5 : Int32) (k_6 : Int32) (a_26 : Nat) (a_27 : Nat) (a_28 : Nat) (a_29 : Nat) (a_30 : Nat) (a_31 : Nat) (a_32 : Nat) (a_33 : Nat) (a_34 : Nat) (a_35 : Nat)   : mm_CI l yX11_average (mm_ws yX11_average cX11_average 8 (some .int)) ({ frames := 2, cells := 0, slots := 0, locals := 43 } : Room) G cy sz [(a_0, .inr (11, [.ref a_1, .ref a_2, .ref a_3, .ref a_4, .ref a_5, .ref a_6, .ref a_7, .ref a_8, .ref a_9, .ref a_10, .ref a_11])), (a_3, .inr (10, [.ref a_24, .ref a_25])), (a_24, .inr (0, [.int k_0, .int k_1, .int k_2, .int k_3, .int k_4, .int 0, .int k_5, .int k_6, .ref a_26, .ref a_27, .ref a_28, .ref a_29, .ref a_30, .ref a_31, .ref a_32, .ref a_33, .ref a_34, .ref a_35]))] [.ref a_0, .int i_0, .int i_1, .int i_2] (fun u : Unit => [(a_0, .inr (11, [.ref a_1, .ref a_2, .ref a_3, .ref a_4, .ref a_5, .ref a_6, .ref a_7, .ref a_8, .ref a_9, .ref a_10, .ref a_11])), (a_3, .inr (10, [.ref a_24, .ref a_25])), (a_24, .inr (0, [.int k_0, .int k_1, .int k_2, .int k_3, .int k_4, .int 0, .int k_5, .int k_6, .ref a_26, .ref a_27, .ref a_28, .ref a_29, .ref a_30, .ref a_31, .ref a_32, .ref a_33, .ref a_34, .ref a_35]))]) (fun (r : Int32) (u : Unit) => (-2) = r) 0 0 := by
  refine mm_begin (lv := [(0, .ref a_0), (1, .int i_0), (2, .int i_1), (3, .int i_2)]) (by decide) (Nat.le_of_ble_eq_true rfl) rfl ?_
  intro p e s m below meth c A ls R args Q H locs hRe hQ hAe hx hb hr hlocks hml hown hnm hts hsz hA hS hP hK hD hl
  have hRf : R.frames = 2 := by rw [hRe]
  have hRl : R.locals = 43 := by rw [hRe]
  have hRc : R.cells = 0 := by rw [hRe]
  have hRs : R.slots = 0 := by rw [hRe]
  refine lv_aload_n hx hb dX11_average_0 rfl (lv_at hl 0 rfl) ?_
  refine lv_iload_n hx hb dX11_average_1 rfl (lv_at hl 1 rfl) ?_
  refine lv_iload_n hx hb dX11_average_2 rfl (lv_at hl 2 rfl) ?_
  refine mm_finir (va_runV (As := [.int i_0, .int i_1]) (rest := []) ⟨hx, hb, hml, hown, hts⟩ (K166_X11_isLandAndText l G cy H.size a_0 i_0 i_1 a_1 a_2 a_3 a_4 a_5 a_6 a_7 a_8 a_9 a_10 a_11 a_24 a_25 k_0 k_1 k_2 k_3 k_4 k_5 k_6 a_26 a_27 a_28 a_29 a_30 a_31 a_32 a_33 a_34 a_35 ) (cwV 2 hts (mm_gV mm_w955 mm_w956 mm_w957 mm_w2 mm_w958) rfl rfl rfl hd_X11_isLandAndText ⟨by rw [hRf]; exact Nat.le_of_ble_eq_true rfl, by rw [hRl]; exact Nat.le_of_ble_eq_true rfl⟩) (mm_preV hK hP hD [0, 1, 2] rfl rfl 0 rfl rfl rfl) rfl rfl hl.1 rfl (lv_room (Nat.le_of_ble_eq_true rfl)) dX11_average_3 ⟨by rw [hRc]; exact Nat.le_of_ble_eq_true rfl, by rw [hRs]; exact Nat.le_of_ble_eq_true rfl⟩) hP hD hS hA [0, 1, 2] rfl (fun _ => rfl) ?_
  clear hP hD hS
  clear H locs
  intro v1 _u H locs hw hP hD hS
  subst hw
  refine lv_if_eq (tgt := 16) hx hb dX11_average_6 (by decide) (fun c2 => ?_) (fun c2 => ?_)
  · refine lv_bipush (v := (-2)) hx hb dX11_average_16 (by decide) ?_
    subst hAe
    rw [hQ]
    exact W.iret (v := (-2)) hx hb hr (fun t ht hW => ⟨⟨(-2), (), rfl, rfl, by rw [ht]; exact hP, hK.warm hW, hD⟩, hS.F ht⟩) hS.2.2 dX11_average_18
  · have q3 := mm_neL (lo := 1) (mm_ne c2) mm_k0 mm_k0 (by decide) (by decide)
    exact mm_no q3 (by decide)

set_option maxHeartbeats 4000000 in
set_option maxRecDepth 100000 in
theorem K177_X12_average (l : Launch) (G : va_G) (cy : Nat → ClassId) (sz : Nat) (a_0 : Nat) (i_0 : Int32) (i_1 : Int32) (i_2 : Int32) (a_1 : Nat) (a_2 : Nat) (a_3 : Nat) (a_4 : Nat) (a_5 : Nat) (k_0 : Int32) (k_1 : Int32) (k_2 : Int32) (k_3 : Int32) (k_4 : Int32) (k_5 : Int64) (k_6 : Int32) (k_7 : Int32) (k_8 : Int32) (k_9 : Int32) (a_6 : Nat) (a_7 : Nat) (a_8 : Nat) (a_9 : Nat) (a_10 : Nat) (a_11 : Nat) (a_12 : Nat) (a_13 : Nat) (a_14 : Nat) (a_15 : Nat) (a_16 : Nat) (a_17 : Nat) (a_18 : Nat) (k_10 : Int32) (k_11 : Int32) (k_12 : Int32) (k_13 : Int32) (k_14 : Int32) (k_15 : Int32) (a_19 : Nat) (k_16 : Int32) (a_20 : Nat)   : mm_CI l yX12_average (mm_ws yX12_average cX12_average 7 (some .int)) ({ frames := 2, cells := 0, slots := 0, locals := 46 } : Room) G cy sz [(a_0, .inr (12, [.int 0, .ref a_1, .ref a_2, .ref a_3, .ref a_4, .ref a_5, .int k_0, .int k_1, .int k_2, .int k_3, .int k_4, .long k_5, .int k_6, .int k_7, .int k_8, .int k_9, .ref a_6, .ref a_7, .ref a_8, .ref a_9, .ref a_10, .ref a_11, .ref a_12, .ref a_13, .ref a_14, .ref a_15, .ref a_16, .ref a_17, .ref a_18, .int k_10, .int k_11, .int k_12, .int k_13, .int k_14, .int k_15, .ref a_19, .int k_16, .ref a_20])), (a_7, .inl (cy 1, 30, .inl (fun _ => 0)))] [.ref a_0, .int i_0, .int i_1, .int i_2] (fun u : Unit => [(a_0, .inr (12, [.int 0, .ref a_1, .ref a_2, .ref a_3, .ref a_4, .ref a_5, .int k_0, .int k_1, .int k_2, .int k_3, .int k_4, .long k_5, .int k_6, .int k_7, .int k_8, .int k_9, .ref a_6, .ref a_7, .ref a_8, .ref a_9, .ref a_10, .ref a_11, .ref a_12, .ref a_13, .ref a_14, .ref a_15, .ref a_16, .ref a_17, .ref a_18, .int k_10, .int k_11, .int k_12, .int k_13, .int k_14, .int k_15, .ref a_19, .int k_16, .ref a_20])), (a_7, .inl (cy 1, 30, .inl (fun _ => 0)))]) (fun (r : Int32) (u : Unit) => (-2) = r) 0 0 := by
  refine mm_begin (lv := [(0, .ref a_0), (1, .int i_0), (2, .int i_1), (3, .int i_2)]) (by decide) (Nat.le_of_ble_eq_true rfl) rfl ?_
  intro p e s m below meth c A ls R args Q H locs hRe hQ hAe hx hb hr hlocks hml hown hnm hts hsz hA hS hP hK hD hl
  have hRf : R.frames = 2 := by rw [hRe]
  have hRl : R.locals = 46 := by rw [hRe]
  have hRc : R.cells = 0 := by rw [hRe]
  have hRs : R.slots = 0 := by rw [hRe]
  refine lv_aload_n hx hb dX12_average_0 rfl (lv_at hl 0 rfl) ?_
  refine lv_iconst (v := 0) hx hb dX12_average_1 (by decide) ?_
  refine va_put (D := G) (ci := 12) (v := .int 0) (ty := tyX12 0) (C := RX12) (T := TX12) (N := 38) hx hb hts (mm_i inlX12) tyX12 tyX12_ok nmX12 hown hK.1 hP hD hS 0 rfl rfl 0 (by decide) (mm_h hts mm_w177) (fun _ h9 => h9) rfl (tyX12_ok 0 (by decide)) rfl rfl (Nat.le_of_ble_eq_true rfl) dX12_average_2 ?_
  clear hP hD hS
  clear H locs
  intro H locs (hP : va_P G vwCl [(a_0, .inr (12, [.int 0, .ref a_1, .ref a_2, .ref a_3, .ref a_4, .ref a_5, .int k_0, .int k_1, .int k_2, .int k_3, .int k_4, .long k_5, .int k_6, .int k_7, .int k_8, .int k_9, .ref a_6, .ref a_7, .ref a_8, .ref a_9, .ref a_10, .ref a_11, .ref a_12, .ref a_13, .ref a_14, .ref a_15, .ref a_16, .ref a_17, .ref a_18, .int k_10, .int k_11, .int k_12, .int k_13, .int k_14, .int k_15, .ref a_19, .int k_16, .ref a_20])), (a_7, .inl (cy 1, 30, .inl (fun _ => 0)))] H) (hD : va_D A [(a_0, .inr (12, [.int 0, .ref a_1, .ref a_2, .ref a_3, .ref a_4, .ref a_5, .int k_0, .int k_1, .int k_2, .int k_3, .int k_4, .long k_5, .int k_6, .int k_7, .int k_8, .int k_9, .ref a_6, .ref a_7, .ref a_8, .ref a_9, .ref a_10, .ref a_11, .ref a_12, .ref a_13, .ref a_14, .ref a_15, .ref a_16, .ref a_17, .ref a_18, .int k_10, .int k_11, .int k_12, .int k_13, .int k_14, .int k_15, .ref a_19, .int k_16, .ref a_20])), (a_7, .inl (cy 1, 30, .inl (fun _ => 0)))]) hS
  refine lv_aload_n hx hb dX12_average_5 rfl (lv_at hl 0 rfl) ?_
  refine lv_iload_n hx hb dX12_average_6 rfl (lv_at hl 1 rfl) ?_
  refine mm_finir (va_runV (As := [.int i_0]) (rest := []) ⟨hx, hb, hml, hown, hts⟩ (K126_X12_isLand l G cy H.size a_0 i_0 0 a_1 a_2 a_3 a_4 a_5 k_0 k_1 k_2 k_3 k_4 k_5 k_6 k_7 k_8 k_9 a_6 a_7 a_8 a_9 a_10 a_11 a_12 a_13 a_14 a_15 a_16 a_17 a_18 k_10 k_11 k_12 k_13 k_14 k_15 a_19 k_16 a_20 ) (cwV 1 hts (mm_gV mm_w641 mm_w642 mm_w643 mm_w5 mm_w644) rfl rfl rfl hd_X12_isLand ⟨by rw [hRf]; exact Nat.le_of_ble_eq_true rfl, by rw [hRl]; exact Nat.le_of_ble_eq_true rfl⟩) (mm_preV hK hP hD [0, 1] rfl rfl 0 rfl rfl rfl) rfl rfl hl.1 rfl (lv_room (Nat.le_of_ble_eq_true rfl)) dX12_average_7 ⟨by rw [hRc]; exact Nat.le_of_ble_eq_true rfl, by rw [hRs]; exact Nat.le_of_ble_eq_true rfl⟩) hP hD hS hA [0, 1] rfl (fun _ => rfl) ?_
  clear hP hD hS
  clear H locs
  intro v1 _u H locs hw hP hD hS
  subst hw
  refine lv_if_eq (tgt := 29) hx hb dX12_average_10 (by decide) (fun c2 => ?_) (fun c2 => ?_)
  · refine lv_bipush (v := (-2)) hx hb dX12_average_29 (by decide) ?_
    subst hAe
    rw [hQ]
    exact W.iret (v := (-2)) hx hb hr (fun t ht hW => ⟨⟨(-2), (), rfl, rfl, by rw [ht]; exact hP, hK.warm hW, hD⟩, hS.F ht⟩) hS.2.2 dX12_average_31
  · have q3 := mm_neL (lo := 1) (mm_ne c2) mm_k0 mm_k0 (by decide) (by decide)
    exact mm_no q3 (by decide)

set_option maxHeartbeats 4000000 in
set_option maxRecDepth 100000 in
theorem K178_X11_lost (l : Launch) (G : va_G) (cy : Nat → ClassId) (sz : Nat) (a_0 : Nat) (i_0 : Int32) (i_1 : Int32) (i_2 : Int32) (a_1 : Nat) (a_2 : Nat) (a_3 : Nat) (a_4 : Nat) (a_5 : Nat) (a_6 : Nat) (a_7 : Nat) (a_8 : Nat) (a_9 : Nat) (a_10 : Nat) (a_11 : Nat) (a_24 : Nat) (a_25 : Nat) (k_0 : Int32) (k_1 : Int32) (k_2 : Int32) (k_3 : Int32) (k_4 : Int32) (k_5 : Int32) (k_6 : Int32) (a_26 : Nat) (a_27 : Nat) (a_28 : Nat) (a_29 : Nat) (a_30 : Nat) (a_31 : Nat) (a_32 : Nat) (a_33 : Nat) (a_34 : Nat) (a_35 : Nat)   : mm_CI l yX11_lost (mm_ws yX11_lost cX11_lost 5 (some .int)) ({ frames := 2, cells := 0, slots := 0, locals := 44 } : Room) G cy sz [(a_0, .inr (11, [.ref a_1, .ref a_2, .ref a_3, .ref a_4, .ref a_5, .ref a_6, .ref a_7, .ref a_8, .ref a_9, .ref a_10, .ref a_11])), (a_3, .inr (10, [.ref a_24, .ref a_25])), (a_24, .inr (0, [.int k_0, .int k_1, .int k_2, .int k_3, .int k_4, .int 0, .int k_5, .int k_6, .ref a_26, .ref a_27, .ref a_28, .ref a_29, .ref a_30, .ref a_31, .ref a_32, .ref a_33, .ref a_34, .ref a_35]))] [.ref a_0, .int i_0, .int i_1, .int i_2] (fun u : Unit => [(a_0, .inr (11, [.ref a_1, .ref a_2, .ref a_3, .ref a_4, .ref a_5, .ref a_6, .ref a_7, .ref a_8, .ref a_9, .ref a_10, .ref a_11])), (a_3, .inr (10, [.ref a_24, .ref a_25])), (a_24, .inr (0, [.int k_0, .int k_1, .int k_2, .int k_3, .int k_4, .int 0, .int k_5, .int k_6, .ref a_26, .ref a_27, .ref a_28, .ref a_29, .ref a_30, .ref a_31, .ref a_32, .ref a_33, .ref a_34, .ref a_35]))]) (fun (r : Int32) (u : Unit) => (-2) = r) 0 0 := by
  refine mm_begin (lv := [(0, .ref a_0), (1, .int i_0), (2, .int i_1), (3, .int i_2)]) (by decide) (Nat.le_of_ble_eq_true rfl) rfl ?_
  intro p e s m below meth c A ls R args Q H locs hRe hQ hAe hx hb hr hlocks hml hown hnm hts hsz hA hS hP hK hD hl
  have hRf : R.frames = 2 := by rw [hRe]
  have hRl : R.locals = 44 := by rw [hRe]
  have hRc : R.cells = 0 := by rw [hRe]
  have hRs : R.slots = 0 := by rw [hRe]
  refine lv_aload_n hx hb dX11_lost_0 rfl (lv_at hl 0 rfl) ?_
  refine lv_iload_n hx hb dX11_lost_1 rfl (lv_at hl 1 rfl) ?_
  refine lv_iload_n hx hb dX11_lost_2 rfl (lv_at hl 2 rfl) ?_
  refine lv_iload_n hx hb dX11_lost_3 rfl (lv_at hl 3 rfl) ?_
  refine mm_finir (va_runV (As := [.int i_0, .int i_1, .int i_2]) (rest := []) ⟨hx, hb, hml, hown, hts⟩ (K150_X11_isReading l G cy H.size a_0 i_0 i_1 i_2 a_1 a_2 a_3 a_4 a_5 a_6 a_7 a_8 a_9 a_10 a_11 a_24 a_25 k_0 k_1 k_2 k_3 k_4 k_5 k_6 a_26 a_27 a_28 a_29 a_30 a_31 a_32 a_33 a_34 a_35 ) (cwV 3 hts (mm_gV mm_w825 mm_w826 mm_w827 mm_w2 mm_w828) rfl rfl rfl hd_X11_isReading ⟨by rw [hRf]; exact Nat.le_of_ble_eq_true rfl, by rw [hRl]; exact Nat.le_of_ble_eq_true rfl⟩) (mm_preV hK hP hD [0, 1, 2] rfl rfl 0 rfl rfl rfl) rfl rfl hl.1 rfl (lv_room (Nat.le_of_ble_eq_true rfl)) dX11_lost_4 ⟨by rw [hRc]; exact Nat.le_of_ble_eq_true rfl, by rw [hRs]; exact Nat.le_of_ble_eq_true rfl⟩) hP hD hS hA [0, 1, 2] rfl (fun _ => rfl) ?_
  clear hP hD hS
  clear H locs
  intro v1 _u H locs hw hP hD hS
  subst hw
  refine lv_if_ne (tgt := 13) hx hb dX11_lost_7 (by decide) (fun c2 => ?_) (fun c2 => ?_)
  · have q3 := mm_neL (lo := 1) (mm_ne c2) mm_k0 mm_k0 (by decide) (by decide)
    exact mm_no q3 (by decide)
  · refine lv_bipush (v := (-2)) hx hb dX11_lost_10 (by decide) ?_
    subst hAe
    rw [hQ]
    exact W.iret (v := (-2)) hx hb hr (fun t ht hW => ⟨⟨(-2), (), rfl, rfl, by rw [ht]; exact hP, hK.warm hW, hD⟩, hS.F ht⟩) hS.2.2 dX11_lost_12

set_option maxHeartbeats 4000000 in
set_option maxRecDepth 100000 in
theorem K179_X12_lost (l : Launch) (G : va_G) (cy : Nat → ClassId) (sz : Nat) (a_0 : Nat) (i_0 : Int32) (i_1 : Int32) (i_2 : Int32) (a_1 : Nat) (a_2 : Nat) (a_3 : Nat) (a_4 : Nat) (a_5 : Nat) (k_0 : Int32) (k_1 : Int32) (k_2 : Int32) (k_3 : Int32) (k_4 : Int32) (k_5 : Int64) (k_6 : Int32) (k_7 : Int32) (k_8 : Int32) (k_9 : Int32) (a_6 : Nat) (a_7 : Nat) (a_8 : Nat) (a_9 : Nat) (a_10 : Nat) (a_11 : Nat) (a_12 : Nat) (a_13 : Nat) (a_14 : Nat) (a_15 : Nat) (a_16 : Nat) (a_17 : Nat) (a_18 : Nat) (k_10 : Int32) (k_11 : Int32) (k_12 : Int32) (k_13 : Int32) (k_14 : Int32) (k_15 : Int32) (a_19 : Nat) (k_16 : Int32) (a_20 : Nat)   : mm_CI l yX12_lost (mm_ws yX12_lost cX12_lost 4 (some .int)) ({ frames := 3, cells := 0, slots := 0, locals := 68 } : Room) G cy sz [(a_0, .inr (12, [.int 0, .ref a_1, .ref a_2, .ref a_3, .ref a_4, .ref a_5, .int k_0, .int k_1, .int k_2, .int k_3, .int k_4, .long k_5, .int k_6, .int k_7, .int k_8, .int k_9, .ref a_6, .ref a_7, .ref a_8, .ref a_9, .ref a_10, .ref a_11, .ref a_12, .ref a_13, .ref a_14, .ref a_15, .ref a_16, .ref a_17, .ref a_18, .int k_10, .int k_11, .int k_12, .int k_13, .int k_14, .int k_15, .ref a_19, .int k_16, .ref a_20])), (a_7, .inl (cy 1, 30, .inl (fun _ => 0)))] [.ref a_0, .int i_0, .int i_1, .int i_2] (fun u : Unit => [(a_0, .inr (12, [.int 0, .ref a_1, .ref a_2, .ref a_3, .ref a_4, .ref a_5, .int k_0, .int k_1, .int k_2, .int k_3, .int k_4, .long k_5, .int k_6, .int k_7, .int k_8, .int k_9, .ref a_6, .ref a_7, .ref a_8, .ref a_9, .ref a_10, .ref a_11, .ref a_12, .ref a_13, .ref a_14, .ref a_15, .ref a_16, .ref a_17, .ref a_18, .int k_10, .int k_11, .int k_12, .int k_13, .int k_14, .int k_15, .ref a_19, .int k_16, .ref a_20])), (a_7, .inl (cy 1, 30, .inl (fun _ => 0)))]) (fun (r : Int32) (u : Unit) => (-2) = r) 0 0 := by
  refine mm_begin (lv := [(0, .ref a_0), (1, .int i_0), (2, .int i_1), (3, .int i_2)]) (by decide) (Nat.le_of_ble_eq_true rfl) rfl ?_
  intro p e s m below meth c A ls R args Q H locs hRe hQ hAe hx hb hr hlocks hml hown hnm hts hsz hA hS hP hK hD hl
  have hRf : R.frames = 3 := by rw [hRe]
  have hRl : R.locals = 68 := by rw [hRe]
  have hRc : R.cells = 0 := by rw [hRe]
  have hRs : R.slots = 0 := by rw [hRe]
  refine lv_aload_n hx hb dX12_lost_0 rfl (lv_at hl 0 rfl) ?_
  refine lv_iconst (v := 0) hx hb dX12_lost_1 (by decide) ?_
  refine va_put (D := G) (ci := 12) (v := .int 0) (ty := tyX12 0) (C := RX12) (T := TX12) (N := 38) hx hb hts (mm_i inlX12) tyX12 tyX12_ok nmX12 hown hK.1 hP hD hS 0 rfl rfl 0 (by decide) (mm_h hts mm_w177) (fun _ h9 => h9) rfl (tyX12_ok 0 (by decide)) rfl rfl (Nat.le_of_ble_eq_true rfl) dX12_lost_2 ?_
  clear hP hD hS
  clear H locs
  intro H locs (hP : va_P G vwCl [(a_0, .inr (12, [.int 0, .ref a_1, .ref a_2, .ref a_3, .ref a_4, .ref a_5, .int k_0, .int k_1, .int k_2, .int k_3, .int k_4, .long k_5, .int k_6, .int k_7, .int k_8, .int k_9, .ref a_6, .ref a_7, .ref a_8, .ref a_9, .ref a_10, .ref a_11, .ref a_12, .ref a_13, .ref a_14, .ref a_15, .ref a_16, .ref a_17, .ref a_18, .int k_10, .int k_11, .int k_12, .int k_13, .int k_14, .int k_15, .ref a_19, .int k_16, .ref a_20])), (a_7, .inl (cy 1, 30, .inl (fun _ => 0)))] H) (hD : va_D A [(a_0, .inr (12, [.int 0, .ref a_1, .ref a_2, .ref a_3, .ref a_4, .ref a_5, .int k_0, .int k_1, .int k_2, .int k_3, .int k_4, .long k_5, .int k_6, .int k_7, .int k_8, .int k_9, .ref a_6, .ref a_7, .ref a_8, .ref a_9, .ref a_10, .ref a_11, .ref a_12, .ref a_13, .ref a_14, .ref a_15, .ref a_16, .ref a_17, .ref a_18, .int k_10, .int k_11, .int k_12, .int k_13, .int k_14, .int k_15, .ref a_19, .int k_16, .ref a_20])), (a_7, .inl (cy 1, 30, .inl (fun _ => 0)))]) hS
  refine lv_aload_n hx hb dX12_lost_5 rfl (lv_at hl 0 rfl) ?_
  refine lv_iload_n hx hb dX12_lost_6 rfl (lv_at hl 1 rfl) ?_
  refine lv_iload_n hx hb dX12_lost_7 rfl (lv_at hl 2 rfl) ?_
  refine mm_finir (va_runV (As := [.int i_0, .int i_1]) (rest := []) ⟨hx, hb, hml, hown, hts⟩ (K131_X12_isThen l G cy H.size a_0 i_0 i_1 0 a_1 a_2 a_3 a_4 a_5 k_0 k_1 k_2 k_3 k_4 k_5 k_6 k_7 k_8 k_9 a_6 a_7 a_8 a_9 a_10 a_11 a_12 a_13 a_14 a_15 a_16 a_17 a_18 k_10 k_11 k_12 k_13 k_14 k_15 a_19 k_16 a_20 ) (cwV 2 hts (mm_gV mm_w678 mm_w679 mm_w680 mm_w5 mm_w681) rfl rfl rfl hd_X12_isThen ⟨by rw [hRf]; exact Nat.le_of_ble_eq_true rfl, by rw [hRl]; exact Nat.le_of_ble_eq_true rfl⟩) (mm_preV hK hP hD [0, 1] rfl rfl 0 rfl rfl rfl) rfl rfl hl.1 rfl (lv_room (Nat.le_of_ble_eq_true rfl)) dX12_lost_8 ⟨by rw [hRc]; exact Nat.le_of_ble_eq_true rfl, by rw [hRs]; exact Nat.le_of_ble_eq_true rfl⟩) hP hD hS hA [0, 1] rfl (fun _ => rfl) ?_
  clear hP hD hS
  clear H locs
  intro v1 _u H locs hw hP hD hS
  subst hw
  refine lv_if_eq (tgt := 23) hx hb dX12_lost_11 (by decide) (fun c2 => ?_) (fun c2 => ?_)
  · refine lv_bipush (v := (-2)) hx hb dX12_lost_23 (by decide) ?_
    subst hAe
    rw [hQ]
    exact W.iret (v := (-2)) hx hb hr (fun t ht hW => ⟨⟨(-2), (), rfl, rfl, by rw [ht]; exact hP, hK.warm hW, hD⟩, hS.F ht⟩) hS.2.2 dX12_lost_25
  · have q3 := mm_neL (lo := 1) (mm_ne c2) mm_k0 mm_k0 (by decide) (by decide)
    exact mm_no q3 (by decide)

set_option maxHeartbeats 4000000 in
set_option maxRecDepth 100000 in
theorem K180_X11_kinds (l : Launch) (G : va_G) (cy : Nat → ClassId) (sz : Nat) (a_0 : Nat) (i_0 : Int32) (i_1 : Int32) (i_2 : Int32) (a_1 : Nat) (a_2 : Nat) (a_3 : Nat) (a_4 : Nat) (a_5 : Nat) (a_6 : Nat) (a_7 : Nat) (a_8 : Nat) (a_9 : Nat) (a_10 : Nat) (a_11 : Nat) (a_24 : Nat) (a_25 : Nat) (k_0 : Int32) (k_1 : Int32) (k_2 : Int32) (k_3 : Int32) (k_4 : Int32) (k_5 : Int32) (k_6 : Int32) (a_26 : Nat) (a_27 : Nat) (a_28 : Nat) (a_29 : Nat) (a_30 : Nat) (a_31 : Nat) (a_32 : Nat) (a_33 : Nat) (a_34 : Nat) (a_35 : Nat)   : mm_CI l yX11_kinds (mm_ws yX11_kinds cX11_kinds 8 (some .int)) ({ frames := 2, cells := 0, slots := 0, locals := 44 } : Room) G cy sz [(a_0, .inr (11, [.ref a_1, .ref a_2, .ref a_3, .ref a_4, .ref a_5, .ref a_6, .ref a_7, .ref a_8, .ref a_9, .ref a_10, .ref a_11])), (a_3, .inr (10, [.ref a_24, .ref a_25])), (a_24, .inr (0, [.int k_0, .int k_1, .int k_2, .int k_3, .int k_4, .int 0, .int k_5, .int k_6, .ref a_26, .ref a_27, .ref a_28, .ref a_29, .ref a_30, .ref a_31, .ref a_32, .ref a_33, .ref a_34, .ref a_35]))] [.ref a_0, .int i_0, .int i_1, .int i_2] (fun u : Unit => [(a_0, .inr (11, [.ref a_1, .ref a_2, .ref a_3, .ref a_4, .ref a_5, .ref a_6, .ref a_7, .ref a_8, .ref a_9, .ref a_10, .ref a_11])), (a_3, .inr (10, [.ref a_24, .ref a_25])), (a_24, .inr (0, [.int k_0, .int k_1, .int k_2, .int k_3, .int k_4, .int 0, .int k_5, .int k_6, .ref a_26, .ref a_27, .ref a_28, .ref a_29, .ref a_30, .ref a_31, .ref a_32, .ref a_33, .ref a_34, .ref a_35]))]) (fun (r : Int32) (u : Unit) => (-2) = r) 0 0 := by
  refine mm_begin (lv := [(0, .ref a_0), (1, .int i_0), (2, .int i_1), (3, .int i_2)]) (by decide) (Nat.le_of_ble_eq_true rfl) rfl ?_
  intro p e s m below meth c A ls R args Q H locs hRe hQ hAe hx hb hr hlocks hml hown hnm hts hsz hA hS hP hK hD hl
  have hRf : R.frames = 2 := by rw [hRe]
  have hRl : R.locals = 44 := by rw [hRe]
  have hRc : R.cells = 0 := by rw [hRe]
  have hRs : R.slots = 0 := by rw [hRe]
  refine lv_aload_n hx hb dX11_kinds_0 rfl (lv_at hl 0 rfl) ?_
  refine lv_iload_n hx hb dX11_kinds_1 rfl (lv_at hl 1 rfl) ?_
  refine lv_iload_n hx hb dX11_kinds_2 rfl (lv_at hl 2 rfl) ?_
  refine lv_iload_n hx hb dX11_kinds_3 rfl (lv_at hl 3 rfl) ?_
  refine mm_finir (va_runV (As := [.int i_0, .int i_1, .int i_2]) (rest := []) ⟨hx, hb, hml, hown, hts⟩ (K150_X11_isReading l G cy H.size a_0 i_0 i_1 i_2 a_1 a_2 a_3 a_4 a_5 a_6 a_7 a_8 a_9 a_10 a_11 a_24 a_25 k_0 k_1 k_2 k_3 k_4 k_5 k_6 a_26 a_27 a_28 a_29 a_30 a_31 a_32 a_33 a_34 a_35 ) (cwV 3 hts (mm_gV mm_w825 mm_w826 mm_w827 mm_w2 mm_w828) rfl rfl rfl hd_X11_isReading ⟨by rw [hRf]; exact Nat.le_of_ble_eq_true rfl, by rw [hRl]; exact Nat.le_of_ble_eq_true rfl⟩) (mm_preV hK hP hD [0, 1, 2] rfl rfl 0 rfl rfl rfl) rfl rfl hl.1 rfl (lv_room (Nat.le_of_ble_eq_true rfl)) dX11_kinds_4 ⟨by rw [hRc]; exact Nat.le_of_ble_eq_true rfl, by rw [hRs]; exact Nat.le_of_ble_eq_true rfl⟩) hP hD hS hA [0, 1, 2] rfl (fun _ => rfl) ?_
  clear hP hD hS
  clear H locs
  intro v1 _u H locs hw hP hD hS
  subst hw
  refine lv_if_ne (tgt := 13) hx hb dX11_kinds_7 (by decide) (fun c2 => ?_) (fun c2 => ?_)
  · have q3 := mm_neL (lo := 1) (mm_ne c2) mm_k0 mm_k0 (by decide) (by decide)
    exact mm_no q3 (by decide)
  · refine lv_bipush (v := (-2)) hx hb dX11_kinds_10 (by decide) ?_
    subst hAe
    rw [hQ]
    exact W.iret (v := (-2)) hx hb hr (fun t ht hW => ⟨⟨(-2), (), rfl, rfl, by rw [ht]; exact hP, hK.warm hW, hD⟩, hS.F ht⟩) hS.2.2 dX11_kinds_12

set_option maxHeartbeats 4000000 in
set_option maxRecDepth 100000 in
theorem K181_X12_kinds (l : Launch) (G : va_G) (cy : Nat → ClassId) (sz : Nat) (a_0 : Nat) (i_0 : Int32) (i_1 : Int32) (i_2 : Int32) (a_1 : Nat) (a_2 : Nat) (a_3 : Nat) (a_4 : Nat) (a_5 : Nat) (k_0 : Int32) (k_1 : Int32) (k_2 : Int32) (k_3 : Int32) (k_4 : Int32) (k_5 : Int64) (k_6 : Int32) (k_7 : Int32) (k_8 : Int32) (k_9 : Int32) (a_6 : Nat) (a_7 : Nat) (a_8 : Nat) (a_9 : Nat) (a_10 : Nat) (a_11 : Nat) (a_12 : Nat) (a_13 : Nat) (a_14 : Nat) (a_15 : Nat) (a_16 : Nat) (a_17 : Nat) (a_18 : Nat) (k_10 : Int32) (k_11 : Int32) (k_12 : Int32) (k_13 : Int32) (k_14 : Int32) (k_15 : Int32) (a_19 : Nat) (k_16 : Int32) (a_20 : Nat)   : mm_CI l yX12_kinds (mm_ws yX12_kinds cX12_kinds 4 (some .int)) ({ frames := 3, cells := 0, slots := 0, locals := 68 } : Room) G cy sz [(a_0, .inr (12, [.int 0, .ref a_1, .ref a_2, .ref a_3, .ref a_4, .ref a_5, .int k_0, .int k_1, .int k_2, .int k_3, .int k_4, .long k_5, .int k_6, .int k_7, .int k_8, .int k_9, .ref a_6, .ref a_7, .ref a_8, .ref a_9, .ref a_10, .ref a_11, .ref a_12, .ref a_13, .ref a_14, .ref a_15, .ref a_16, .ref a_17, .ref a_18, .int k_10, .int k_11, .int k_12, .int k_13, .int k_14, .int k_15, .ref a_19, .int k_16, .ref a_20])), (a_7, .inl (cy 1, 30, .inl (fun _ => 0)))] [.ref a_0, .int i_0, .int i_1, .int i_2] (fun u : Unit => [(a_0, .inr (12, [.int 0, .ref a_1, .ref a_2, .ref a_3, .ref a_4, .ref a_5, .int k_0, .int k_1, .int k_2, .int k_3, .int k_4, .long k_5, .int k_6, .int k_7, .int k_8, .int k_9, .ref a_6, .ref a_7, .ref a_8, .ref a_9, .ref a_10, .ref a_11, .ref a_12, .ref a_13, .ref a_14, .ref a_15, .ref a_16, .ref a_17, .ref a_18, .int k_10, .int k_11, .int k_12, .int k_13, .int k_14, .int k_15, .ref a_19, .int k_16, .ref a_20])), (a_7, .inl (cy 1, 30, .inl (fun _ => 0)))]) (fun (r : Int32) (u : Unit) => (-2) = r) 0 0 := by
  refine mm_begin (lv := [(0, .ref a_0), (1, .int i_0), (2, .int i_1), (3, .int i_2)]) (by decide) (Nat.le_of_ble_eq_true rfl) rfl ?_
  intro p e s m below meth c A ls R args Q H locs hRe hQ hAe hx hb hr hlocks hml hown hnm hts hsz hA hS hP hK hD hl
  have hRf : R.frames = 3 := by rw [hRe]
  have hRl : R.locals = 68 := by rw [hRe]
  have hRc : R.cells = 0 := by rw [hRe]
  have hRs : R.slots = 0 := by rw [hRe]
  refine lv_aload_n hx hb dX12_kinds_0 rfl (lv_at hl 0 rfl) ?_
  refine lv_iconst (v := 0) hx hb dX12_kinds_1 (by decide) ?_
  refine va_put (D := G) (ci := 12) (v := .int 0) (ty := tyX12 0) (C := RX12) (T := TX12) (N := 38) hx hb hts (mm_i inlX12) tyX12 tyX12_ok nmX12 hown hK.1 hP hD hS 0 rfl rfl 0 (by decide) (mm_h hts mm_w177) (fun _ h9 => h9) rfl (tyX12_ok 0 (by decide)) rfl rfl (Nat.le_of_ble_eq_true rfl) dX12_kinds_2 ?_
  clear hP hD hS
  clear H locs
  intro H locs (hP : va_P G vwCl [(a_0, .inr (12, [.int 0, .ref a_1, .ref a_2, .ref a_3, .ref a_4, .ref a_5, .int k_0, .int k_1, .int k_2, .int k_3, .int k_4, .long k_5, .int k_6, .int k_7, .int k_8, .int k_9, .ref a_6, .ref a_7, .ref a_8, .ref a_9, .ref a_10, .ref a_11, .ref a_12, .ref a_13, .ref a_14, .ref a_15, .ref a_16, .ref a_17, .ref a_18, .int k_10, .int k_11, .int k_12, .int k_13, .int k_14, .int k_15, .ref a_19, .int k_16, .ref a_20])), (a_7, .inl (cy 1, 30, .inl (fun _ => 0)))] H) (hD : va_D A [(a_0, .inr (12, [.int 0, .ref a_1, .ref a_2, .ref a_3, .ref a_4, .ref a_5, .int k_0, .int k_1, .int k_2, .int k_3, .int k_4, .long k_5, .int k_6, .int k_7, .int k_8, .int k_9, .ref a_6, .ref a_7, .ref a_8, .ref a_9, .ref a_10, .ref a_11, .ref a_12, .ref a_13, .ref a_14, .ref a_15, .ref a_16, .ref a_17, .ref a_18, .int k_10, .int k_11, .int k_12, .int k_13, .int k_14, .int k_15, .ref a_19, .int k_16, .ref a_20])), (a_7, .inl (cy 1, 30, .inl (fun _ => 0)))]) hS
  refine lv_aload_n hx hb dX12_kinds_5 rfl (lv_at hl 0 rfl) ?_
  refine lv_iload_n hx hb dX12_kinds_6 rfl (lv_at hl 1 rfl) ?_
  refine lv_iload_n hx hb dX12_kinds_7 rfl (lv_at hl 2 rfl) ?_
  refine mm_finir (va_runV (As := [.int i_0, .int i_1]) (rest := []) ⟨hx, hb, hml, hown, hts⟩ (K131_X12_isThen l G cy H.size a_0 i_0 i_1 0 a_1 a_2 a_3 a_4 a_5 k_0 k_1 k_2 k_3 k_4 k_5 k_6 k_7 k_8 k_9 a_6 a_7 a_8 a_9 a_10 a_11 a_12 a_13 a_14 a_15 a_16 a_17 a_18 k_10 k_11 k_12 k_13 k_14 k_15 a_19 k_16 a_20 ) (cwV 2 hts (mm_gV mm_w678 mm_w679 mm_w680 mm_w5 mm_w681) rfl rfl rfl hd_X12_isThen ⟨by rw [hRf]; exact Nat.le_of_ble_eq_true rfl, by rw [hRl]; exact Nat.le_of_ble_eq_true rfl⟩) (mm_preV hK hP hD [0, 1] rfl rfl 0 rfl rfl rfl) rfl rfl hl.1 rfl (lv_room (Nat.le_of_ble_eq_true rfl)) dX12_kinds_8 ⟨by rw [hRc]; exact Nat.le_of_ble_eq_true rfl, by rw [hRs]; exact Nat.le_of_ble_eq_true rfl⟩) hP hD hS hA [0, 1] rfl (fun _ => rfl) ?_
  clear hP hD hS
  clear H locs
  intro v1 _u H locs hw hP hD hS
  subst hw
  refine lv_if_eq (tgt := 23) hx hb dX12_kinds_11 (by decide) (fun c2 => ?_) (fun c2 => ?_)
  · refine lv_bipush (v := (-2)) hx hb dX12_kinds_23 (by decide) ?_
    subst hAe
    rw [hQ]
    exact W.iret (v := (-2)) hx hb hr (fun t ht hW => ⟨⟨(-2), (), rfl, rfl, by rw [ht]; exact hP, hK.warm hW, hD⟩, hS.F ht⟩) hS.2.2 dX12_kinds_25
  · have q3 := mm_neL (lo := 1) (mm_ne c2) mm_k0 mm_k0 (by decide) (by decide)
    exact mm_no q3 (by decide)

set_option maxHeartbeats 4000000 in
set_option maxRecDepth 100000 in
theorem K182_X11_better (l : Launch) (G : va_G) (cy : Nat → ClassId) (sz : Nat) (a_0 : Nat) (i_0 : Int32) (i_1 : Int32) (i_2 : Int32) (a_1 : Nat) (a_2 : Nat) (a_3 : Nat) (a_4 : Nat) (a_5 : Nat) (a_6 : Nat) (a_7 : Nat) (a_8 : Nat) (a_9 : Nat) (a_10 : Nat) (a_11 : Nat) (a_24 : Nat) (a_25 : Nat) (k_0 : Int32) (k_1 : Int32) (k_2 : Int32) (k_3 : Int32) (k_4 : Int32) (k_5 : Int32) (k_6 : Int32) (a_26 : Nat) (a_27 : Nat) (a_28 : Nat) (a_29 : Nat) (a_30 : Nat) (a_31 : Nat) (a_32 : Nat) (a_33 : Nat) (a_34 : Nat) (a_35 : Nat)   : mm_CI l yX11_better (mm_ws yX11_better cX11_better 10 (some .int)) ({ frames := 2, cells := 0, slots := 0, locals := 44 } : Room) G cy sz [(a_0, .inr (11, [.ref a_1, .ref a_2, .ref a_3, .ref a_4, .ref a_5, .ref a_6, .ref a_7, .ref a_8, .ref a_9, .ref a_10, .ref a_11])), (a_3, .inr (10, [.ref a_24, .ref a_25])), (a_24, .inr (0, [.int k_0, .int k_1, .int k_2, .int k_3, .int k_4, .int 0, .int k_5, .int k_6, .ref a_26, .ref a_27, .ref a_28, .ref a_29, .ref a_30, .ref a_31, .ref a_32, .ref a_33, .ref a_34, .ref a_35]))] [.ref a_0, .int i_0, .int i_1, .int i_2] (fun u : Unit => [(a_0, .inr (11, [.ref a_1, .ref a_2, .ref a_3, .ref a_4, .ref a_5, .ref a_6, .ref a_7, .ref a_8, .ref a_9, .ref a_10, .ref a_11])), (a_3, .inr (10, [.ref a_24, .ref a_25])), (a_24, .inr (0, [.int k_0, .int k_1, .int k_2, .int k_3, .int k_4, .int 0, .int k_5, .int k_6, .ref a_26, .ref a_27, .ref a_28, .ref a_29, .ref a_30, .ref a_31, .ref a_32, .ref a_33, .ref a_34, .ref a_35]))]) (fun (r : Int32) (u : Unit) => (-2) = r) 0 0 := by
  refine mm_begin (lv := [(0, .ref a_0), (1, .int i_0), (2, .int i_1), (3, .int i_2)]) (by decide) (Nat.le_of_ble_eq_true rfl) rfl ?_
  intro p e s m below meth c A ls R args Q H locs hRe hQ hAe hx hb hr hlocks hml hown hnm hts hsz hA hS hP hK hD hl
  have hRf : R.frames = 2 := by rw [hRe]
  have hRl : R.locals = 44 := by rw [hRe]
  have hRc : R.cells = 0 := by rw [hRe]
  have hRs : R.slots = 0 := by rw [hRe]
  refine lv_aload_n hx hb dX11_better_0 rfl (lv_at hl 0 rfl) ?_
  refine lv_iload_n hx hb dX11_better_1 rfl (lv_at hl 1 rfl) ?_
  refine lv_iload_n hx hb dX11_better_2 rfl (lv_at hl 2 rfl) ?_
  refine lv_iload_n hx hb dX11_better_3 rfl (lv_at hl 3 rfl) ?_
  refine mm_finir (va_runV (As := [.int i_0, .int i_1, .int i_2]) (rest := []) ⟨hx, hb, hml, hown, hts⟩ (K150_X11_isReading l G cy H.size a_0 i_0 i_1 i_2 a_1 a_2 a_3 a_4 a_5 a_6 a_7 a_8 a_9 a_10 a_11 a_24 a_25 k_0 k_1 k_2 k_3 k_4 k_5 k_6 a_26 a_27 a_28 a_29 a_30 a_31 a_32 a_33 a_34 a_35 ) (cwV 3 hts (mm_gV mm_w825 mm_w826 mm_w827 mm_w2 mm_w828) rfl rfl rfl hd_X11_isReading ⟨by rw [hRf]; exact Nat.le_of_ble_eq_true rfl, by rw [hRl]; exact Nat.le_of_ble_eq_true rfl⟩) (mm_preV hK hP hD [0, 1, 2] rfl rfl 0 rfl rfl rfl) rfl rfl hl.1 rfl (lv_room (Nat.le_of_ble_eq_true rfl)) dX11_better_4 ⟨by rw [hRc]; exact Nat.le_of_ble_eq_true rfl, by rw [hRs]; exact Nat.le_of_ble_eq_true rfl⟩) hP hD hS hA [0, 1, 2] rfl (fun _ => rfl) ?_
  clear hP hD hS
  clear H locs
  intro v1 _u H locs hw hP hD hS
  subst hw
  refine lv_if_ne (tgt := 13) hx hb dX11_better_7 (by decide) (fun c2 => ?_) (fun c2 => ?_)
  · have q3 := mm_neL (lo := 1) (mm_ne c2) mm_k0 mm_k0 (by decide) (by decide)
    exact mm_no q3 (by decide)
  · refine lv_bipush (v := (-2)) hx hb dX11_better_10 (by decide) ?_
    subst hAe
    rw [hQ]
    exact W.iret (v := (-2)) hx hb hr (fun t ht hW => ⟨⟨(-2), (), rfl, rfl, by rw [ht]; exact hP, hK.warm hW, hD⟩, hS.F ht⟩) hS.2.2 dX11_better_12

set_option maxHeartbeats 4000000 in
set_option maxRecDepth 100000 in
theorem K183_X12_better (l : Launch) (G : va_G) (cy : Nat → ClassId) (sz : Nat) (a_0 : Nat) (i_0 : Int32) (i_1 : Int32) (i_2 : Int32) (a_1 : Nat) (a_2 : Nat) (a_3 : Nat) (a_4 : Nat) (a_5 : Nat) (k_0 : Int32) (k_1 : Int32) (k_2 : Int32) (k_3 : Int32) (k_4 : Int32) (k_5 : Int64) (k_6 : Int32) (k_7 : Int32) (k_8 : Int32) (k_9 : Int32) (a_6 : Nat) (a_7 : Nat) (a_8 : Nat) (a_9 : Nat) (a_10 : Nat) (a_11 : Nat) (a_12 : Nat) (a_13 : Nat) (a_14 : Nat) (a_15 : Nat) (a_16 : Nat) (a_17 : Nat) (a_18 : Nat) (k_10 : Int32) (k_11 : Int32) (k_12 : Int32) (k_13 : Int32) (k_14 : Int32) (k_15 : Int32) (a_19 : Nat) (k_16 : Int32) (a_20 : Nat)   : mm_CI l yX12_better (mm_ws yX12_better cX12_better 9 (some .int)) ({ frames := 3, cells := 0, slots := 0, locals := 68 } : Room) G cy sz [(a_0, .inr (12, [.int 0, .ref a_1, .ref a_2, .ref a_3, .ref a_4, .ref a_5, .int k_0, .int k_1, .int k_2, .int k_3, .int k_4, .long k_5, .int k_6, .int k_7, .int k_8, .int k_9, .ref a_6, .ref a_7, .ref a_8, .ref a_9, .ref a_10, .ref a_11, .ref a_12, .ref a_13, .ref a_14, .ref a_15, .ref a_16, .ref a_17, .ref a_18, .int k_10, .int k_11, .int k_12, .int k_13, .int k_14, .int k_15, .ref a_19, .int k_16, .ref a_20])), (a_7, .inl (cy 1, 30, .inl (fun _ => 0)))] [.ref a_0, .int i_0, .int i_1, .int i_2] (fun u : Unit => [(a_0, .inr (12, [.int 0, .ref a_1, .ref a_2, .ref a_3, .ref a_4, .ref a_5, .int k_0, .int k_1, .int k_2, .int k_3, .int k_4, .long k_5, .int k_6, .int k_7, .int k_8, .int k_9, .ref a_6, .ref a_7, .ref a_8, .ref a_9, .ref a_10, .ref a_11, .ref a_12, .ref a_13, .ref a_14, .ref a_15, .ref a_16, .ref a_17, .ref a_18, .int k_10, .int k_11, .int k_12, .int k_13, .int k_14, .int k_15, .ref a_19, .int k_16, .ref a_20])), (a_7, .inl (cy 1, 30, .inl (fun _ => 0)))]) (fun (r : Int32) (u : Unit) => (-2) = r) 0 0 := by
  refine mm_begin (lv := [(0, .ref a_0), (1, .int i_0), (2, .int i_1), (3, .int i_2)]) (by decide) (Nat.le_of_ble_eq_true rfl) rfl ?_
  intro p e s m below meth c A ls R args Q H locs hRe hQ hAe hx hb hr hlocks hml hown hnm hts hsz hA hS hP hK hD hl
  have hRf : R.frames = 3 := by rw [hRe]
  have hRl : R.locals = 68 := by rw [hRe]
  have hRc : R.cells = 0 := by rw [hRe]
  have hRs : R.slots = 0 := by rw [hRe]
  refine lv_aload_n hx hb dX12_better_0 rfl (lv_at hl 0 rfl) ?_
  refine lv_iconst (v := 0) hx hb dX12_better_1 (by decide) ?_
  refine va_put (D := G) (ci := 12) (v := .int 0) (ty := tyX12 0) (C := RX12) (T := TX12) (N := 38) hx hb hts (mm_i inlX12) tyX12 tyX12_ok nmX12 hown hK.1 hP hD hS 0 rfl rfl 0 (by decide) (mm_h hts mm_w177) (fun _ h9 => h9) rfl (tyX12_ok 0 (by decide)) rfl rfl (Nat.le_of_ble_eq_true rfl) dX12_better_2 ?_
  clear hP hD hS
  clear H locs
  intro H locs (hP : va_P G vwCl [(a_0, .inr (12, [.int 0, .ref a_1, .ref a_2, .ref a_3, .ref a_4, .ref a_5, .int k_0, .int k_1, .int k_2, .int k_3, .int k_4, .long k_5, .int k_6, .int k_7, .int k_8, .int k_9, .ref a_6, .ref a_7, .ref a_8, .ref a_9, .ref a_10, .ref a_11, .ref a_12, .ref a_13, .ref a_14, .ref a_15, .ref a_16, .ref a_17, .ref a_18, .int k_10, .int k_11, .int k_12, .int k_13, .int k_14, .int k_15, .ref a_19, .int k_16, .ref a_20])), (a_7, .inl (cy 1, 30, .inl (fun _ => 0)))] H) (hD : va_D A [(a_0, .inr (12, [.int 0, .ref a_1, .ref a_2, .ref a_3, .ref a_4, .ref a_5, .int k_0, .int k_1, .int k_2, .int k_3, .int k_4, .long k_5, .int k_6, .int k_7, .int k_8, .int k_9, .ref a_6, .ref a_7, .ref a_8, .ref a_9, .ref a_10, .ref a_11, .ref a_12, .ref a_13, .ref a_14, .ref a_15, .ref a_16, .ref a_17, .ref a_18, .int k_10, .int k_11, .int k_12, .int k_13, .int k_14, .int k_15, .ref a_19, .int k_16, .ref a_20])), (a_7, .inl (cy 1, 30, .inl (fun _ => 0)))]) hS
  refine lv_aload_n hx hb dX12_better_5 rfl (lv_at hl 0 rfl) ?_
  refine lv_iload_n hx hb dX12_better_6 rfl (lv_at hl 1 rfl) ?_
  refine lv_iload_n hx hb dX12_better_7 rfl (lv_at hl 2 rfl) ?_
  refine mm_finir (va_runV (As := [.int i_0, .int i_1]) (rest := []) ⟨hx, hb, hml, hown, hts⟩ (K131_X12_isThen l G cy H.size a_0 i_0 i_1 0 a_1 a_2 a_3 a_4 a_5 k_0 k_1 k_2 k_3 k_4 k_5 k_6 k_7 k_8 k_9 a_6 a_7 a_8 a_9 a_10 a_11 a_12 a_13 a_14 a_15 a_16 a_17 a_18 k_10 k_11 k_12 k_13 k_14 k_15 a_19 k_16 a_20 ) (cwV 2 hts (mm_gV mm_w678 mm_w679 mm_w680 mm_w5 mm_w681) rfl rfl rfl hd_X12_isThen ⟨by rw [hRf]; exact Nat.le_of_ble_eq_true rfl, by rw [hRl]; exact Nat.le_of_ble_eq_true rfl⟩) (mm_preV hK hP hD [0, 1] rfl rfl 0 rfl rfl rfl) rfl rfl hl.1 rfl (lv_room (Nat.le_of_ble_eq_true rfl)) dX12_better_8 ⟨by rw [hRc]; exact Nat.le_of_ble_eq_true rfl, by rw [hRs]; exact Nat.le_of_ble_eq_true rfl⟩) hP hD hS hA [0, 1] rfl (fun _ => rfl) ?_
  clear hP hD hS
  clear H locs
  intro v1 _u H locs hw hP hD hS
  subst hw
  refine lv_if_eq (tgt := 23) hx hb dX12_better_11 (by decide) (fun c2 => ?_) (fun c2 => ?_)
  · refine lv_bipush (v := (-2)) hx hb dX12_better_23 (by decide) ?_
    subst hAe
    rw [hQ]
    exact W.iret (v := (-2)) hx hb hr (fun t ht hW => ⟨⟨(-2), (), rfl, rfl, by rw [ht]; exact hP, hK.warm hW, hD⟩, hS.F ht⟩) hS.2.2 dX12_better_25
  · have q3 := mm_neL (lo := 1) (mm_ne c2) mm_k0 mm_k0 (by decide) (by decide)
    exact mm_no q3 (by decide)

set_option maxHeartbeats 4000000 in
set_option maxRecDepth 100000 in
theorem K184_X11_richest (l : Launch) (G : va_G) (cy : Nat → ClassId) (sz : Nat) (a_0 : Nat) (i_0 : Int32) (i_1 : Int32) (a_1 : Nat) (a_2 : Nat) (a_3 : Nat) (a_4 : Nat) (a_5 : Nat) (a_6 : Nat) (a_7 : Nat) (a_8 : Nat) (a_9 : Nat) (a_10 : Nat) (a_11 : Nat) (a_24 : Nat) (a_25 : Nat) (k_0 : Int32) (k_1 : Int32) (k_2 : Int32) (k_3 : Int32) (k_4 : Int32) (k_5 : Int32) (k_6 : Int32) (a_26 : Nat) (a_27 : Nat) (a_28 : Nat) (a_29 : Nat) (a_30 : Nat) (a_31 : Nat) (a_32 : Nat) (a_33 : Nat) (a_34 : Nat) (a_35 : Nat)   : mm_CI l yX11_richest (mm_ws yX11_richest cX11_richest 3 (some .int)) ({ frames := 1, cells := 0, slots := 0, locals := 21 } : Room) G cy sz [(a_0, .inr (11, [.ref a_1, .ref a_2, .ref a_3, .ref a_4, .ref a_5, .ref a_6, .ref a_7, .ref a_8, .ref a_9, .ref a_10, .ref a_11])), (a_3, .inr (10, [.ref a_24, .ref a_25])), (a_24, .inr (0, [.int k_0, .int k_1, .int k_2, .int k_3, .int k_4, .int 0, .int k_5, .int k_6, .ref a_26, .ref a_27, .ref a_28, .ref a_29, .ref a_30, .ref a_31, .ref a_32, .ref a_33, .ref a_34, .ref a_35]))] [.ref a_0, .int i_0, .int i_1] (fun u : Unit => [(a_0, .inr (11, [.ref a_1, .ref a_2, .ref a_3, .ref a_4, .ref a_5, .ref a_6, .ref a_7, .ref a_8, .ref a_9, .ref a_10, .ref a_11])), (a_3, .inr (10, [.ref a_24, .ref a_25])), (a_24, .inr (0, [.int k_0, .int k_1, .int k_2, .int k_3, .int k_4, .int 0, .int k_5, .int k_6, .ref a_26, .ref a_27, .ref a_28, .ref a_29, .ref a_30, .ref a_31, .ref a_32, .ref a_33, .ref a_34, .ref a_35]))]) (fun (r : Int32) (u : Unit) => (-2) = r) 0 0 := by
  refine mm_begin (lv := [(0, .ref a_0), (1, .int i_0), (2, .int i_1)]) (by decide) (Nat.le_of_ble_eq_true rfl) rfl ?_
  intro p e s m below meth c A ls R args Q H locs hRe hQ hAe hx hb hr hlocks hml hown hnm hts hsz hA hS hP hK hD hl
  have hRf : R.frames = 1 := by rw [hRe]
  have hRl : R.locals = 21 := by rw [hRe]
  have hRc : R.cells = 0 := by rw [hRe]
  have hRs : R.slots = 0 := by rw [hRe]
  refine lv_aload_n hx hb dX11_richest_0 rfl (lv_at hl 0 rfl) ?_
  refine lv_iload_n hx hb dX11_richest_1 rfl (lv_at hl 1 rfl) ?_
  refine mm_finir (va_runV (As := [.int i_0]) (rest := []) ⟨hx, hb, hml, hown, hts⟩ (K123_X11_isLand l G cy H.size a_0 i_0 a_1 a_2 a_3 a_4 a_5 a_6 a_7 a_8 a_9 a_10 a_11 a_24 a_25 k_0 k_1 k_2 k_3 k_4 k_5 k_6 a_26 a_27 a_28 a_29 a_30 a_31 a_32 a_33 a_34 a_35 ) (cwV 1 hts (mm_gV mm_w626 mm_w627 mm_w628 mm_w2 mm_w629) rfl rfl rfl hd_X11_isLand ⟨by rw [hRf]; exact Nat.le_of_ble_eq_true rfl, by rw [hRl]; exact Nat.le_of_ble_eq_true rfl⟩) (mm_preV hK hP hD [0, 1, 2] rfl rfl 0 rfl rfl rfl) rfl rfl hl.1 rfl (lv_room (Nat.le_of_ble_eq_true rfl)) dX11_richest_2 ⟨by rw [hRc]; exact Nat.le_of_ble_eq_true rfl, by rw [hRs]; exact Nat.le_of_ble_eq_true rfl⟩) hP hD hS hA [0, 1, 2] rfl (fun _ => rfl) ?_
  clear hP hD hS
  clear H locs
  intro v1 _u H locs hw hP hD hS
  subst hw
  refine lv_if_eq (tgt := 15) hx hb dX11_richest_5 (by decide) (fun c2 => ?_) (fun c2 => ?_)
  · refine lv_bipush (v := (-2)) hx hb dX11_richest_15 (by decide) ?_
    subst hAe
    rw [hQ]
    exact W.iret (v := (-2)) hx hb hr (fun t ht hW => ⟨⟨(-2), (), rfl, rfl, by rw [ht]; exact hP, hK.warm hW, hD⟩, hS.F ht⟩) hS.2.2 dX11_richest_17
  · have q3 := mm_neL (lo := 1) (mm_ne c2) mm_k0 mm_k0 (by decide) (by decide)
    exact mm_no q3 (by decide)

set_option maxHeartbeats 4000000 in
set_option maxRecDepth 100000 in
theorem K185_X12_richest (l : Launch) (G : va_G) (cy : Nat → ClassId) (sz : Nat) (a_0 : Nat) (i_0 : Int32) (i_1 : Int32) (a_1 : Nat) (a_2 : Nat) (a_3 : Nat) (a_4 : Nat) (a_5 : Nat) (k_0 : Int32) (k_1 : Int32) (k_2 : Int32) (k_3 : Int32) (k_4 : Int32) (k_5 : Int64) (k_6 : Int32) (k_7 : Int32) (k_8 : Int32) (k_9 : Int32) (a_6 : Nat) (a_7 : Nat) (a_8 : Nat) (a_9 : Nat) (a_10 : Nat) (a_11 : Nat) (a_12 : Nat) (a_13 : Nat) (a_14 : Nat) (a_15 : Nat) (a_16 : Nat) (a_17 : Nat) (a_18 : Nat) (k_10 : Int32) (k_11 : Int32) (k_12 : Int32) (k_13 : Int32) (k_14 : Int32) (k_15 : Int32) (a_19 : Nat) (k_16 : Int32) (a_20 : Nat)   : mm_CI l yX12_richest (mm_ws yX12_richest cX12_richest 3 (some .int)) ({ frames := 3, cells := 0, slots := 0, locals := 68 } : Room) G cy sz [(a_0, .inr (12, [.int 0, .ref a_1, .ref a_2, .ref a_3, .ref a_4, .ref a_5, .int k_0, .int k_1, .int k_2, .int k_3, .int k_4, .long k_5, .int k_6, .int k_7, .int k_8, .int k_9, .ref a_6, .ref a_7, .ref a_8, .ref a_9, .ref a_10, .ref a_11, .ref a_12, .ref a_13, .ref a_14, .ref a_15, .ref a_16, .ref a_17, .ref a_18, .int k_10, .int k_11, .int k_12, .int k_13, .int k_14, .int k_15, .ref a_19, .int k_16, .ref a_20])), (a_7, .inl (cy 1, 30, .inl (fun _ => 0)))] [.ref a_0, .int i_0, .int i_1] (fun u : Unit => [(a_0, .inr (12, [.int 0, .ref a_1, .ref a_2, .ref a_3, .ref a_4, .ref a_5, .int k_0, .int k_1, .int k_2, .int k_3, .int k_4, .long k_5, .int k_6, .int k_7, .int k_8, .int k_9, .ref a_6, .ref a_7, .ref a_8, .ref a_9, .ref a_10, .ref a_11, .ref a_12, .ref a_13, .ref a_14, .ref a_15, .ref a_16, .ref a_17, .ref a_18, .int k_10, .int k_11, .int k_12, .int k_13, .int k_14, .int k_15, .ref a_19, .int k_16, .ref a_20])), (a_7, .inl (cy 1, 30, .inl (fun _ => 0)))]) (fun (r : Int32) (u : Unit) => (-2) = r) 0 0 := by
  refine mm_begin (lv := [(0, .ref a_0), (1, .int i_0), (2, .int i_1)]) (by decide) (Nat.le_of_ble_eq_true rfl) rfl ?_
  intro p e s m below meth c A ls R args Q H locs hRe hQ hAe hx hb hr hlocks hml hown hnm hts hsz hA hS hP hK hD hl
  have hRf : R.frames = 3 := by rw [hRe]
  have hRl : R.locals = 68 := by rw [hRe]
  have hRc : R.cells = 0 := by rw [hRe]
  have hRs : R.slots = 0 := by rw [hRe]
  refine lv_aload_n hx hb dX12_richest_0 rfl (lv_at hl 0 rfl) ?_
  refine lv_iconst (v := 0) hx hb dX12_richest_1 (by decide) ?_
  refine va_put (D := G) (ci := 12) (v := .int 0) (ty := tyX12 0) (C := RX12) (T := TX12) (N := 38) hx hb hts (mm_i inlX12) tyX12 tyX12_ok nmX12 hown hK.1 hP hD hS 0 rfl rfl 0 (by decide) (mm_h hts mm_w177) (fun _ h9 => h9) rfl (tyX12_ok 0 (by decide)) rfl rfl (Nat.le_of_ble_eq_true rfl) dX12_richest_2 ?_
  clear hP hD hS
  clear H locs
  intro H locs (hP : va_P G vwCl [(a_0, .inr (12, [.int 0, .ref a_1, .ref a_2, .ref a_3, .ref a_4, .ref a_5, .int k_0, .int k_1, .int k_2, .int k_3, .int k_4, .long k_5, .int k_6, .int k_7, .int k_8, .int k_9, .ref a_6, .ref a_7, .ref a_8, .ref a_9, .ref a_10, .ref a_11, .ref a_12, .ref a_13, .ref a_14, .ref a_15, .ref a_16, .ref a_17, .ref a_18, .int k_10, .int k_11, .int k_12, .int k_13, .int k_14, .int k_15, .ref a_19, .int k_16, .ref a_20])), (a_7, .inl (cy 1, 30, .inl (fun _ => 0)))] H) (hD : va_D A [(a_0, .inr (12, [.int 0, .ref a_1, .ref a_2, .ref a_3, .ref a_4, .ref a_5, .int k_0, .int k_1, .int k_2, .int k_3, .int k_4, .long k_5, .int k_6, .int k_7, .int k_8, .int k_9, .ref a_6, .ref a_7, .ref a_8, .ref a_9, .ref a_10, .ref a_11, .ref a_12, .ref a_13, .ref a_14, .ref a_15, .ref a_16, .ref a_17, .ref a_18, .int k_10, .int k_11, .int k_12, .int k_13, .int k_14, .int k_15, .ref a_19, .int k_16, .ref a_20])), (a_7, .inl (cy 1, 30, .inl (fun _ => 0)))]) hS
  refine lv_aload_n hx hb dX12_richest_5 rfl (lv_at hl 0 rfl) ?_
  refine lv_iload_n hx hb dX12_richest_6 rfl (lv_at hl 1 rfl) ?_
  refine lv_iload_n hx hb dX12_richest_7 rfl (lv_at hl 2 rfl) ?_
  refine mm_finir (va_runV (As := [.int i_0, .int i_1]) (rest := []) ⟨hx, hb, hml, hown, hts⟩ (K131_X12_isThen l G cy H.size a_0 i_0 i_1 0 a_1 a_2 a_3 a_4 a_5 k_0 k_1 k_2 k_3 k_4 k_5 k_6 k_7 k_8 k_9 a_6 a_7 a_8 a_9 a_10 a_11 a_12 a_13 a_14 a_15 a_16 a_17 a_18 k_10 k_11 k_12 k_13 k_14 k_15 a_19 k_16 a_20 ) (cwV 2 hts (mm_gV mm_w678 mm_w679 mm_w680 mm_w5 mm_w681) rfl rfl rfl hd_X12_isThen ⟨by rw [hRf]; exact Nat.le_of_ble_eq_true rfl, by rw [hRl]; exact Nat.le_of_ble_eq_true rfl⟩) (mm_preV hK hP hD [0, 1] rfl rfl 0 rfl rfl rfl) rfl rfl hl.1 rfl (lv_room (Nat.le_of_ble_eq_true rfl)) dX12_richest_8 ⟨by rw [hRc]; exact Nat.le_of_ble_eq_true rfl, by rw [hRs]; exact Nat.le_of_ble_eq_true rfl⟩) hP hD hS hA [0, 1] rfl (fun _ => rfl) ?_
  clear hP hD hS
  clear H locs
  intro v1 _u H locs hw hP hD hS
  subst hw
  refine lv_if_ne (tgt := 17) hx hb dX12_richest_11 (by decide) (fun c2 => ?_) (fun c2 => ?_)
  · have q3 := mm_neL (lo := 1) (mm_ne c2) mm_k0 mm_k0 (by decide) (by decide)
    exact mm_no q3 (by decide)
  · refine lv_bipush (v := (-2)) hx hb dX12_richest_14 (by decide) ?_
    subst hAe
    rw [hQ]
    exact W.iret (v := (-2)) hx hb hr (fun t ht hW => ⟨⟨(-2), (), rfl, rfl, by rw [ht]; exact hP, hK.warm hW, hD⟩, hS.F ht⟩) hS.2.2 dX12_richest_16

set_option maxHeartbeats 4000000 in
set_option maxRecDepth 100000 in
theorem K186_X11_all (l : Launch) (G : va_G) (cy : Nat → ClassId) (sz : Nat) (a_0 : Nat) (i_0 : Int32) (i_1 : Int32) (a_1 : Nat) (a_2 : Nat) (a_3 : Nat) (a_4 : Nat) (a_5 : Nat) (a_6 : Nat) (a_7 : Nat) (a_8 : Nat) (a_9 : Nat) (a_10 : Nat) (a_11 : Nat) (a_24 : Nat) (a_25 : Nat) (k_0 : Int32) (k_1 : Int32) (k_2 : Int32) (k_3 : Int32) (k_4 : Int32) (k_5 : Int32) (k_6 : Int32) (a_26 : Nat) (a_27 : Nat) (a_28 : Nat) (a_29 : Nat) (a_30 : Nat) (a_31 : Nat) (a_32 : Nat) (a_33 : Nat) (a_34 : Nat) (a_35 : Nat)   : mm_CI l yX11_all (mm_ws yX11_all cX11_all 5 (some .int)) ({ frames := 1, cells := 0, slots := 0, locals := 21 } : Room) G cy sz [(a_0, .inr (11, [.ref a_1, .ref a_2, .ref a_3, .ref a_4, .ref a_5, .ref a_6, .ref a_7, .ref a_8, .ref a_9, .ref a_10, .ref a_11])), (a_3, .inr (10, [.ref a_24, .ref a_25])), (a_24, .inr (0, [.int k_0, .int k_1, .int k_2, .int k_3, .int k_4, .int 0, .int k_5, .int k_6, .ref a_26, .ref a_27, .ref a_28, .ref a_29, .ref a_30, .ref a_31, .ref a_32, .ref a_33, .ref a_34, .ref a_35]))] [.ref a_0, .int i_0, .int i_1] (fun u : Unit => [(a_0, .inr (11, [.ref a_1, .ref a_2, .ref a_3, .ref a_4, .ref a_5, .ref a_6, .ref a_7, .ref a_8, .ref a_9, .ref a_10, .ref a_11])), (a_3, .inr (10, [.ref a_24, .ref a_25])), (a_24, .inr (0, [.int k_0, .int k_1, .int k_2, .int k_3, .int k_4, .int 0, .int k_5, .int k_6, .ref a_26, .ref a_27, .ref a_28, .ref a_29, .ref a_30, .ref a_31, .ref a_32, .ref a_33, .ref a_34, .ref a_35]))]) (fun (r : Int32) (u : Unit) => (-2) = r) 0 0 := by
  refine mm_begin (lv := [(0, .ref a_0), (1, .int i_0), (2, .int i_1)]) (by decide) (Nat.le_of_ble_eq_true rfl) rfl ?_
  intro p e s m below meth c A ls R args Q H locs hRe hQ hAe hx hb hr hlocks hml hown hnm hts hsz hA hS hP hK hD hl
  have hRf : R.frames = 1 := by rw [hRe]
  have hRl : R.locals = 21 := by rw [hRe]
  have hRc : R.cells = 0 := by rw [hRe]
  have hRs : R.slots = 0 := by rw [hRe]
  refine lv_aload_n hx hb dX11_all_0 rfl (lv_at hl 0 rfl) ?_
  refine lv_iload_n hx hb dX11_all_1 rfl (lv_at hl 1 rfl) ?_
  refine mm_finir (va_runV (As := [.int i_0]) (rest := []) ⟨hx, hb, hml, hown, hts⟩ (K123_X11_isLand l G cy H.size a_0 i_0 a_1 a_2 a_3 a_4 a_5 a_6 a_7 a_8 a_9 a_10 a_11 a_24 a_25 k_0 k_1 k_2 k_3 k_4 k_5 k_6 a_26 a_27 a_28 a_29 a_30 a_31 a_32 a_33 a_34 a_35 ) (cwV 1 hts (mm_gV mm_w626 mm_w627 mm_w628 mm_w2 mm_w629) rfl rfl rfl hd_X11_isLand ⟨by rw [hRf]; exact Nat.le_of_ble_eq_true rfl, by rw [hRl]; exact Nat.le_of_ble_eq_true rfl⟩) (mm_preV hK hP hD [0, 1, 2] rfl rfl 0 rfl rfl rfl) rfl rfl hl.1 rfl (lv_room (Nat.le_of_ble_eq_true rfl)) dX11_all_2 ⟨by rw [hRc]; exact Nat.le_of_ble_eq_true rfl, by rw [hRs]; exact Nat.le_of_ble_eq_true rfl⟩) hP hD hS hA [0, 1, 2] rfl (fun _ => rfl) ?_
  clear hP hD hS
  clear H locs
  intro v1 _u H locs hw hP hD hS
  subst hw
  refine lv_if_eq (tgt := 15) hx hb dX11_all_5 (by decide) (fun c2 => ?_) (fun c2 => ?_)
  · refine lv_bipush (v := (-2)) hx hb dX11_all_15 (by decide) ?_
    subst hAe
    rw [hQ]
    exact W.iret (v := (-2)) hx hb hr (fun t ht hW => ⟨⟨(-2), (), rfl, rfl, by rw [ht]; exact hP, hK.warm hW, hD⟩, hS.F ht⟩) hS.2.2 dX11_all_17
  · have q3 := mm_neL (lo := 1) (mm_ne c2) mm_k0 mm_k0 (by decide) (by decide)
    exact mm_no q3 (by decide)

set_option maxHeartbeats 4000000 in
set_option maxRecDepth 100000 in
theorem K187_X12_all (l : Launch) (G : va_G) (cy : Nat → ClassId) (sz : Nat) (a_0 : Nat) (i_0 : Int32) (i_1 : Int32) (a_1 : Nat) (a_2 : Nat) (a_3 : Nat) (a_4 : Nat) (a_5 : Nat) (k_0 : Int32) (k_1 : Int32) (k_2 : Int32) (k_3 : Int32) (k_4 : Int32) (k_5 : Int64) (k_6 : Int32) (k_7 : Int32) (k_8 : Int32) (k_9 : Int32) (a_6 : Nat) (a_7 : Nat) (a_8 : Nat) (a_9 : Nat) (a_10 : Nat) (a_11 : Nat) (a_12 : Nat) (a_13 : Nat) (a_14 : Nat) (a_15 : Nat) (a_16 : Nat) (a_17 : Nat) (a_18 : Nat) (k_10 : Int32) (k_11 : Int32) (k_12 : Int32) (k_13 : Int32) (k_14 : Int32) (k_15 : Int32) (a_19 : Nat) (k_16 : Int32) (a_20 : Nat)   : mm_CI l yX12_all (mm_ws yX12_all cX12_all 5 (some .int)) ({ frames := 3, cells := 0, slots := 0, locals := 68 } : Room) G cy sz [(a_0, .inr (12, [.int 0, .ref a_1, .ref a_2, .ref a_3, .ref a_4, .ref a_5, .int k_0, .int k_1, .int k_2, .int k_3, .int k_4, .long k_5, .int k_6, .int k_7, .int k_8, .int k_9, .ref a_6, .ref a_7, .ref a_8, .ref a_9, .ref a_10, .ref a_11, .ref a_12, .ref a_13, .ref a_14, .ref a_15, .ref a_16, .ref a_17, .ref a_18, .int k_10, .int k_11, .int k_12, .int k_13, .int k_14, .int k_15, .ref a_19, .int k_16, .ref a_20])), (a_7, .inl (cy 1, 30, .inl (fun _ => 0)))] [.ref a_0, .int i_0, .int i_1] (fun u : Unit => [(a_0, .inr (12, [.int 0, .ref a_1, .ref a_2, .ref a_3, .ref a_4, .ref a_5, .int k_0, .int k_1, .int k_2, .int k_3, .int k_4, .long k_5, .int k_6, .int k_7, .int k_8, .int k_9, .ref a_6, .ref a_7, .ref a_8, .ref a_9, .ref a_10, .ref a_11, .ref a_12, .ref a_13, .ref a_14, .ref a_15, .ref a_16, .ref a_17, .ref a_18, .int k_10, .int k_11, .int k_12, .int k_13, .int k_14, .int k_15, .ref a_19, .int k_16, .ref a_20])), (a_7, .inl (cy 1, 30, .inl (fun _ => 0)))]) (fun (r : Int32) (u : Unit) => (-2) = r) 0 0 := by
  refine mm_begin (lv := [(0, .ref a_0), (1, .int i_0), (2, .int i_1)]) (by decide) (Nat.le_of_ble_eq_true rfl) rfl ?_
  intro p e s m below meth c A ls R args Q H locs hRe hQ hAe hx hb hr hlocks hml hown hnm hts hsz hA hS hP hK hD hl
  have hRf : R.frames = 3 := by rw [hRe]
  have hRl : R.locals = 68 := by rw [hRe]
  have hRc : R.cells = 0 := by rw [hRe]
  have hRs : R.slots = 0 := by rw [hRe]
  refine lv_aload_n hx hb dX12_all_0 rfl (lv_at hl 0 rfl) ?_
  refine lv_iconst (v := 0) hx hb dX12_all_1 (by decide) ?_
  refine va_put (D := G) (ci := 12) (v := .int 0) (ty := tyX12 0) (C := RX12) (T := TX12) (N := 38) hx hb hts (mm_i inlX12) tyX12 tyX12_ok nmX12 hown hK.1 hP hD hS 0 rfl rfl 0 (by decide) (mm_h hts mm_w177) (fun _ h9 => h9) rfl (tyX12_ok 0 (by decide)) rfl rfl (Nat.le_of_ble_eq_true rfl) dX12_all_2 ?_
  clear hP hD hS
  clear H locs
  intro H locs (hP : va_P G vwCl [(a_0, .inr (12, [.int 0, .ref a_1, .ref a_2, .ref a_3, .ref a_4, .ref a_5, .int k_0, .int k_1, .int k_2, .int k_3, .int k_4, .long k_5, .int k_6, .int k_7, .int k_8, .int k_9, .ref a_6, .ref a_7, .ref a_8, .ref a_9, .ref a_10, .ref a_11, .ref a_12, .ref a_13, .ref a_14, .ref a_15, .ref a_16, .ref a_17, .ref a_18, .int k_10, .int k_11, .int k_12, .int k_13, .int k_14, .int k_15, .ref a_19, .int k_16, .ref a_20])), (a_7, .inl (cy 1, 30, .inl (fun _ => 0)))] H) (hD : va_D A [(a_0, .inr (12, [.int 0, .ref a_1, .ref a_2, .ref a_3, .ref a_4, .ref a_5, .int k_0, .int k_1, .int k_2, .int k_3, .int k_4, .long k_5, .int k_6, .int k_7, .int k_8, .int k_9, .ref a_6, .ref a_7, .ref a_8, .ref a_9, .ref a_10, .ref a_11, .ref a_12, .ref a_13, .ref a_14, .ref a_15, .ref a_16, .ref a_17, .ref a_18, .int k_10, .int k_11, .int k_12, .int k_13, .int k_14, .int k_15, .ref a_19, .int k_16, .ref a_20])), (a_7, .inl (cy 1, 30, .inl (fun _ => 0)))]) hS
  refine lv_aload_n hx hb dX12_all_5 rfl (lv_at hl 0 rfl) ?_
  refine lv_iload_n hx hb dX12_all_6 rfl (lv_at hl 1 rfl) ?_
  refine lv_iload_n hx hb dX12_all_7 rfl (lv_at hl 2 rfl) ?_
  refine mm_finir (va_runV (As := [.int i_0, .int i_1]) (rest := []) ⟨hx, hb, hml, hown, hts⟩ (K131_X12_isThen l G cy H.size a_0 i_0 i_1 0 a_1 a_2 a_3 a_4 a_5 k_0 k_1 k_2 k_3 k_4 k_5 k_6 k_7 k_8 k_9 a_6 a_7 a_8 a_9 a_10 a_11 a_12 a_13 a_14 a_15 a_16 a_17 a_18 k_10 k_11 k_12 k_13 k_14 k_15 a_19 k_16 a_20 ) (cwV 2 hts (mm_gV mm_w678 mm_w679 mm_w680 mm_w5 mm_w681) rfl rfl rfl hd_X12_isThen ⟨by rw [hRf]; exact Nat.le_of_ble_eq_true rfl, by rw [hRl]; exact Nat.le_of_ble_eq_true rfl⟩) (mm_preV hK hP hD [0, 1] rfl rfl 0 rfl rfl rfl) rfl rfl hl.1 rfl (lv_room (Nat.le_of_ble_eq_true rfl)) dX12_all_8 ⟨by rw [hRc]; exact Nat.le_of_ble_eq_true rfl, by rw [hRs]; exact Nat.le_of_ble_eq_true rfl⟩) hP hD hS hA [0, 1] rfl (fun _ => rfl) ?_
  clear hP hD hS
  clear H locs
  intro v1 _u H locs hw hP hD hS
  subst hw
  refine lv_if_ne (tgt := 17) hx hb dX12_all_11 (by decide) (fun c2 => ?_) (fun c2 => ?_)
  · have q3 := mm_neL (lo := 1) (mm_ne c2) mm_k0 mm_k0 (by decide) (by decide)
    exact mm_no q3 (by decide)
  · refine lv_bipush (v := (-2)) hx hb dX12_all_14 (by decide) ?_
    subst hAe
    rw [hQ]
    exact W.iret (v := (-2)) hx hb hr (fun t ht hW => ⟨⟨(-2), (), rfl, rfl, by rw [ht]; exact hP, hK.warm hW, hD⟩, hS.F ht⟩) hS.2.2 dX12_all_16

set_option maxHeartbeats 4000000 in
set_option maxRecDepth 100000 in
theorem K188_X11_turned (l : Launch) (G : va_G) (cy : Nat → ClassId) (sz : Nat) (a_0 : Nat) (i_0 : Int32) (i_1 : Int32) (i_2 : Int32) (a_1 : Nat) (a_2 : Nat) (a_3 : Nat) (a_4 : Nat) (a_5 : Nat) (a_6 : Nat) (a_7 : Nat) (a_8 : Nat) (a_9 : Nat) (a_10 : Nat) (a_11 : Nat) (a_24 : Nat) (a_25 : Nat) (k_0 : Int32) (k_1 : Int32) (k_2 : Int32) (k_3 : Int32) (k_4 : Int32) (k_5 : Int32) (k_6 : Int32) (a_26 : Nat) (a_27 : Nat) (a_28 : Nat) (a_29 : Nat) (a_30 : Nat) (a_31 : Nat) (a_32 : Nat) (a_33 : Nat) (a_34 : Nat) (a_35 : Nat)   : mm_CI l yX11_turned (mm_ws yX11_turned cX11_turned 4 (some .int)) ({ frames := 1, cells := 0, slots := 0, locals := 21 } : Room) G cy sz [(a_0, .inr (11, [.ref a_1, .ref a_2, .ref a_3, .ref a_4, .ref a_5, .ref a_6, .ref a_7, .ref a_8, .ref a_9, .ref a_10, .ref a_11])), (a_3, .inr (10, [.ref a_24, .ref a_25])), (a_24, .inr (0, [.int k_0, .int k_1, .int k_2, .int k_3, .int k_4, .int 0, .int k_5, .int k_6, .ref a_26, .ref a_27, .ref a_28, .ref a_29, .ref a_30, .ref a_31, .ref a_32, .ref a_33, .ref a_34, .ref a_35]))] [.ref a_0, .int i_0, .int i_1, .int i_2] (fun u : Unit => [(a_0, .inr (11, [.ref a_1, .ref a_2, .ref a_3, .ref a_4, .ref a_5, .ref a_6, .ref a_7, .ref a_8, .ref a_9, .ref a_10, .ref a_11])), (a_3, .inr (10, [.ref a_24, .ref a_25])), (a_24, .inr (0, [.int k_0, .int k_1, .int k_2, .int k_3, .int k_4, .int 0, .int k_5, .int k_6, .ref a_26, .ref a_27, .ref a_28, .ref a_29, .ref a_30, .ref a_31, .ref a_32, .ref a_33, .ref a_34, .ref a_35]))]) (fun (r : Int32) (u : Unit) => (-2) = r) 0 0 := by
  refine mm_begin (lv := [(0, .ref a_0), (1, .int i_0), (2, .int i_1), (3, .int i_2)]) (by decide) (Nat.le_of_ble_eq_true rfl) rfl ?_
  intro p e s m below meth c A ls R args Q H locs hRe hQ hAe hx hb hr hlocks hml hown hnm hts hsz hA hS hP hK hD hl
  have hRf : R.frames = 1 := by rw [hRe]
  have hRl : R.locals = 21 := by rw [hRe]
  have hRc : R.cells = 0 := by rw [hRe]
  have hRs : R.slots = 0 := by rw [hRe]
  refine lv_aload_n hx hb dX11_turned_0 rfl (lv_at hl 0 rfl) ?_
  refine lv_iload_n hx hb dX11_turned_1 rfl (lv_at hl 1 rfl) ?_
  refine mm_finir (va_runV (As := [.int i_0]) (rest := []) ⟨hx, hb, hml, hown, hts⟩ (K123_X11_isLand l G cy H.size a_0 i_0 a_1 a_2 a_3 a_4 a_5 a_6 a_7 a_8 a_9 a_10 a_11 a_24 a_25 k_0 k_1 k_2 k_3 k_4 k_5 k_6 a_26 a_27 a_28 a_29 a_30 a_31 a_32 a_33 a_34 a_35 ) (cwV 1 hts (mm_gV mm_w626 mm_w627 mm_w628 mm_w2 mm_w629) rfl rfl rfl hd_X11_isLand ⟨by rw [hRf]; exact Nat.le_of_ble_eq_true rfl, by rw [hRl]; exact Nat.le_of_ble_eq_true rfl⟩) (mm_preV hK hP hD [0, 1, 2] rfl rfl 0 rfl rfl rfl) rfl rfl hl.1 rfl (lv_room (Nat.le_of_ble_eq_true rfl)) dX11_turned_2 ⟨by rw [hRc]; exact Nat.le_of_ble_eq_true rfl, by rw [hRs]; exact Nat.le_of_ble_eq_true rfl⟩) hP hD hS hA [0, 1, 2] rfl (fun _ => rfl) ?_
  clear hP hD hS
  clear H locs
  intro v1 _u H locs hw hP hD hS
  subst hw
  refine lv_if_eq (tgt := 27) hx hb dX11_turned_5 (by decide) (fun c2 => ?_) (fun c2 => ?_)
  · refine lv_bipush (v := (-2)) hx hb dX11_turned_27 (by decide) ?_
    subst hAe
    rw [hQ]
    exact W.iret (v := (-2)) hx hb hr (fun t ht hW => ⟨⟨(-2), (), rfl, rfl, by rw [ht]; exact hP, hK.warm hW, hD⟩, hS.F ht⟩) hS.2.2 dX11_turned_29
  · have q3 := mm_neL (lo := 1) (mm_ne c2) mm_k0 mm_k0 (by decide) (by decide)
    exact mm_no q3 (by decide)

set_option maxHeartbeats 4000000 in
set_option maxRecDepth 100000 in
theorem K189_X12_turned (l : Launch) (G : va_G) (cy : Nat → ClassId) (sz : Nat) (a_0 : Nat) (i_0 : Int32) (i_1 : Int32) (i_2 : Int32) (a_1 : Nat) (a_2 : Nat) (a_3 : Nat) (a_4 : Nat) (a_5 : Nat) (k_0 : Int32) (k_1 : Int32) (k_2 : Int32) (k_3 : Int32) (k_4 : Int32) (k_5 : Int64) (k_6 : Int32) (k_7 : Int32) (k_8 : Int32) (k_9 : Int32) (a_6 : Nat) (a_7 : Nat) (a_8 : Nat) (a_9 : Nat) (a_10 : Nat) (a_11 : Nat) (a_12 : Nat) (a_13 : Nat) (a_14 : Nat) (a_15 : Nat) (a_16 : Nat) (a_17 : Nat) (a_18 : Nat) (k_10 : Int32) (k_11 : Int32) (k_12 : Int32) (k_13 : Int32) (k_14 : Int32) (k_15 : Int32) (a_19 : Nat) (k_16 : Int32) (a_20 : Nat)   : mm_CI l yX12_turned (mm_ws yX12_turned cX12_turned 6 (some .int)) ({ frames := 2, cells := 0, slots := 0, locals := 46 } : Room) G cy sz [(a_0, .inr (12, [.int 0, .ref a_1, .ref a_2, .ref a_3, .ref a_4, .ref a_5, .int k_0, .int k_1, .int k_2, .int k_3, .int k_4, .long k_5, .int k_6, .int k_7, .int k_8, .int k_9, .ref a_6, .ref a_7, .ref a_8, .ref a_9, .ref a_10, .ref a_11, .ref a_12, .ref a_13, .ref a_14, .ref a_15, .ref a_16, .ref a_17, .ref a_18, .int k_10, .int k_11, .int k_12, .int k_13, .int k_14, .int k_15, .ref a_19, .int k_16, .ref a_20])), (a_7, .inl (cy 1, 30, .inl (fun _ => 0)))] [.ref a_0, .int i_0, .int i_1, .int i_2] (fun u : Unit => [(a_0, .inr (12, [.int 0, .ref a_1, .ref a_2, .ref a_3, .ref a_4, .ref a_5, .int k_0, .int k_1, .int k_2, .int k_3, .int k_4, .long k_5, .int k_6, .int k_7, .int k_8, .int k_9, .ref a_6, .ref a_7, .ref a_8, .ref a_9, .ref a_10, .ref a_11, .ref a_12, .ref a_13, .ref a_14, .ref a_15, .ref a_16, .ref a_17, .ref a_18, .int k_10, .int k_11, .int k_12, .int k_13, .int k_14, .int k_15, .ref a_19, .int k_16, .ref a_20])), (a_7, .inl (cy 1, 30, .inl (fun _ => 0)))]) (fun (r : Int32) (u : Unit) => (-2) = r) 0 0 := by
  refine mm_begin (lv := [(0, .ref a_0), (1, .int i_0), (2, .int i_1), (3, .int i_2)]) (by decide) (Nat.le_of_ble_eq_true rfl) rfl ?_
  intro p e s m below meth c A ls R args Q H locs hRe hQ hAe hx hb hr hlocks hml hown hnm hts hsz hA hS hP hK hD hl
  have hRf : R.frames = 2 := by rw [hRe]
  have hRl : R.locals = 46 := by rw [hRe]
  have hRc : R.cells = 0 := by rw [hRe]
  have hRs : R.slots = 0 := by rw [hRe]
  refine lv_aload_n hx hb dX12_turned_0 rfl (lv_at hl 0 rfl) ?_
  refine lv_iconst (v := 0) hx hb dX12_turned_1 (by decide) ?_
  refine va_put (D := G) (ci := 12) (v := .int 0) (ty := tyX12 0) (C := RX12) (T := TX12) (N := 38) hx hb hts (mm_i inlX12) tyX12 tyX12_ok nmX12 hown hK.1 hP hD hS 0 rfl rfl 0 (by decide) (mm_h hts mm_w177) (fun _ h9 => h9) rfl (tyX12_ok 0 (by decide)) rfl rfl (Nat.le_of_ble_eq_true rfl) dX12_turned_2 ?_
  clear hP hD hS
  clear H locs
  intro H locs (hP : va_P G vwCl [(a_0, .inr (12, [.int 0, .ref a_1, .ref a_2, .ref a_3, .ref a_4, .ref a_5, .int k_0, .int k_1, .int k_2, .int k_3, .int k_4, .long k_5, .int k_6, .int k_7, .int k_8, .int k_9, .ref a_6, .ref a_7, .ref a_8, .ref a_9, .ref a_10, .ref a_11, .ref a_12, .ref a_13, .ref a_14, .ref a_15, .ref a_16, .ref a_17, .ref a_18, .int k_10, .int k_11, .int k_12, .int k_13, .int k_14, .int k_15, .ref a_19, .int k_16, .ref a_20])), (a_7, .inl (cy 1, 30, .inl (fun _ => 0)))] H) (hD : va_D A [(a_0, .inr (12, [.int 0, .ref a_1, .ref a_2, .ref a_3, .ref a_4, .ref a_5, .int k_0, .int k_1, .int k_2, .int k_3, .int k_4, .long k_5, .int k_6, .int k_7, .int k_8, .int k_9, .ref a_6, .ref a_7, .ref a_8, .ref a_9, .ref a_10, .ref a_11, .ref a_12, .ref a_13, .ref a_14, .ref a_15, .ref a_16, .ref a_17, .ref a_18, .int k_10, .int k_11, .int k_12, .int k_13, .int k_14, .int k_15, .ref a_19, .int k_16, .ref a_20])), (a_7, .inl (cy 1, 30, .inl (fun _ => 0)))]) hS
  refine lv_aload_n hx hb dX12_turned_5 rfl (lv_at hl 0 rfl) ?_
  refine lv_iload_n hx hb dX12_turned_6 rfl (lv_at hl 1 rfl) ?_
  refine mm_finir (va_runV (As := [.int i_0]) (rest := []) ⟨hx, hb, hml, hown, hts⟩ (K126_X12_isLand l G cy H.size a_0 i_0 0 a_1 a_2 a_3 a_4 a_5 k_0 k_1 k_2 k_3 k_4 k_5 k_6 k_7 k_8 k_9 a_6 a_7 a_8 a_9 a_10 a_11 a_12 a_13 a_14 a_15 a_16 a_17 a_18 k_10 k_11 k_12 k_13 k_14 k_15 a_19 k_16 a_20 ) (cwV 1 hts (mm_gV mm_w641 mm_w642 mm_w643 mm_w5 mm_w644) rfl rfl rfl hd_X12_isLand ⟨by rw [hRf]; exact Nat.le_of_ble_eq_true rfl, by rw [hRl]; exact Nat.le_of_ble_eq_true rfl⟩) (mm_preV hK hP hD [0, 1] rfl rfl 0 rfl rfl rfl) rfl rfl hl.1 rfl (lv_room (Nat.le_of_ble_eq_true rfl)) dX12_turned_7 ⟨by rw [hRc]; exact Nat.le_of_ble_eq_true rfl, by rw [hRs]; exact Nat.le_of_ble_eq_true rfl⟩) hP hD hS hA [0, 1] rfl (fun _ => rfl) ?_
  clear hP hD hS
  clear H locs
  intro v1 _u H locs hw hP hD hS
  subst hw
  refine lv_if_eq (tgt := 28) hx hb dX12_turned_10 (by decide) (fun c2 => ?_) (fun c2 => ?_)
  · refine lv_bipush (v := (-2)) hx hb dX12_turned_28 (by decide) ?_
    subst hAe
    rw [hQ]
    exact W.iret (v := (-2)) hx hb hr (fun t ht hW => ⟨⟨(-2), (), rfl, rfl, by rw [ht]; exact hP, hK.warm hW, hD⟩, hS.F ht⟩) hS.2.2 dX12_turned_30
  · have q3 := mm_neL (lo := 1) (mm_ne c2) mm_k0 mm_k0 (by decide) (by decide)
    exact mm_no q3 (by decide)

set_option maxHeartbeats 4000000 in
set_option maxRecDepth 100000 in
theorem K190_X11_cycle (l : Launch) (G : va_G) (cy : Nat → ClassId) (sz : Nat) (a_0 : Nat) (i_0 : Int32) (i_1 : Int32) (a_1 : Nat) (a_2 : Nat) (a_3 : Nat) (a_4 : Nat) (a_5 : Nat) (a_6 : Nat) (a_7 : Nat) (a_8 : Nat) (a_9 : Nat) (a_10 : Nat) (a_11 : Nat) (a_24 : Nat) (a_25 : Nat) (k_0 : Int32) (k_1 : Int32) (k_2 : Int32) (k_3 : Int32) (k_4 : Int32) (k_5 : Int32) (k_6 : Int32) (a_26 : Nat) (a_27 : Nat) (a_28 : Nat) (a_29 : Nat) (a_30 : Nat) (a_31 : Nat) (a_32 : Nat) (a_33 : Nat) (a_34 : Nat) (a_35 : Nat)   : mm_CI l yX11_cycle (mm_ws yX11_cycle cX11_cycle 3 (some .int)) ({ frames := 1, cells := 0, slots := 0, locals := 21 } : Room) G cy sz [(a_0, .inr (11, [.ref a_1, .ref a_2, .ref a_3, .ref a_4, .ref a_5, .ref a_6, .ref a_7, .ref a_8, .ref a_9, .ref a_10, .ref a_11])), (a_3, .inr (10, [.ref a_24, .ref a_25])), (a_24, .inr (0, [.int k_0, .int k_1, .int k_2, .int k_3, .int k_4, .int 0, .int k_5, .int k_6, .ref a_26, .ref a_27, .ref a_28, .ref a_29, .ref a_30, .ref a_31, .ref a_32, .ref a_33, .ref a_34, .ref a_35]))] [.ref a_0, .int i_0, .int i_1] (fun u : Unit => [(a_0, .inr (11, [.ref a_1, .ref a_2, .ref a_3, .ref a_4, .ref a_5, .ref a_6, .ref a_7, .ref a_8, .ref a_9, .ref a_10, .ref a_11])), (a_3, .inr (10, [.ref a_24, .ref a_25])), (a_24, .inr (0, [.int k_0, .int k_1, .int k_2, .int k_3, .int k_4, .int 0, .int k_5, .int k_6, .ref a_26, .ref a_27, .ref a_28, .ref a_29, .ref a_30, .ref a_31, .ref a_32, .ref a_33, .ref a_34, .ref a_35]))]) (fun (r : Int32) (u : Unit) => (-2) = r) 0 0 := by
  refine mm_begin (lv := [(0, .ref a_0), (1, .int i_0), (2, .int i_1)]) (by decide) (Nat.le_of_ble_eq_true rfl) rfl ?_
  intro p e s m below meth c A ls R args Q H locs hRe hQ hAe hx hb hr hlocks hml hown hnm hts hsz hA hS hP hK hD hl
  have hRf : R.frames = 1 := by rw [hRe]
  have hRl : R.locals = 21 := by rw [hRe]
  have hRc : R.cells = 0 := by rw [hRe]
  have hRs : R.slots = 0 := by rw [hRe]
  refine lv_aload_n hx hb dX11_cycle_0 rfl (lv_at hl 0 rfl) ?_
  refine lv_iload_n hx hb dX11_cycle_1 rfl (lv_at hl 1 rfl) ?_
  refine mm_finir (va_runV (As := [.int i_0]) (rest := []) ⟨hx, hb, hml, hown, hts⟩ (K123_X11_isLand l G cy H.size a_0 i_0 a_1 a_2 a_3 a_4 a_5 a_6 a_7 a_8 a_9 a_10 a_11 a_24 a_25 k_0 k_1 k_2 k_3 k_4 k_5 k_6 a_26 a_27 a_28 a_29 a_30 a_31 a_32 a_33 a_34 a_35 ) (cwV 1 hts (mm_gV mm_w626 mm_w627 mm_w628 mm_w2 mm_w629) rfl rfl rfl hd_X11_isLand ⟨by rw [hRf]; exact Nat.le_of_ble_eq_true rfl, by rw [hRl]; exact Nat.le_of_ble_eq_true rfl⟩) (mm_preV hK hP hD [0, 1, 2] rfl rfl 0 rfl rfl rfl) rfl rfl hl.1 rfl (lv_room (Nat.le_of_ble_eq_true rfl)) dX11_cycle_2 ⟨by rw [hRc]; exact Nat.le_of_ble_eq_true rfl, by rw [hRs]; exact Nat.le_of_ble_eq_true rfl⟩) hP hD hS hA [0, 1, 2] rfl (fun _ => rfl) ?_
  clear hP hD hS
  clear H locs
  intro v1 _u H locs hw hP hD hS
  subst hw
  refine lv_if_eq (tgt := 16) hx hb dX11_cycle_5 (by decide) (fun c2 => ?_) (fun c2 => ?_)
  · refine lv_bipush (v := (-2)) hx hb dX11_cycle_16 (by decide) ?_
    subst hAe
    rw [hQ]
    exact W.iret (v := (-2)) hx hb hr (fun t ht hW => ⟨⟨(-2), (), rfl, rfl, by rw [ht]; exact hP, hK.warm hW, hD⟩, hS.F ht⟩) hS.2.2 dX11_cycle_18
  · have q3 := mm_neL (lo := 1) (mm_ne c2) mm_k0 mm_k0 (by decide) (by decide)
    exact mm_no q3 (by decide)

set_option maxHeartbeats 4000000 in
set_option maxRecDepth 100000 in
theorem K191_X12_cycle (l : Launch) (G : va_G) (cy : Nat → ClassId) (sz : Nat) (a_0 : Nat) (i_0 : Int32) (i_1 : Int32) (a_1 : Nat) (a_2 : Nat) (a_3 : Nat) (a_4 : Nat) (a_5 : Nat) (k_0 : Int32) (k_1 : Int32) (k_2 : Int32) (k_3 : Int32) (k_4 : Int32) (k_5 : Int64) (k_6 : Int32) (k_7 : Int32) (k_8 : Int32) (k_9 : Int32) (a_6 : Nat) (a_7 : Nat) (a_8 : Nat) (a_9 : Nat) (a_10 : Nat) (a_11 : Nat) (a_12 : Nat) (a_13 : Nat) (a_14 : Nat) (a_15 : Nat) (a_16 : Nat) (a_17 : Nat) (a_18 : Nat) (k_10 : Int32) (k_11 : Int32) (k_12 : Int32) (k_13 : Int32) (k_14 : Int32) (k_15 : Int32) (a_19 : Nat) (k_16 : Int32) (a_20 : Nat)   : mm_CI l yX12_cycle (mm_ws yX12_cycle cX12_cycle 3 (some .int)) ({ frames := 2, cells := 0, slots := 0, locals := 46 } : Room) G cy sz [(a_0, .inr (12, [.int 0, .ref a_1, .ref a_2, .ref a_3, .ref a_4, .ref a_5, .int k_0, .int k_1, .int k_2, .int k_3, .int k_4, .long k_5, .int k_6, .int k_7, .int k_8, .int k_9, .ref a_6, .ref a_7, .ref a_8, .ref a_9, .ref a_10, .ref a_11, .ref a_12, .ref a_13, .ref a_14, .ref a_15, .ref a_16, .ref a_17, .ref a_18, .int k_10, .int k_11, .int k_12, .int k_13, .int k_14, .int k_15, .ref a_19, .int k_16, .ref a_20])), (a_7, .inl (cy 1, 30, .inl (fun _ => 0)))] [.ref a_0, .int i_0, .int i_1] (fun u : Unit => [(a_0, .inr (12, [.int 0, .ref a_1, .ref a_2, .ref a_3, .ref a_4, .ref a_5, .int k_0, .int k_1, .int k_2, .int k_3, .int k_4, .long k_5, .int k_6, .int k_7, .int k_8, .int k_9, .ref a_6, .ref a_7, .ref a_8, .ref a_9, .ref a_10, .ref a_11, .ref a_12, .ref a_13, .ref a_14, .ref a_15, .ref a_16, .ref a_17, .ref a_18, .int k_10, .int k_11, .int k_12, .int k_13, .int k_14, .int k_15, .ref a_19, .int k_16, .ref a_20])), (a_7, .inl (cy 1, 30, .inl (fun _ => 0)))]) (fun (r : Int32) (u : Unit) => (-2) = r) 0 0 := by
  refine mm_begin (lv := [(0, .ref a_0), (1, .int i_0), (2, .int i_1)]) (by decide) (Nat.le_of_ble_eq_true rfl) rfl ?_
  intro p e s m below meth c A ls R args Q H locs hRe hQ hAe hx hb hr hlocks hml hown hnm hts hsz hA hS hP hK hD hl
  have hRf : R.frames = 2 := by rw [hRe]
  have hRl : R.locals = 46 := by rw [hRe]
  have hRc : R.cells = 0 := by rw [hRe]
  have hRs : R.slots = 0 := by rw [hRe]
  refine lv_aload_n hx hb dX12_cycle_0 rfl (lv_at hl 0 rfl) ?_
  refine lv_iconst (v := 0) hx hb dX12_cycle_1 (by decide) ?_
  refine va_put (D := G) (ci := 12) (v := .int 0) (ty := tyX12 0) (C := RX12) (T := TX12) (N := 38) hx hb hts (mm_i inlX12) tyX12 tyX12_ok nmX12 hown hK.1 hP hD hS 0 rfl rfl 0 (by decide) (mm_h hts mm_w177) (fun _ h9 => h9) rfl (tyX12_ok 0 (by decide)) rfl rfl (Nat.le_of_ble_eq_true rfl) dX12_cycle_2 ?_
  clear hP hD hS
  clear H locs
  intro H locs (hP : va_P G vwCl [(a_0, .inr (12, [.int 0, .ref a_1, .ref a_2, .ref a_3, .ref a_4, .ref a_5, .int k_0, .int k_1, .int k_2, .int k_3, .int k_4, .long k_5, .int k_6, .int k_7, .int k_8, .int k_9, .ref a_6, .ref a_7, .ref a_8, .ref a_9, .ref a_10, .ref a_11, .ref a_12, .ref a_13, .ref a_14, .ref a_15, .ref a_16, .ref a_17, .ref a_18, .int k_10, .int k_11, .int k_12, .int k_13, .int k_14, .int k_15, .ref a_19, .int k_16, .ref a_20])), (a_7, .inl (cy 1, 30, .inl (fun _ => 0)))] H) (hD : va_D A [(a_0, .inr (12, [.int 0, .ref a_1, .ref a_2, .ref a_3, .ref a_4, .ref a_5, .int k_0, .int k_1, .int k_2, .int k_3, .int k_4, .long k_5, .int k_6, .int k_7, .int k_8, .int k_9, .ref a_6, .ref a_7, .ref a_8, .ref a_9, .ref a_10, .ref a_11, .ref a_12, .ref a_13, .ref a_14, .ref a_15, .ref a_16, .ref a_17, .ref a_18, .int k_10, .int k_11, .int k_12, .int k_13, .int k_14, .int k_15, .ref a_19, .int k_16, .ref a_20])), (a_7, .inl (cy 1, 30, .inl (fun _ => 0)))]) hS
  refine lv_aload_n hx hb dX12_cycle_5 rfl (lv_at hl 0 rfl) ?_
  refine lv_iload_n hx hb dX12_cycle_6 rfl (lv_at hl 1 rfl) ?_
  refine mm_finir (va_runV (As := [.int i_0]) (rest := []) ⟨hx, hb, hml, hown, hts⟩ (K126_X12_isLand l G cy H.size a_0 i_0 0 a_1 a_2 a_3 a_4 a_5 k_0 k_1 k_2 k_3 k_4 k_5 k_6 k_7 k_8 k_9 a_6 a_7 a_8 a_9 a_10 a_11 a_12 a_13 a_14 a_15 a_16 a_17 a_18 k_10 k_11 k_12 k_13 k_14 k_15 a_19 k_16 a_20 ) (cwV 1 hts (mm_gV mm_w641 mm_w642 mm_w643 mm_w5 mm_w644) rfl rfl rfl hd_X12_isLand ⟨by rw [hRf]; exact Nat.le_of_ble_eq_true rfl, by rw [hRl]; exact Nat.le_of_ble_eq_true rfl⟩) (mm_preV hK hP hD [0, 1] rfl rfl 0 rfl rfl rfl) rfl rfl hl.1 rfl (lv_room (Nat.le_of_ble_eq_true rfl)) dX12_cycle_7 ⟨by rw [hRc]; exact Nat.le_of_ble_eq_true rfl, by rw [hRs]; exact Nat.le_of_ble_eq_true rfl⟩) hP hD hS hA [0, 1] rfl (fun _ => rfl) ?_
  clear hP hD hS
  clear H locs
  intro v1 _u H locs hw hP hD hS
  subst hw
  refine lv_if_eq (tgt := 30) hx hb dX12_cycle_10 (by decide) (fun c2 => ?_) (fun c2 => ?_)
  · refine lv_bipush (v := (-2)) hx hb dX12_cycle_30 (by decide) ?_
    subst hAe
    rw [hQ]
    exact W.iret (v := (-2)) hx hb hr (fun t ht hW => ⟨⟨(-2), (), rfl, rfl, by rw [ht]; exact hP, hK.warm hW, hD⟩, hS.F ht⟩) hS.2.2 dX12_cycle_32
  · have q3 := mm_neL (lo := 1) (mm_ne c2) mm_k0 mm_k0 (by decide) (by decide)
    exact mm_no q3 (by decide)

set_option maxHeartbeats 4000000 in
set_option maxRecDepth 100000 in
theorem K192_X11_fixed (l : Launch) (G : va_G) (cy : Nat → ClassId) (sz : Nat) (a_0 : Nat) (i_0 : Int32) (a_1 : Nat) (a_2 : Nat) (a_3 : Nat) (a_4 : Nat) (a_5 : Nat) (a_6 : Nat) (a_7 : Nat) (a_8 : Nat) (a_9 : Nat) (a_10 : Nat) (a_11 : Nat) (a_24 : Nat) (a_25 : Nat) (k_0 : Int32) (k_1 : Int32) (k_2 : Int32) (k_3 : Int32) (k_4 : Int32) (k_5 : Int32) (k_6 : Int32) (a_26 : Nat) (a_27 : Nat) (a_28 : Nat) (a_29 : Nat) (a_30 : Nat) (a_31 : Nat) (a_32 : Nat) (a_33 : Nat) (a_34 : Nat) (a_35 : Nat)   : mm_CI l yX11_fixed (mm_ws yX11_fixed cX11_fixed 5 (some .int)) ({ frames := 1, cells := 0, slots := 0, locals := 21 } : Room) G cy sz [(a_0, .inr (11, [.ref a_1, .ref a_2, .ref a_3, .ref a_4, .ref a_5, .ref a_6, .ref a_7, .ref a_8, .ref a_9, .ref a_10, .ref a_11])), (a_3, .inr (10, [.ref a_24, .ref a_25])), (a_24, .inr (0, [.int k_0, .int k_1, .int k_2, .int k_3, .int k_4, .int 0, .int k_5, .int k_6, .ref a_26, .ref a_27, .ref a_28, .ref a_29, .ref a_30, .ref a_31, .ref a_32, .ref a_33, .ref a_34, .ref a_35]))] [.ref a_0, .int i_0] (fun u : Unit => [(a_0, .inr (11, [.ref a_1, .ref a_2, .ref a_3, .ref a_4, .ref a_5, .ref a_6, .ref a_7, .ref a_8, .ref a_9, .ref a_10, .ref a_11])), (a_3, .inr (10, [.ref a_24, .ref a_25])), (a_24, .inr (0, [.int k_0, .int k_1, .int k_2, .int k_3, .int k_4, .int 0, .int k_5, .int k_6, .ref a_26, .ref a_27, .ref a_28, .ref a_29, .ref a_30, .ref a_31, .ref a_32, .ref a_33, .ref a_34, .ref a_35]))]) (fun (r : Int32) (u : Unit) => (-2) = r) 0 0 := by
  refine mm_begin (lv := [(0, .ref a_0), (1, .int i_0)]) (by decide) (Nat.le_of_ble_eq_true rfl) rfl ?_
  intro p e s m below meth c A ls R args Q H locs hRe hQ hAe hx hb hr hlocks hml hown hnm hts hsz hA hS hP hK hD hl
  have hRf : R.frames = 1 := by rw [hRe]
  have hRl : R.locals = 21 := by rw [hRe]
  have hRc : R.cells = 0 := by rw [hRe]
  have hRs : R.slots = 0 := by rw [hRe]
  refine lv_aload_n hx hb dX11_fixed_0 rfl (lv_at hl 0 rfl) ?_
  refine lv_iload_n hx hb dX11_fixed_1 rfl (lv_at hl 1 rfl) ?_
  refine mm_finir (va_runV (As := [.int i_0]) (rest := []) ⟨hx, hb, hml, hown, hts⟩ (K123_X11_isLand l G cy H.size a_0 i_0 a_1 a_2 a_3 a_4 a_5 a_6 a_7 a_8 a_9 a_10 a_11 a_24 a_25 k_0 k_1 k_2 k_3 k_4 k_5 k_6 a_26 a_27 a_28 a_29 a_30 a_31 a_32 a_33 a_34 a_35 ) (cwV 1 hts (mm_gV mm_w626 mm_w627 mm_w628 mm_w2 mm_w629) rfl rfl rfl hd_X11_isLand ⟨by rw [hRf]; exact Nat.le_of_ble_eq_true rfl, by rw [hRl]; exact Nat.le_of_ble_eq_true rfl⟩) (mm_preV hK hP hD [0, 1, 2] rfl rfl 0 rfl rfl rfl) rfl rfl hl.1 rfl (lv_room (Nat.le_of_ble_eq_true rfl)) dX11_fixed_2 ⟨by rw [hRc]; exact Nat.le_of_ble_eq_true rfl, by rw [hRs]; exact Nat.le_of_ble_eq_true rfl⟩) hP hD hS hA [0, 1, 2] rfl (fun _ => rfl) ?_
  clear hP hD hS
  clear H locs
  intro v1 _u H locs hw hP hD hS
  subst hw
  refine lv_if_ne (tgt := 11) hx hb dX11_fixed_5 (by decide) (fun c2 => ?_) (fun c2 => ?_)
  · have q3 := mm_neL (lo := 1) (mm_ne c2) mm_k0 mm_k0 (by decide) (by decide)
    exact mm_no q3 (by decide)
  · refine lv_bipush (v := (-2)) hx hb dX11_fixed_8 (by decide) ?_
    subst hAe
    rw [hQ]
    exact W.iret (v := (-2)) hx hb hr (fun t ht hW => ⟨⟨(-2), (), rfl, rfl, by rw [ht]; exact hP, hK.warm hW, hD⟩, hS.F ht⟩) hS.2.2 dX11_fixed_10

set_option maxHeartbeats 4000000 in
set_option maxRecDepth 100000 in
theorem K193_X12_fixed (l : Launch) (G : va_G) (cy : Nat → ClassId) (sz : Nat) (a_0 : Nat) (i_0 : Int32) (a_1 : Nat) (a_2 : Nat) (a_3 : Nat) (a_4 : Nat) (a_5 : Nat) (k_0 : Int32) (k_1 : Int32) (k_2 : Int32) (k_3 : Int32) (k_4 : Int32) (k_5 : Int64) (k_6 : Int32) (k_7 : Int32) (k_8 : Int32) (k_9 : Int32) (a_6 : Nat) (a_7 : Nat) (a_8 : Nat) (a_9 : Nat) (a_10 : Nat) (a_11 : Nat) (a_12 : Nat) (a_13 : Nat) (a_14 : Nat) (a_15 : Nat) (a_16 : Nat) (a_17 : Nat) (a_18 : Nat) (k_10 : Int32) (k_11 : Int32) (k_12 : Int32) (k_13 : Int32) (k_14 : Int32) (k_15 : Int32) (a_19 : Nat) (k_16 : Int32) (a_20 : Nat)   : mm_CI l yX12_fixed (mm_ws yX12_fixed cX12_fixed 4 (some .int)) ({ frames := 2, cells := 0, slots := 0, locals := 46 } : Room) G cy sz [(a_0, .inr (12, [.int 0, .ref a_1, .ref a_2, .ref a_3, .ref a_4, .ref a_5, .int k_0, .int k_1, .int k_2, .int k_3, .int k_4, .long k_5, .int k_6, .int k_7, .int k_8, .int k_9, .ref a_6, .ref a_7, .ref a_8, .ref a_9, .ref a_10, .ref a_11, .ref a_12, .ref a_13, .ref a_14, .ref a_15, .ref a_16, .ref a_17, .ref a_18, .int k_10, .int k_11, .int k_12, .int k_13, .int k_14, .int k_15, .ref a_19, .int k_16, .ref a_20])), (a_7, .inl (cy 1, 30, .inl (fun _ => 0)))] [.ref a_0, .int i_0] (fun u : Unit => [(a_0, .inr (12, [.int 0, .ref a_1, .ref a_2, .ref a_3, .ref a_4, .ref a_5, .int k_0, .int k_1, .int k_2, .int k_3, .int k_4, .long k_5, .int k_6, .int k_7, .int k_8, .int k_9, .ref a_6, .ref a_7, .ref a_8, .ref a_9, .ref a_10, .ref a_11, .ref a_12, .ref a_13, .ref a_14, .ref a_15, .ref a_16, .ref a_17, .ref a_18, .int k_10, .int k_11, .int k_12, .int k_13, .int k_14, .int k_15, .ref a_19, .int k_16, .ref a_20])), (a_7, .inl (cy 1, 30, .inl (fun _ => 0)))]) (fun (r : Int32) (u : Unit) => (-2) = r) 0 0 := by
  refine mm_begin (lv := [(0, .ref a_0), (1, .int i_0)]) (by decide) (Nat.le_of_ble_eq_true rfl) rfl ?_
  intro p e s m below meth c A ls R args Q H locs hRe hQ hAe hx hb hr hlocks hml hown hnm hts hsz hA hS hP hK hD hl
  have hRf : R.frames = 2 := by rw [hRe]
  have hRl : R.locals = 46 := by rw [hRe]
  have hRc : R.cells = 0 := by rw [hRe]
  have hRs : R.slots = 0 := by rw [hRe]
  refine lv_aload_n hx hb dX12_fixed_0 rfl (lv_at hl 0 rfl) ?_
  refine lv_iconst (v := 0) hx hb dX12_fixed_1 (by decide) ?_
  refine va_put (D := G) (ci := 12) (v := .int 0) (ty := tyX12 0) (C := RX12) (T := TX12) (N := 38) hx hb hts (mm_i inlX12) tyX12 tyX12_ok nmX12 hown hK.1 hP hD hS 0 rfl rfl 0 (by decide) (mm_h hts mm_w177) (fun _ h9 => h9) rfl (tyX12_ok 0 (by decide)) rfl rfl (Nat.le_of_ble_eq_true rfl) dX12_fixed_2 ?_
  clear hP hD hS
  clear H locs
  intro H locs (hP : va_P G vwCl [(a_0, .inr (12, [.int 0, .ref a_1, .ref a_2, .ref a_3, .ref a_4, .ref a_5, .int k_0, .int k_1, .int k_2, .int k_3, .int k_4, .long k_5, .int k_6, .int k_7, .int k_8, .int k_9, .ref a_6, .ref a_7, .ref a_8, .ref a_9, .ref a_10, .ref a_11, .ref a_12, .ref a_13, .ref a_14, .ref a_15, .ref a_16, .ref a_17, .ref a_18, .int k_10, .int k_11, .int k_12, .int k_13, .int k_14, .int k_15, .ref a_19, .int k_16, .ref a_20])), (a_7, .inl (cy 1, 30, .inl (fun _ => 0)))] H) (hD : va_D A [(a_0, .inr (12, [.int 0, .ref a_1, .ref a_2, .ref a_3, .ref a_4, .ref a_5, .int k_0, .int k_1, .int k_2, .int k_3, .int k_4, .long k_5, .int k_6, .int k_7, .int k_8, .int k_9, .ref a_6, .ref a_7, .ref a_8, .ref a_9, .ref a_10, .ref a_11, .ref a_12, .ref a_13, .ref a_14, .ref a_15, .ref a_16, .ref a_17, .ref a_18, .int k_10, .int k_11, .int k_12, .int k_13, .int k_14, .int k_15, .ref a_19, .int k_16, .ref a_20])), (a_7, .inl (cy 1, 30, .inl (fun _ => 0)))]) hS
  refine lv_aload_n hx hb dX12_fixed_5 rfl (lv_at hl 0 rfl) ?_
  refine lv_iload_n hx hb dX12_fixed_6 rfl (lv_at hl 1 rfl) ?_
  refine mm_finir (va_runV (As := [.int i_0]) (rest := []) ⟨hx, hb, hml, hown, hts⟩ (K126_X12_isLand l G cy H.size a_0 i_0 0 a_1 a_2 a_3 a_4 a_5 k_0 k_1 k_2 k_3 k_4 k_5 k_6 k_7 k_8 k_9 a_6 a_7 a_8 a_9 a_10 a_11 a_12 a_13 a_14 a_15 a_16 a_17 a_18 k_10 k_11 k_12 k_13 k_14 k_15 a_19 k_16 a_20 ) (cwV 1 hts (mm_gV mm_w641 mm_w642 mm_w643 mm_w5 mm_w644) rfl rfl rfl hd_X12_isLand ⟨by rw [hRf]; exact Nat.le_of_ble_eq_true rfl, by rw [hRl]; exact Nat.le_of_ble_eq_true rfl⟩) (mm_preV hK hP hD [0, 1] rfl rfl 0 rfl rfl rfl) rfl rfl hl.1 rfl (lv_room (Nat.le_of_ble_eq_true rfl)) dX12_fixed_7 ⟨by rw [hRc]; exact Nat.le_of_ble_eq_true rfl, by rw [hRs]; exact Nat.le_of_ble_eq_true rfl⟩) hP hD hS hA [0, 1] rfl (fun _ => rfl) ?_
  clear hP hD hS
  clear H locs
  intro v1 _u H locs hw hP hD hS
  subst hw
  refine lv_if_ne (tgt := 16) hx hb dX12_fixed_10 (by decide) (fun c2 => ?_) (fun c2 => ?_)
  · have q3 := mm_neL (lo := 1) (mm_ne c2) mm_k0 mm_k0 (by decide) (by decide)
    exact mm_no q3 (by decide)
  · refine lv_bipush (v := (-2)) hx hb dX12_fixed_13 (by decide) ?_
    subst hAe
    rw [hQ]
    exact W.iret (v := (-2)) hx hb hr (fun t ht hW => ⟨⟨(-2), (), rfl, rfl, by rw [ht]; exact hP, hK.warm hW, hD⟩, hS.F ht⟩) hS.2.2 dX12_fixed_15

set_option maxHeartbeats 4000000 in
set_option maxRecDepth 100000 in
theorem K194_X11_order (l : Launch) (G : va_G) (cy : Nat → ClassId) (sz : Nat) (a_0 : Nat) (i_0 : Int32) (a_1 : Nat) (a_2 : Nat) (a_3 : Nat) (a_4 : Nat) (a_5 : Nat) (a_6 : Nat) (a_7 : Nat) (a_8 : Nat) (a_9 : Nat) (a_10 : Nat) (a_11 : Nat) (a_24 : Nat) (a_25 : Nat) (k_0 : Int32) (k_1 : Int32) (k_2 : Int32) (k_3 : Int32) (k_4 : Int32) (k_5 : Int32) (k_6 : Int32) (a_26 : Nat) (a_27 : Nat) (a_28 : Nat) (a_29 : Nat) (a_30 : Nat) (a_31 : Nat) (a_32 : Nat) (a_33 : Nat) (a_34 : Nat) (a_35 : Nat)   : mm_CI l yX11_order (mm_ws yX11_order cX11_order 2 (some .int)) ({ frames := 1, cells := 0, slots := 0, locals := 21 } : Room) G cy sz [(a_0, .inr (11, [.ref a_1, .ref a_2, .ref a_3, .ref a_4, .ref a_5, .ref a_6, .ref a_7, .ref a_8, .ref a_9, .ref a_10, .ref a_11])), (a_3, .inr (10, [.ref a_24, .ref a_25])), (a_24, .inr (0, [.int k_0, .int k_1, .int k_2, .int k_3, .int k_4, .int 0, .int k_5, .int k_6, .ref a_26, .ref a_27, .ref a_28, .ref a_29, .ref a_30, .ref a_31, .ref a_32, .ref a_33, .ref a_34, .ref a_35]))] [.ref a_0, .int i_0] (fun u : Unit => [(a_0, .inr (11, [.ref a_1, .ref a_2, .ref a_3, .ref a_4, .ref a_5, .ref a_6, .ref a_7, .ref a_8, .ref a_9, .ref a_10, .ref a_11])), (a_3, .inr (10, [.ref a_24, .ref a_25])), (a_24, .inr (0, [.int k_0, .int k_1, .int k_2, .int k_3, .int k_4, .int 0, .int k_5, .int k_6, .ref a_26, .ref a_27, .ref a_28, .ref a_29, .ref a_30, .ref a_31, .ref a_32, .ref a_33, .ref a_34, .ref a_35]))]) (fun (r : Int32) (u : Unit) => (-2) = r) 0 0 := by
  refine mm_begin (lv := [(0, .ref a_0), (1, .int i_0)]) (by decide) (Nat.le_of_ble_eq_true rfl) rfl ?_
  intro p e s m below meth c A ls R args Q H locs hRe hQ hAe hx hb hr hlocks hml hown hnm hts hsz hA hS hP hK hD hl
  have hRf : R.frames = 1 := by rw [hRe]
  have hRl : R.locals = 21 := by rw [hRe]
  have hRc : R.cells = 0 := by rw [hRe]
  have hRs : R.slots = 0 := by rw [hRe]
  refine lv_aload_n hx hb dX11_order_0 rfl (lv_at hl 0 rfl) ?_
  refine lv_iload_n hx hb dX11_order_1 rfl (lv_at hl 1 rfl) ?_
  refine mm_finir (va_runV (As := [.int i_0]) (rest := []) ⟨hx, hb, hml, hown, hts⟩ (K123_X11_isLand l G cy H.size a_0 i_0 a_1 a_2 a_3 a_4 a_5 a_6 a_7 a_8 a_9 a_10 a_11 a_24 a_25 k_0 k_1 k_2 k_3 k_4 k_5 k_6 a_26 a_27 a_28 a_29 a_30 a_31 a_32 a_33 a_34 a_35 ) (cwV 1 hts (mm_gV mm_w626 mm_w627 mm_w628 mm_w2 mm_w629) rfl rfl rfl hd_X11_isLand ⟨by rw [hRf]; exact Nat.le_of_ble_eq_true rfl, by rw [hRl]; exact Nat.le_of_ble_eq_true rfl⟩) (mm_preV hK hP hD [0, 1, 2] rfl rfl 0 rfl rfl rfl) rfl rfl hl.1 rfl (lv_room (Nat.le_of_ble_eq_true rfl)) dX11_order_2 ⟨by rw [hRc]; exact Nat.le_of_ble_eq_true rfl, by rw [hRs]; exact Nat.le_of_ble_eq_true rfl⟩) hP hD hS hA [0, 1, 2] rfl (fun _ => rfl) ?_
  clear hP hD hS
  clear H locs
  intro v1 _u H locs hw hP hD hS
  subst hw
  refine lv_if_eq (tgt := 23) hx hb dX11_order_5 (by decide) (fun c2 => ?_) (fun c2 => ?_)
  · refine lv_bipush (v := (-2)) hx hb dX11_order_23 (by decide) ?_
    subst hAe
    rw [hQ]
    exact W.iret (v := (-2)) hx hb hr (fun t ht hW => ⟨⟨(-2), (), rfl, rfl, by rw [ht]; exact hP, hK.warm hW, hD⟩, hS.F ht⟩) hS.2.2 dX11_order_25
  · have q3 := mm_neL (lo := 1) (mm_ne c2) mm_k0 mm_k0 (by decide) (by decide)
    exact mm_no q3 (by decide)

set_option maxHeartbeats 4000000 in
set_option maxRecDepth 100000 in
theorem K195_X12_order (l : Launch) (G : va_G) (cy : Nat → ClassId) (sz : Nat) (a_0 : Nat) (i_0 : Int32) (a_1 : Nat) (a_2 : Nat) (a_3 : Nat) (a_4 : Nat) (a_5 : Nat) (k_0 : Int32) (k_1 : Int32) (k_2 : Int32) (k_3 : Int32) (k_4 : Int32) (k_5 : Int64) (k_6 : Int32) (k_7 : Int32) (k_8 : Int32) (k_9 : Int32) (a_6 : Nat) (a_7 : Nat) (a_8 : Nat) (a_9 : Nat) (a_10 : Nat) (a_11 : Nat) (a_12 : Nat) (a_13 : Nat) (a_14 : Nat) (a_15 : Nat) (a_16 : Nat) (a_17 : Nat) (a_18 : Nat) (k_10 : Int32) (k_11 : Int32) (k_12 : Int32) (k_13 : Int32) (k_14 : Int32) (k_15 : Int32) (a_19 : Nat) (k_16 : Int32) (a_20 : Nat)   : mm_CI l yX12_order (mm_ws yX12_order cX12_order 2 (some .int)) ({ frames := 2, cells := 0, slots := 0, locals := 46 } : Room) G cy sz [(a_0, .inr (12, [.int 0, .ref a_1, .ref a_2, .ref a_3, .ref a_4, .ref a_5, .int k_0, .int k_1, .int k_2, .int k_3, .int k_4, .long k_5, .int k_6, .int k_7, .int k_8, .int k_9, .ref a_6, .ref a_7, .ref a_8, .ref a_9, .ref a_10, .ref a_11, .ref a_12, .ref a_13, .ref a_14, .ref a_15, .ref a_16, .ref a_17, .ref a_18, .int k_10, .int k_11, .int k_12, .int k_13, .int k_14, .int k_15, .ref a_19, .int k_16, .ref a_20])), (a_7, .inl (cy 1, 30, .inl (fun _ => 0)))] [.ref a_0, .int i_0] (fun u : Unit => [(a_0, .inr (12, [.int 0, .ref a_1, .ref a_2, .ref a_3, .ref a_4, .ref a_5, .int k_0, .int k_1, .int k_2, .int k_3, .int k_4, .long k_5, .int k_6, .int k_7, .int k_8, .int k_9, .ref a_6, .ref a_7, .ref a_8, .ref a_9, .ref a_10, .ref a_11, .ref a_12, .ref a_13, .ref a_14, .ref a_15, .ref a_16, .ref a_17, .ref a_18, .int k_10, .int k_11, .int k_12, .int k_13, .int k_14, .int k_15, .ref a_19, .int k_16, .ref a_20])), (a_7, .inl (cy 1, 30, .inl (fun _ => 0)))]) (fun (r : Int32) (u : Unit) => (-2) = r) 0 0 := by
  refine mm_begin (lv := [(0, .ref a_0), (1, .int i_0)]) (by decide) (Nat.le_of_ble_eq_true rfl) rfl ?_
  intro p e s m below meth c A ls R args Q H locs hRe hQ hAe hx hb hr hlocks hml hown hnm hts hsz hA hS hP hK hD hl
  have hRf : R.frames = 2 := by rw [hRe]
  have hRl : R.locals = 46 := by rw [hRe]
  have hRc : R.cells = 0 := by rw [hRe]
  have hRs : R.slots = 0 := by rw [hRe]
  refine lv_aload_n hx hb dX12_order_0 rfl (lv_at hl 0 rfl) ?_
  refine lv_iconst (v := 0) hx hb dX12_order_1 (by decide) ?_
  refine va_put (D := G) (ci := 12) (v := .int 0) (ty := tyX12 0) (C := RX12) (T := TX12) (N := 38) hx hb hts (mm_i inlX12) tyX12 tyX12_ok nmX12 hown hK.1 hP hD hS 0 rfl rfl 0 (by decide) (mm_h hts mm_w177) (fun _ h9 => h9) rfl (tyX12_ok 0 (by decide)) rfl rfl (Nat.le_of_ble_eq_true rfl) dX12_order_2 ?_
  clear hP hD hS
  clear H locs
  intro H locs (hP : va_P G vwCl [(a_0, .inr (12, [.int 0, .ref a_1, .ref a_2, .ref a_3, .ref a_4, .ref a_5, .int k_0, .int k_1, .int k_2, .int k_3, .int k_4, .long k_5, .int k_6, .int k_7, .int k_8, .int k_9, .ref a_6, .ref a_7, .ref a_8, .ref a_9, .ref a_10, .ref a_11, .ref a_12, .ref a_13, .ref a_14, .ref a_15, .ref a_16, .ref a_17, .ref a_18, .int k_10, .int k_11, .int k_12, .int k_13, .int k_14, .int k_15, .ref a_19, .int k_16, .ref a_20])), (a_7, .inl (cy 1, 30, .inl (fun _ => 0)))] H) (hD : va_D A [(a_0, .inr (12, [.int 0, .ref a_1, .ref a_2, .ref a_3, .ref a_4, .ref a_5, .int k_0, .int k_1, .int k_2, .int k_3, .int k_4, .long k_5, .int k_6, .int k_7, .int k_8, .int k_9, .ref a_6, .ref a_7, .ref a_8, .ref a_9, .ref a_10, .ref a_11, .ref a_12, .ref a_13, .ref a_14, .ref a_15, .ref a_16, .ref a_17, .ref a_18, .int k_10, .int k_11, .int k_12, .int k_13, .int k_14, .int k_15, .ref a_19, .int k_16, .ref a_20])), (a_7, .inl (cy 1, 30, .inl (fun _ => 0)))]) hS
  refine lv_aload_n hx hb dX12_order_5 rfl (lv_at hl 0 rfl) ?_
  refine lv_iload_n hx hb dX12_order_6 rfl (lv_at hl 1 rfl) ?_
  refine mm_finir (va_runV (As := [.int i_0]) (rest := []) ⟨hx, hb, hml, hown, hts⟩ (K126_X12_isLand l G cy H.size a_0 i_0 0 a_1 a_2 a_3 a_4 a_5 k_0 k_1 k_2 k_3 k_4 k_5 k_6 k_7 k_8 k_9 a_6 a_7 a_8 a_9 a_10 a_11 a_12 a_13 a_14 a_15 a_16 a_17 a_18 k_10 k_11 k_12 k_13 k_14 k_15 a_19 k_16 a_20 ) (cwV 1 hts (mm_gV mm_w641 mm_w642 mm_w643 mm_w5 mm_w644) rfl rfl rfl hd_X12_isLand ⟨by rw [hRf]; exact Nat.le_of_ble_eq_true rfl, by rw [hRl]; exact Nat.le_of_ble_eq_true rfl⟩) (mm_preV hK hP hD [0, 1] rfl rfl 0 rfl rfl rfl) rfl rfl hl.1 rfl (lv_room (Nat.le_of_ble_eq_true rfl)) dX12_order_7 ⟨by rw [hRc]; exact Nat.le_of_ble_eq_true rfl, by rw [hRs]; exact Nat.le_of_ble_eq_true rfl⟩) hP hD hS hA [0, 1] rfl (fun _ => rfl) ?_
  clear hP hD hS
  clear H locs
  intro v1 _u H locs hw hP hD hS
  subst hw
  refine lv_if_eq (tgt := 21) hx hb dX12_order_10 (by decide) (fun c2 => ?_) (fun c2 => ?_)
  · refine lv_bipush (v := (-2)) hx hb dX12_order_21 (by decide) ?_
    subst hAe
    rw [hQ]
    exact W.iret (v := (-2)) hx hb hr (fun t ht hW => ⟨⟨(-2), (), rfl, rfl, by rw [ht]; exact hP, hK.warm hW, hD⟩, hS.F ht⟩) hS.2.2 dX12_order_23
  · have q3 := mm_neL (lo := 1) (mm_ne c2) mm_k0 mm_k0 (by decide) (by decide)
    exact mm_no q3 (by decide)

set_option maxHeartbeats 4000000 in
set_option maxRecDepth 100000 in
theorem K196_X11_even (l : Launch) (G : va_G) (cy : Nat → ClassId) (sz : Nat) (a_0 : Nat) (i_0 : Int32) (i_1 : Int32) (a_1 : Nat) (a_2 : Nat) (a_3 : Nat) (a_4 : Nat) (a_5 : Nat) (a_6 : Nat) (a_7 : Nat) (a_8 : Nat) (a_9 : Nat) (a_10 : Nat) (a_11 : Nat) (a_24 : Nat) (a_25 : Nat) (k_0 : Int32) (k_1 : Int32) (k_2 : Int32) (k_3 : Int32) (k_4 : Int32) (k_5 : Int32) (k_6 : Int32) (a_26 : Nat) (a_27 : Nat) (a_28 : Nat) (a_29 : Nat) (a_30 : Nat) (a_31 : Nat) (a_32 : Nat) (a_33 : Nat) (a_34 : Nat) (a_35 : Nat)   : mm_CI l yX11_even (mm_ws yX11_even cX11_even 8 (some .int)) ({ frames := 1, cells := 0, slots := 0, locals := 21 } : Room) G cy sz [(a_0, .inr (11, [.ref a_1, .ref a_2, .ref a_3, .ref a_4, .ref a_5, .ref a_6, .ref a_7, .ref a_8, .ref a_9, .ref a_10, .ref a_11])), (a_3, .inr (10, [.ref a_24, .ref a_25])), (a_24, .inr (0, [.int k_0, .int k_1, .int k_2, .int k_3, .int k_4, .int 0, .int k_5, .int k_6, .ref a_26, .ref a_27, .ref a_28, .ref a_29, .ref a_30, .ref a_31, .ref a_32, .ref a_33, .ref a_34, .ref a_35]))] [.ref a_0, .int i_0, .int i_1] (fun u : Unit => [(a_0, .inr (11, [.ref a_1, .ref a_2, .ref a_3, .ref a_4, .ref a_5, .ref a_6, .ref a_7, .ref a_8, .ref a_9, .ref a_10, .ref a_11])), (a_3, .inr (10, [.ref a_24, .ref a_25])), (a_24, .inr (0, [.int k_0, .int k_1, .int k_2, .int k_3, .int k_4, .int 0, .int k_5, .int k_6, .ref a_26, .ref a_27, .ref a_28, .ref a_29, .ref a_30, .ref a_31, .ref a_32, .ref a_33, .ref a_34, .ref a_35]))]) (fun (r : Int32) (u : Unit) => (-2) = r) 0 0 := by
  refine mm_begin (lv := [(0, .ref a_0), (1, .int i_0), (2, .int i_1)]) (by decide) (Nat.le_of_ble_eq_true rfl) rfl ?_
  intro p e s m below meth c A ls R args Q H locs hRe hQ hAe hx hb hr hlocks hml hown hnm hts hsz hA hS hP hK hD hl
  have hRf : R.frames = 1 := by rw [hRe]
  have hRl : R.locals = 21 := by rw [hRe]
  have hRc : R.cells = 0 := by rw [hRe]
  have hRs : R.slots = 0 := by rw [hRe]
  refine lv_aload_n hx hb dX11_even_0 rfl (lv_at hl 0 rfl) ?_
  refine lv_iload_n hx hb dX11_even_1 rfl (lv_at hl 1 rfl) ?_
  refine mm_finir (va_runV (As := [.int i_0]) (rest := []) ⟨hx, hb, hml, hown, hts⟩ (K123_X11_isLand l G cy H.size a_0 i_0 a_1 a_2 a_3 a_4 a_5 a_6 a_7 a_8 a_9 a_10 a_11 a_24 a_25 k_0 k_1 k_2 k_3 k_4 k_5 k_6 a_26 a_27 a_28 a_29 a_30 a_31 a_32 a_33 a_34 a_35 ) (cwV 1 hts (mm_gV mm_w626 mm_w627 mm_w628 mm_w2 mm_w629) rfl rfl rfl hd_X11_isLand ⟨by rw [hRf]; exact Nat.le_of_ble_eq_true rfl, by rw [hRl]; exact Nat.le_of_ble_eq_true rfl⟩) (mm_preV hK hP hD [0, 1, 2] rfl rfl 0 rfl rfl rfl) rfl rfl hl.1 rfl (lv_room (Nat.le_of_ble_eq_true rfl)) dX11_even_2 ⟨by rw [hRc]; exact Nat.le_of_ble_eq_true rfl, by rw [hRs]; exact Nat.le_of_ble_eq_true rfl⟩) hP hD hS hA [0, 1, 2] rfl (fun _ => rfl) ?_
  clear hP hD hS
  clear H locs
  intro v1 _u H locs hw hP hD hS
  subst hw
  refine lv_if_eq (tgt := 15) hx hb dX11_even_5 (by decide) (fun c2 => ?_) (fun c2 => ?_)
  · refine lv_bipush (v := (-2)) hx hb dX11_even_15 (by decide) ?_
    subst hAe
    rw [hQ]
    exact W.iret (v := (-2)) hx hb hr (fun t ht hW => ⟨⟨(-2), (), rfl, rfl, by rw [ht]; exact hP, hK.warm hW, hD⟩, hS.F ht⟩) hS.2.2 dX11_even_17
  · have q3 := mm_neL (lo := 1) (mm_ne c2) mm_k0 mm_k0 (by decide) (by decide)
    exact mm_no q3 (by decide)

set_option maxHeartbeats 4000000 in
set_option maxRecDepth 100000 in
theorem K197_X12_even (l : Launch) (G : va_G) (cy : Nat → ClassId) (sz : Nat) (a_0 : Nat) (i_0 : Int32) (i_1 : Int32) (a_1 : Nat) (a_2 : Nat) (a_3 : Nat) (a_4 : Nat) (a_5 : Nat) (k_0 : Int32) (k_1 : Int32) (k_2 : Int32) (k_3 : Int32) (k_4 : Int32) (k_5 : Int64) (k_6 : Int32) (k_7 : Int32) (k_8 : Int32) (k_9 : Int32) (a_6 : Nat) (a_7 : Nat) (a_8 : Nat) (a_9 : Nat) (a_10 : Nat) (a_11 : Nat) (a_12 : Nat) (a_13 : Nat) (a_14 : Nat) (a_15 : Nat) (a_16 : Nat) (a_17 : Nat) (a_18 : Nat) (k_10 : Int32) (k_11 : Int32) (k_12 : Int32) (k_13 : Int32) (k_14 : Int32) (k_15 : Int32) (a_19 : Nat) (k_16 : Int32) (a_20 : Nat)   : mm_CI l yX12_even (mm_ws yX12_even cX12_even 6 (some .int)) ({ frames := 3, cells := 0, slots := 0, locals := 68 } : Room) G cy sz [(a_0, .inr (12, [.int 0, .ref a_1, .ref a_2, .ref a_3, .ref a_4, .ref a_5, .int k_0, .int k_1, .int k_2, .int k_3, .int k_4, .long k_5, .int k_6, .int k_7, .int k_8, .int k_9, .ref a_6, .ref a_7, .ref a_8, .ref a_9, .ref a_10, .ref a_11, .ref a_12, .ref a_13, .ref a_14, .ref a_15, .ref a_16, .ref a_17, .ref a_18, .int k_10, .int k_11, .int k_12, .int k_13, .int k_14, .int k_15, .ref a_19, .int k_16, .ref a_20])), (a_7, .inl (cy 1, 30, .inl (fun _ => 0)))] [.ref a_0, .int i_0, .int i_1] (fun u : Unit => [(a_0, .inr (12, [.int 0, .ref a_1, .ref a_2, .ref a_3, .ref a_4, .ref a_5, .int k_0, .int k_1, .int k_2, .int k_3, .int k_4, .long k_5, .int k_6, .int k_7, .int k_8, .int k_9, .ref a_6, .ref a_7, .ref a_8, .ref a_9, .ref a_10, .ref a_11, .ref a_12, .ref a_13, .ref a_14, .ref a_15, .ref a_16, .ref a_17, .ref a_18, .int k_10, .int k_11, .int k_12, .int k_13, .int k_14, .int k_15, .ref a_19, .int k_16, .ref a_20])), (a_7, .inl (cy 1, 30, .inl (fun _ => 0)))]) (fun (r : Int32) (u : Unit) => (-2) = r) 0 0 := by
  refine mm_begin (lv := [(0, .ref a_0), (1, .int i_0), (2, .int i_1)]) (by decide) (Nat.le_of_ble_eq_true rfl) rfl ?_
  intro p e s m below meth c A ls R args Q H locs hRe hQ hAe hx hb hr hlocks hml hown hnm hts hsz hA hS hP hK hD hl
  have hRf : R.frames = 3 := by rw [hRe]
  have hRl : R.locals = 68 := by rw [hRe]
  have hRc : R.cells = 0 := by rw [hRe]
  have hRs : R.slots = 0 := by rw [hRe]
  refine lv_aload_n hx hb dX12_even_0 rfl (lv_at hl 0 rfl) ?_
  refine lv_iconst (v := 0) hx hb dX12_even_1 (by decide) ?_
  refine va_put (D := G) (ci := 12) (v := .int 0) (ty := tyX12 0) (C := RX12) (T := TX12) (N := 38) hx hb hts (mm_i inlX12) tyX12 tyX12_ok nmX12 hown hK.1 hP hD hS 0 rfl rfl 0 (by decide) (mm_h hts mm_w177) (fun _ h9 => h9) rfl (tyX12_ok 0 (by decide)) rfl rfl (Nat.le_of_ble_eq_true rfl) dX12_even_2 ?_
  clear hP hD hS
  clear H locs
  intro H locs (hP : va_P G vwCl [(a_0, .inr (12, [.int 0, .ref a_1, .ref a_2, .ref a_3, .ref a_4, .ref a_5, .int k_0, .int k_1, .int k_2, .int k_3, .int k_4, .long k_5, .int k_6, .int k_7, .int k_8, .int k_9, .ref a_6, .ref a_7, .ref a_8, .ref a_9, .ref a_10, .ref a_11, .ref a_12, .ref a_13, .ref a_14, .ref a_15, .ref a_16, .ref a_17, .ref a_18, .int k_10, .int k_11, .int k_12, .int k_13, .int k_14, .int k_15, .ref a_19, .int k_16, .ref a_20])), (a_7, .inl (cy 1, 30, .inl (fun _ => 0)))] H) (hD : va_D A [(a_0, .inr (12, [.int 0, .ref a_1, .ref a_2, .ref a_3, .ref a_4, .ref a_5, .int k_0, .int k_1, .int k_2, .int k_3, .int k_4, .long k_5, .int k_6, .int k_7, .int k_8, .int k_9, .ref a_6, .ref a_7, .ref a_8, .ref a_9, .ref a_10, .ref a_11, .ref a_12, .ref a_13, .ref a_14, .ref a_15, .ref a_16, .ref a_17, .ref a_18, .int k_10, .int k_11, .int k_12, .int k_13, .int k_14, .int k_15, .ref a_19, .int k_16, .ref a_20])), (a_7, .inl (cy 1, 30, .inl (fun _ => 0)))]) hS
  refine lv_aload_n hx hb dX12_even_5 rfl (lv_at hl 0 rfl) ?_
  refine lv_iload_n hx hb dX12_even_6 rfl (lv_at hl 1 rfl) ?_
  refine lv_iload_n hx hb dX12_even_7 rfl (lv_at hl 2 rfl) ?_
  refine mm_finir (va_runV (As := [.int i_0, .int i_1]) (rest := []) ⟨hx, hb, hml, hown, hts⟩ (K131_X12_isThen l G cy H.size a_0 i_0 i_1 0 a_1 a_2 a_3 a_4 a_5 k_0 k_1 k_2 k_3 k_4 k_5 k_6 k_7 k_8 k_9 a_6 a_7 a_8 a_9 a_10 a_11 a_12 a_13 a_14 a_15 a_16 a_17 a_18 k_10 k_11 k_12 k_13 k_14 k_15 a_19 k_16 a_20 ) (cwV 2 hts (mm_gV mm_w678 mm_w679 mm_w680 mm_w5 mm_w681) rfl rfl rfl hd_X12_isThen ⟨by rw [hRf]; exact Nat.le_of_ble_eq_true rfl, by rw [hRl]; exact Nat.le_of_ble_eq_true rfl⟩) (mm_preV hK hP hD [0, 1] rfl rfl 0 rfl rfl rfl) rfl rfl hl.1 rfl (lv_room (Nat.le_of_ble_eq_true rfl)) dX12_even_8 ⟨by rw [hRc]; exact Nat.le_of_ble_eq_true rfl, by rw [hRs]; exact Nat.le_of_ble_eq_true rfl⟩) hP hD hS hA [0, 1] rfl (fun _ => rfl) ?_
  clear hP hD hS
  clear H locs
  intro v1 _u H locs hw hP hD hS
  subst hw
  refine lv_if_ne (tgt := 17) hx hb dX12_even_11 (by decide) (fun c2 => ?_) (fun c2 => ?_)
  · have q3 := mm_neL (lo := 1) (mm_ne c2) mm_k0 mm_k0 (by decide) (by decide)
    exact mm_no q3 (by decide)
  · refine lv_bipush (v := (-2)) hx hb dX12_even_14 (by decide) ?_
    subst hAe
    rw [hQ]
    exact W.iret (v := (-2)) hx hb hr (fun t ht hW => ⟨⟨(-2), (), rfl, rfl, by rw [ht]; exact hP, hK.warm hW, hD⟩, hS.F ht⟩) hS.2.2 dX12_even_16

set_option maxHeartbeats 4000000 in
set_option maxRecDepth 100000 in
theorem K198_X11_otherwise (l : Launch) (G : va_G) (cy : Nat → ClassId) (sz : Nat) (a_0 : Nat) (i_0 : Int32) (i_1 : Int32) (i_2 : Int32) (a_1 : Nat) (a_2 : Nat) (a_3 : Nat) (a_4 : Nat) (a_5 : Nat) (a_6 : Nat) (a_7 : Nat) (a_8 : Nat) (a_9 : Nat) (a_10 : Nat) (a_11 : Nat) (a_24 : Nat) (a_25 : Nat) (k_0 : Int32) (k_1 : Int32) (k_2 : Int32) (k_3 : Int32) (k_4 : Int32) (k_5 : Int32) (k_6 : Int32) (a_26 : Nat) (a_27 : Nat) (a_28 : Nat) (a_29 : Nat) (a_30 : Nat) (a_31 : Nat) (a_32 : Nat) (a_33 : Nat) (a_34 : Nat) (a_35 : Nat)   : mm_CI l yX11_otherwise (mm_ws yX11_otherwise cX11_otherwise 4 (some .int)) ({ frames := 1, cells := 0, slots := 0, locals := 21 } : Room) G cy sz [(a_0, .inr (11, [.ref a_1, .ref a_2, .ref a_3, .ref a_4, .ref a_5, .ref a_6, .ref a_7, .ref a_8, .ref a_9, .ref a_10, .ref a_11])), (a_3, .inr (10, [.ref a_24, .ref a_25])), (a_24, .inr (0, [.int k_0, .int k_1, .int k_2, .int k_3, .int k_4, .int 0, .int k_5, .int k_6, .ref a_26, .ref a_27, .ref a_28, .ref a_29, .ref a_30, .ref a_31, .ref a_32, .ref a_33, .ref a_34, .ref a_35]))] [.ref a_0, .int i_0, .int i_1, .int i_2] (fun u : Unit => [(a_0, .inr (11, [.ref a_1, .ref a_2, .ref a_3, .ref a_4, .ref a_5, .ref a_6, .ref a_7, .ref a_8, .ref a_9, .ref a_10, .ref a_11])), (a_3, .inr (10, [.ref a_24, .ref a_25])), (a_24, .inr (0, [.int k_0, .int k_1, .int k_2, .int k_3, .int k_4, .int 0, .int k_5, .int k_6, .ref a_26, .ref a_27, .ref a_28, .ref a_29, .ref a_30, .ref a_31, .ref a_32, .ref a_33, .ref a_34, .ref a_35]))]) (fun (r : Int32) (u : Unit) => (-2) = r) 0 0 := by
  refine mm_begin (lv := [(0, .ref a_0), (1, .int i_0), (2, .int i_1), (3, .int i_2)]) (by decide) (Nat.le_of_ble_eq_true rfl) rfl ?_
  intro p e s m below meth c A ls R args Q H locs hRe hQ hAe hx hb hr hlocks hml hown hnm hts hsz hA hS hP hK hD hl
  have hRf : R.frames = 1 := by rw [hRe]
  have hRl : R.locals = 21 := by rw [hRe]
  have hRc : R.cells = 0 := by rw [hRe]
  have hRs : R.slots = 0 := by rw [hRe]
  refine lv_aload_n hx hb dX11_otherwise_0 rfl (lv_at hl 0 rfl) ?_
  refine lv_iload_n hx hb dX11_otherwise_1 rfl (lv_at hl 1 rfl) ?_
  refine mm_finir (va_runV (As := [.int i_0]) (rest := []) ⟨hx, hb, hml, hown, hts⟩ (K123_X11_isLand l G cy H.size a_0 i_0 a_1 a_2 a_3 a_4 a_5 a_6 a_7 a_8 a_9 a_10 a_11 a_24 a_25 k_0 k_1 k_2 k_3 k_4 k_5 k_6 a_26 a_27 a_28 a_29 a_30 a_31 a_32 a_33 a_34 a_35 ) (cwV 1 hts (mm_gV mm_w626 mm_w627 mm_w628 mm_w2 mm_w629) rfl rfl rfl hd_X11_isLand ⟨by rw [hRf]; exact Nat.le_of_ble_eq_true rfl, by rw [hRl]; exact Nat.le_of_ble_eq_true rfl⟩) (mm_preV hK hP hD [0, 1, 2] rfl rfl 0 rfl rfl rfl) rfl rfl hl.1 rfl (lv_room (Nat.le_of_ble_eq_true rfl)) dX11_otherwise_2 ⟨by rw [hRc]; exact Nat.le_of_ble_eq_true rfl, by rw [hRs]; exact Nat.le_of_ble_eq_true rfl⟩) hP hD hS hA [0, 1, 2] rfl (fun _ => rfl) ?_
  clear hP hD hS
  clear H locs
  intro v1 _u H locs hw hP hD hS
  subst hw
  refine lv_if_eq (tgt := 23) hx hb dX11_otherwise_5 (by decide) (fun c2 => ?_) (fun c2 => ?_)
  · refine lv_bipush (v := (-2)) hx hb dX11_otherwise_23 (by decide) ?_
    subst hAe
    rw [hQ]
    exact W.iret (v := (-2)) hx hb hr (fun t ht hW => ⟨⟨(-2), (), rfl, rfl, by rw [ht]; exact hP, hK.warm hW, hD⟩, hS.F ht⟩) hS.2.2 dX11_otherwise_25
  · have q3 := mm_neL (lo := 1) (mm_ne c2) mm_k0 mm_k0 (by decide) (by decide)
    exact mm_no q3 (by decide)

set_option maxHeartbeats 4000000 in
set_option maxRecDepth 100000 in
theorem K199_X12_otherwise (l : Launch) (G : va_G) (cy : Nat → ClassId) (sz : Nat) (a_0 : Nat) (i_0 : Int32) (i_1 : Int32) (i_2 : Int32) (a_1 : Nat) (a_2 : Nat) (a_3 : Nat) (a_4 : Nat) (a_5 : Nat) (k_0 : Int32) (k_1 : Int32) (k_2 : Int32) (k_3 : Int32) (k_4 : Int32) (k_5 : Int64) (k_6 : Int32) (k_7 : Int32) (k_8 : Int32) (k_9 : Int32) (a_6 : Nat) (a_7 : Nat) (a_8 : Nat) (a_9 : Nat) (a_10 : Nat) (a_11 : Nat) (a_12 : Nat) (a_13 : Nat) (a_14 : Nat) (a_15 : Nat) (a_16 : Nat) (a_17 : Nat) (a_18 : Nat) (k_10 : Int32) (k_11 : Int32) (k_12 : Int32) (k_13 : Int32) (k_14 : Int32) (k_15 : Int32) (a_19 : Nat) (k_16 : Int32) (a_20 : Nat)   : mm_CI l yX12_otherwise (mm_ws yX12_otherwise cX12_otherwise 6 (some .int)) ({ frames := 3, cells := 0, slots := 0, locals := 68 } : Room) G cy sz [(a_0, .inr (12, [.int 0, .ref a_1, .ref a_2, .ref a_3, .ref a_4, .ref a_5, .int k_0, .int k_1, .int k_2, .int k_3, .int k_4, .long k_5, .int k_6, .int k_7, .int k_8, .int k_9, .ref a_6, .ref a_7, .ref a_8, .ref a_9, .ref a_10, .ref a_11, .ref a_12, .ref a_13, .ref a_14, .ref a_15, .ref a_16, .ref a_17, .ref a_18, .int k_10, .int k_11, .int k_12, .int k_13, .int k_14, .int k_15, .ref a_19, .int k_16, .ref a_20])), (a_7, .inl (cy 1, 30, .inl (fun _ => 0)))] [.ref a_0, .int i_0, .int i_1, .int i_2] (fun u : Unit => [(a_0, .inr (12, [.int 0, .ref a_1, .ref a_2, .ref a_3, .ref a_4, .ref a_5, .int k_0, .int k_1, .int k_2, .int k_3, .int k_4, .long k_5, .int k_6, .int k_7, .int k_8, .int k_9, .ref a_6, .ref a_7, .ref a_8, .ref a_9, .ref a_10, .ref a_11, .ref a_12, .ref a_13, .ref a_14, .ref a_15, .ref a_16, .ref a_17, .ref a_18, .int k_10, .int k_11, .int k_12, .int k_13, .int k_14, .int k_15, .ref a_19, .int k_16, .ref a_20])), (a_7, .inl (cy 1, 30, .inl (fun _ => 0)))]) (fun (r : Int32) (u : Unit) => (-2) = r) 0 0 := by
  refine mm_begin (lv := [(0, .ref a_0), (1, .int i_0), (2, .int i_1), (3, .int i_2)]) (by decide) (Nat.le_of_ble_eq_true rfl) rfl ?_
  intro p e s m below meth c A ls R args Q H locs hRe hQ hAe hx hb hr hlocks hml hown hnm hts hsz hA hS hP hK hD hl
  have hRf : R.frames = 3 := by rw [hRe]
  have hRl : R.locals = 68 := by rw [hRe]
  have hRc : R.cells = 0 := by rw [hRe]
  have hRs : R.slots = 0 := by rw [hRe]
  refine lv_aload_n hx hb dX12_otherwise_0 rfl (lv_at hl 0 rfl) ?_
  refine lv_iconst (v := 0) hx hb dX12_otherwise_1 (by decide) ?_
  refine va_put (D := G) (ci := 12) (v := .int 0) (ty := tyX12 0) (C := RX12) (T := TX12) (N := 38) hx hb hts (mm_i inlX12) tyX12 tyX12_ok nmX12 hown hK.1 hP hD hS 0 rfl rfl 0 (by decide) (mm_h hts mm_w177) (fun _ h9 => h9) rfl (tyX12_ok 0 (by decide)) rfl rfl (Nat.le_of_ble_eq_true rfl) dX12_otherwise_2 ?_
  clear hP hD hS
  clear H locs
  intro H locs (hP : va_P G vwCl [(a_0, .inr (12, [.int 0, .ref a_1, .ref a_2, .ref a_3, .ref a_4, .ref a_5, .int k_0, .int k_1, .int k_2, .int k_3, .int k_4, .long k_5, .int k_6, .int k_7, .int k_8, .int k_9, .ref a_6, .ref a_7, .ref a_8, .ref a_9, .ref a_10, .ref a_11, .ref a_12, .ref a_13, .ref a_14, .ref a_15, .ref a_16, .ref a_17, .ref a_18, .int k_10, .int k_11, .int k_12, .int k_13, .int k_14, .int k_15, .ref a_19, .int k_16, .ref a_20])), (a_7, .inl (cy 1, 30, .inl (fun _ => 0)))] H) (hD : va_D A [(a_0, .inr (12, [.int 0, .ref a_1, .ref a_2, .ref a_3, .ref a_4, .ref a_5, .int k_0, .int k_1, .int k_2, .int k_3, .int k_4, .long k_5, .int k_6, .int k_7, .int k_8, .int k_9, .ref a_6, .ref a_7, .ref a_8, .ref a_9, .ref a_10, .ref a_11, .ref a_12, .ref a_13, .ref a_14, .ref a_15, .ref a_16, .ref a_17, .ref a_18, .int k_10, .int k_11, .int k_12, .int k_13, .int k_14, .int k_15, .ref a_19, .int k_16, .ref a_20])), (a_7, .inl (cy 1, 30, .inl (fun _ => 0)))]) hS
  refine lv_aload_n hx hb dX12_otherwise_5 rfl (lv_at hl 0 rfl) ?_
  refine lv_iload_n hx hb dX12_otherwise_6 rfl (lv_at hl 1 rfl) ?_
  refine lv_iload_n hx hb dX12_otherwise_7 rfl (lv_at hl 2 rfl) ?_
  refine mm_finir (va_runV (As := [.int i_0, .int i_1]) (rest := []) ⟨hx, hb, hml, hown, hts⟩ (K131_X12_isThen l G cy H.size a_0 i_0 i_1 0 a_1 a_2 a_3 a_4 a_5 k_0 k_1 k_2 k_3 k_4 k_5 k_6 k_7 k_8 k_9 a_6 a_7 a_8 a_9 a_10 a_11 a_12 a_13 a_14 a_15 a_16 a_17 a_18 k_10 k_11 k_12 k_13 k_14 k_15 a_19 k_16 a_20 ) (cwV 2 hts (mm_gV mm_w678 mm_w679 mm_w680 mm_w5 mm_w681) rfl rfl rfl hd_X12_isThen ⟨by rw [hRf]; exact Nat.le_of_ble_eq_true rfl, by rw [hRl]; exact Nat.le_of_ble_eq_true rfl⟩) (mm_preV hK hP hD [0, 1] rfl rfl 0 rfl rfl rfl) rfl rfl hl.1 rfl (lv_room (Nat.le_of_ble_eq_true rfl)) dX12_otherwise_8 ⟨by rw [hRc]; exact Nat.le_of_ble_eq_true rfl, by rw [hRs]; exact Nat.le_of_ble_eq_true rfl⟩) hP hD hS hA [0, 1] rfl (fun _ => rfl) ?_
  clear hP hD hS
  clear H locs
  intro v1 _u H locs hw hP hD hS
  subst hw
  refine lv_if_eq (tgt := 22) hx hb dX12_otherwise_11 (by decide) (fun c2 => ?_) (fun c2 => ?_)
  · refine lv_bipush (v := (-2)) hx hb dX12_otherwise_22 (by decide) ?_
    subst hAe
    rw [hQ]
    exact W.iret (v := (-2)) hx hb hr (fun t ht hW => ⟨⟨(-2), (), rfl, rfl, by rw [ht]; exact hP, hK.warm hW, hD⟩, hS.F ht⟩) hS.2.2 dX12_otherwise_24
  · have q3 := mm_neL (lo := 1) (mm_ne c2) mm_k0 mm_k0 (by decide) (by decide)
    exact mm_no q3 (by decide)

set_option maxHeartbeats 4000000 in
set_option maxRecDepth 100000 in
theorem K200_X11_like (l : Launch) (G : va_G) (cy : Nat → ClassId) (sz : Nat) (a_0 : Nat) (i_0 : Int32) (i_1 : Int32) (i_2 : Int32) (a_1 : Nat) (a_2 : Nat) (a_3 : Nat) (a_4 : Nat) (a_5 : Nat) (a_6 : Nat) (a_7 : Nat) (a_8 : Nat) (a_9 : Nat) (a_10 : Nat) (a_11 : Nat) (a_24 : Nat) (a_25 : Nat) (k_0 : Int32) (k_1 : Int32) (k_2 : Int32) (k_3 : Int32) (k_4 : Int32) (k_5 : Int32) (k_6 : Int32) (a_26 : Nat) (a_27 : Nat) (a_28 : Nat) (a_29 : Nat) (a_30 : Nat) (a_31 : Nat) (a_32 : Nat) (a_33 : Nat) (a_34 : Nat) (a_35 : Nat)   : mm_CI l yX11_like (mm_ws yX11_like cX11_like 6 (some .int)) ({ frames := 1, cells := 0, slots := 0, locals := 21 } : Room) G cy sz [(a_0, .inr (11, [.ref a_1, .ref a_2, .ref a_3, .ref a_4, .ref a_5, .ref a_6, .ref a_7, .ref a_8, .ref a_9, .ref a_10, .ref a_11])), (a_3, .inr (10, [.ref a_24, .ref a_25])), (a_24, .inr (0, [.int k_0, .int k_1, .int k_2, .int k_3, .int k_4, .int 0, .int k_5, .int k_6, .ref a_26, .ref a_27, .ref a_28, .ref a_29, .ref a_30, .ref a_31, .ref a_32, .ref a_33, .ref a_34, .ref a_35]))] [.ref a_0, .int i_0, .int i_1, .int i_2] (fun u : Unit => [(a_0, .inr (11, [.ref a_1, .ref a_2, .ref a_3, .ref a_4, .ref a_5, .ref a_6, .ref a_7, .ref a_8, .ref a_9, .ref a_10, .ref a_11])), (a_3, .inr (10, [.ref a_24, .ref a_25])), (a_24, .inr (0, [.int k_0, .int k_1, .int k_2, .int k_3, .int k_4, .int 0, .int k_5, .int k_6, .ref a_26, .ref a_27, .ref a_28, .ref a_29, .ref a_30, .ref a_31, .ref a_32, .ref a_33, .ref a_34, .ref a_35]))]) (fun (r : Int32) (u : Unit) => (-2) = r) 0 0 := by
  refine mm_begin (lv := [(0, .ref a_0), (1, .int i_0), (2, .int i_1), (3, .int i_2)]) (by decide) (Nat.le_of_ble_eq_true rfl) rfl ?_
  intro p e s m below meth c A ls R args Q H locs hRe hQ hAe hx hb hr hlocks hml hown hnm hts hsz hA hS hP hK hD hl
  have hRf : R.frames = 1 := by rw [hRe]
  have hRl : R.locals = 21 := by rw [hRe]
  have hRc : R.cells = 0 := by rw [hRe]
  have hRs : R.slots = 0 := by rw [hRe]
  refine lv_aload_n hx hb dX11_like_0 rfl (lv_at hl 0 rfl) ?_
  refine lv_iload_n hx hb dX11_like_1 rfl (lv_at hl 1 rfl) ?_
  refine mm_finir (va_runV (As := [.int i_0]) (rest := []) ⟨hx, hb, hml, hown, hts⟩ (K123_X11_isLand l G cy H.size a_0 i_0 a_1 a_2 a_3 a_4 a_5 a_6 a_7 a_8 a_9 a_10 a_11 a_24 a_25 k_0 k_1 k_2 k_3 k_4 k_5 k_6 a_26 a_27 a_28 a_29 a_30 a_31 a_32 a_33 a_34 a_35 ) (cwV 1 hts (mm_gV mm_w626 mm_w627 mm_w628 mm_w2 mm_w629) rfl rfl rfl hd_X11_isLand ⟨by rw [hRf]; exact Nat.le_of_ble_eq_true rfl, by rw [hRl]; exact Nat.le_of_ble_eq_true rfl⟩) (mm_preV hK hP hD [0, 1, 2] rfl rfl 0 rfl rfl rfl) rfl rfl hl.1 rfl (lv_room (Nat.le_of_ble_eq_true rfl)) dX11_like_2 ⟨by rw [hRc]; exact Nat.le_of_ble_eq_true rfl, by rw [hRs]; exact Nat.le_of_ble_eq_true rfl⟩) hP hD hS hA [0, 1, 2] rfl (fun _ => rfl) ?_
  clear hP hD hS
  clear H locs
  intro v1 _u H locs hw hP hD hS
  subst hw
  refine lv_if_eq (tgt := 23) hx hb dX11_like_5 (by decide) (fun c2 => ?_) (fun c2 => ?_)
  · refine lv_bipush (v := (-2)) hx hb dX11_like_23 (by decide) ?_
    subst hAe
    rw [hQ]
    exact W.iret (v := (-2)) hx hb hr (fun t ht hW => ⟨⟨(-2), (), rfl, rfl, by rw [ht]; exact hP, hK.warm hW, hD⟩, hS.F ht⟩) hS.2.2 dX11_like_25
  · have q3 := mm_neL (lo := 1) (mm_ne c2) mm_k0 mm_k0 (by decide) (by decide)
    exact mm_no q3 (by decide)

set_option maxHeartbeats 4000000 in
set_option maxRecDepth 100000 in
theorem K201_X12_like (l : Launch) (G : va_G) (cy : Nat → ClassId) (sz : Nat) (a_0 : Nat) (i_0 : Int32) (i_1 : Int32) (i_2 : Int32) (a_1 : Nat) (a_2 : Nat) (a_3 : Nat) (a_4 : Nat) (a_5 : Nat) (k_0 : Int32) (k_1 : Int32) (k_2 : Int32) (k_3 : Int32) (k_4 : Int32) (k_5 : Int64) (k_6 : Int32) (k_7 : Int32) (k_8 : Int32) (k_9 : Int32) (a_6 : Nat) (a_7 : Nat) (a_8 : Nat) (a_9 : Nat) (a_10 : Nat) (a_11 : Nat) (a_12 : Nat) (a_13 : Nat) (a_14 : Nat) (a_15 : Nat) (a_16 : Nat) (a_17 : Nat) (a_18 : Nat) (k_10 : Int32) (k_11 : Int32) (k_12 : Int32) (k_13 : Int32) (k_14 : Int32) (k_15 : Int32) (a_19 : Nat) (k_16 : Int32) (a_20 : Nat)   : mm_CI l yX12_like (mm_ws yX12_like cX12_like 5 (some .int)) ({ frames := 3, cells := 0, slots := 0, locals := 68 } : Room) G cy sz [(a_0, .inr (12, [.int 0, .ref a_1, .ref a_2, .ref a_3, .ref a_4, .ref a_5, .int k_0, .int k_1, .int k_2, .int k_3, .int k_4, .long k_5, .int k_6, .int k_7, .int k_8, .int k_9, .ref a_6, .ref a_7, .ref a_8, .ref a_9, .ref a_10, .ref a_11, .ref a_12, .ref a_13, .ref a_14, .ref a_15, .ref a_16, .ref a_17, .ref a_18, .int k_10, .int k_11, .int k_12, .int k_13, .int k_14, .int k_15, .ref a_19, .int k_16, .ref a_20])), (a_7, .inl (cy 1, 30, .inl (fun _ => 0)))] [.ref a_0, .int i_0, .int i_1, .int i_2] (fun u : Unit => [(a_0, .inr (12, [.int 0, .ref a_1, .ref a_2, .ref a_3, .ref a_4, .ref a_5, .int k_0, .int k_1, .int k_2, .int k_3, .int k_4, .long k_5, .int k_6, .int k_7, .int k_8, .int k_9, .ref a_6, .ref a_7, .ref a_8, .ref a_9, .ref a_10, .ref a_11, .ref a_12, .ref a_13, .ref a_14, .ref a_15, .ref a_16, .ref a_17, .ref a_18, .int k_10, .int k_11, .int k_12, .int k_13, .int k_14, .int k_15, .ref a_19, .int k_16, .ref a_20])), (a_7, .inl (cy 1, 30, .inl (fun _ => 0)))]) (fun (r : Int32) (u : Unit) => (-2) = r) 0 0 := by
  refine mm_begin (lv := [(0, .ref a_0), (1, .int i_0), (2, .int i_1), (3, .int i_2)]) (by decide) (Nat.le_of_ble_eq_true rfl) rfl ?_
  intro p e s m below meth c A ls R args Q H locs hRe hQ hAe hx hb hr hlocks hml hown hnm hts hsz hA hS hP hK hD hl
  have hRf : R.frames = 3 := by rw [hRe]
  have hRl : R.locals = 68 := by rw [hRe]
  have hRc : R.cells = 0 := by rw [hRe]
  have hRs : R.slots = 0 := by rw [hRe]
  refine lv_aload_n hx hb dX12_like_0 rfl (lv_at hl 0 rfl) ?_
  refine lv_iconst (v := 0) hx hb dX12_like_1 (by decide) ?_
  refine va_put (D := G) (ci := 12) (v := .int 0) (ty := tyX12 0) (C := RX12) (T := TX12) (N := 38) hx hb hts (mm_i inlX12) tyX12 tyX12_ok nmX12 hown hK.1 hP hD hS 0 rfl rfl 0 (by decide) (mm_h hts mm_w177) (fun _ h9 => h9) rfl (tyX12_ok 0 (by decide)) rfl rfl (Nat.le_of_ble_eq_true rfl) dX12_like_2 ?_
  clear hP hD hS
  clear H locs
  intro H locs (hP : va_P G vwCl [(a_0, .inr (12, [.int 0, .ref a_1, .ref a_2, .ref a_3, .ref a_4, .ref a_5, .int k_0, .int k_1, .int k_2, .int k_3, .int k_4, .long k_5, .int k_6, .int k_7, .int k_8, .int k_9, .ref a_6, .ref a_7, .ref a_8, .ref a_9, .ref a_10, .ref a_11, .ref a_12, .ref a_13, .ref a_14, .ref a_15, .ref a_16, .ref a_17, .ref a_18, .int k_10, .int k_11, .int k_12, .int k_13, .int k_14, .int k_15, .ref a_19, .int k_16, .ref a_20])), (a_7, .inl (cy 1, 30, .inl (fun _ => 0)))] H) (hD : va_D A [(a_0, .inr (12, [.int 0, .ref a_1, .ref a_2, .ref a_3, .ref a_4, .ref a_5, .int k_0, .int k_1, .int k_2, .int k_3, .int k_4, .long k_5, .int k_6, .int k_7, .int k_8, .int k_9, .ref a_6, .ref a_7, .ref a_8, .ref a_9, .ref a_10, .ref a_11, .ref a_12, .ref a_13, .ref a_14, .ref a_15, .ref a_16, .ref a_17, .ref a_18, .int k_10, .int k_11, .int k_12, .int k_13, .int k_14, .int k_15, .ref a_19, .int k_16, .ref a_20])), (a_7, .inl (cy 1, 30, .inl (fun _ => 0)))]) hS
  refine lv_aload_n hx hb dX12_like_5 rfl (lv_at hl 0 rfl) ?_
  refine lv_iload_n hx hb dX12_like_6 rfl (lv_at hl 1 rfl) ?_
  refine lv_iload_n hx hb dX12_like_7 rfl (lv_at hl 2 rfl) ?_
  refine mm_finir (va_runV (As := [.int i_0, .int i_1]) (rest := []) ⟨hx, hb, hml, hown, hts⟩ (K131_X12_isThen l G cy H.size a_0 i_0 i_1 0 a_1 a_2 a_3 a_4 a_5 k_0 k_1 k_2 k_3 k_4 k_5 k_6 k_7 k_8 k_9 a_6 a_7 a_8 a_9 a_10 a_11 a_12 a_13 a_14 a_15 a_16 a_17 a_18 k_10 k_11 k_12 k_13 k_14 k_15 a_19 k_16 a_20 ) (cwV 2 hts (mm_gV mm_w678 mm_w679 mm_w680 mm_w5 mm_w681) rfl rfl rfl hd_X12_isThen ⟨by rw [hRf]; exact Nat.le_of_ble_eq_true rfl, by rw [hRl]; exact Nat.le_of_ble_eq_true rfl⟩) (mm_preV hK hP hD [0, 1] rfl rfl 0 rfl rfl rfl) rfl rfl hl.1 rfl (lv_room (Nat.le_of_ble_eq_true rfl)) dX12_like_8 ⟨by rw [hRc]; exact Nat.le_of_ble_eq_true rfl, by rw [hRs]; exact Nat.le_of_ble_eq_true rfl⟩) hP hD hS hA [0, 1] rfl (fun _ => rfl) ?_
  clear hP hD hS
  clear H locs
  intro v1 _u H locs hw hP hD hS
  subst hw
  refine lv_if_eq (tgt := 22) hx hb dX12_like_11 (by decide) (fun c2 => ?_) (fun c2 => ?_)
  · refine lv_bipush (v := (-2)) hx hb dX12_like_22 (by decide) ?_
    subst hAe
    rw [hQ]
    exact W.iret (v := (-2)) hx hb hr (fun t ht hW => ⟨⟨(-2), (), rfl, rfl, by rw [ht]; exact hP, hK.warm hW, hD⟩, hS.F ht⟩) hS.2.2 dX12_like_24
  · have q3 := mm_neL (lo := 1) (mm_ne c2) mm_k0 mm_k0 (by decide) (by decide)
    exact mm_no q3 (by decide)

set_option maxHeartbeats 4000000 in
set_option maxRecDepth 100000 in
theorem K202_X11_carry (l : Launch) (G : va_G) (cy : Nat → ClassId) (sz : Nat) (a_0 : Nat) (i_0 : Int32) (i_1 : Int32) (i_2 : Int32) (i_3 : Int32) (i_4 : Int32) (a_1 : Nat) (a_2 : Nat) (a_3 : Nat) (a_4 : Nat) (a_5 : Nat) (a_6 : Nat) (a_7 : Nat) (a_8 : Nat) (a_9 : Nat) (a_10 : Nat) (a_11 : Nat) (a_24 : Nat) (a_25 : Nat) (k_0 : Int32) (k_1 : Int32) (k_2 : Int32) (k_3 : Int32) (k_4 : Int32) (k_5 : Int32) (k_6 : Int32) (a_26 : Nat) (a_27 : Nat) (a_28 : Nat) (a_29 : Nat) (a_30 : Nat) (a_31 : Nat) (a_32 : Nat) (a_33 : Nat) (a_34 : Nat) (a_35 : Nat)   : mm_CI l yX11_carry (mm_ws yX11_carry cX11_carry 6 (some .int)) ({ frames := 1, cells := 0, slots := 0, locals := 21 } : Room) G cy sz [(a_0, .inr (11, [.ref a_1, .ref a_2, .ref a_3, .ref a_4, .ref a_5, .ref a_6, .ref a_7, .ref a_8, .ref a_9, .ref a_10, .ref a_11])), (a_3, .inr (10, [.ref a_24, .ref a_25])), (a_24, .inr (0, [.int k_0, .int k_1, .int k_2, .int k_3, .int k_4, .int 0, .int k_5, .int k_6, .ref a_26, .ref a_27, .ref a_28, .ref a_29, .ref a_30, .ref a_31, .ref a_32, .ref a_33, .ref a_34, .ref a_35]))] [.ref a_0, .int i_0, .int i_1, .int i_2, .int i_3, .int i_4] (fun u : Unit => [(a_0, .inr (11, [.ref a_1, .ref a_2, .ref a_3, .ref a_4, .ref a_5, .ref a_6, .ref a_7, .ref a_8, .ref a_9, .ref a_10, .ref a_11])), (a_3, .inr (10, [.ref a_24, .ref a_25])), (a_24, .inr (0, [.int k_0, .int k_1, .int k_2, .int k_3, .int k_4, .int 0, .int k_5, .int k_6, .ref a_26, .ref a_27, .ref a_28, .ref a_29, .ref a_30, .ref a_31, .ref a_32, .ref a_33, .ref a_34, .ref a_35]))]) (fun (r : Int32) (u : Unit) => (-2) = r) 0 0 := by
  refine mm_begin (lv := [(0, .ref a_0), (1, .int i_0), (2, .int i_1), (3, .int i_2), (4, .int i_3), (5, .int i_4)]) (by decide) (Nat.le_of_ble_eq_true rfl) rfl ?_
  intro p e s m below meth c A ls R args Q H locs hRe hQ hAe hx hb hr hlocks hml hown hnm hts hsz hA hS hP hK hD hl
  have hRf : R.frames = 1 := by rw [hRe]
  have hRl : R.locals = 21 := by rw [hRe]
  have hRc : R.cells = 0 := by rw [hRe]
  have hRs : R.slots = 0 := by rw [hRe]
  refine lv_aload_n hx hb dX11_carry_0 rfl (lv_at hl 0 rfl) ?_
  refine lv_iload_n hx hb dX11_carry_1 rfl (lv_at hl 1 rfl) ?_
  refine mm_finir (va_runV (As := [.int i_0]) (rest := []) ⟨hx, hb, hml, hown, hts⟩ (K123_X11_isLand l G cy H.size a_0 i_0 a_1 a_2 a_3 a_4 a_5 a_6 a_7 a_8 a_9 a_10 a_11 a_24 a_25 k_0 k_1 k_2 k_3 k_4 k_5 k_6 a_26 a_27 a_28 a_29 a_30 a_31 a_32 a_33 a_34 a_35 ) (cwV 1 hts (mm_gV mm_w626 mm_w627 mm_w628 mm_w2 mm_w629) rfl rfl rfl hd_X11_isLand ⟨by rw [hRf]; exact Nat.le_of_ble_eq_true rfl, by rw [hRl]; exact Nat.le_of_ble_eq_true rfl⟩) (mm_preV hK hP hD [0, 1, 2] rfl rfl 0 rfl rfl rfl) rfl rfl hl.1 rfl (lv_room (Nat.le_of_ble_eq_true rfl)) dX11_carry_2 ⟨by rw [hRc]; exact Nat.le_of_ble_eq_true rfl, by rw [hRs]; exact Nat.le_of_ble_eq_true rfl⟩) hP hD hS hA [0, 1, 2] rfl (fun _ => rfl) ?_
  clear hP hD hS
  clear H locs
  intro v1 _u H locs hw hP hD hS
  subst hw
  refine lv_if_eq (tgt := 40) hx hb dX11_carry_5 (by decide) (fun c2 => ?_) (fun c2 => ?_)
  · refine lv_bipush (v := (-2)) hx hb dX11_carry_40 (by decide) ?_
    subst hAe
    rw [hQ]
    exact W.iret (v := (-2)) hx hb hr (fun t ht hW => ⟨⟨(-2), (), rfl, rfl, by rw [ht]; exact hP, hK.warm hW, hD⟩, hS.F ht⟩) hS.2.2 dX11_carry_42
  · have q3 := mm_neL (lo := 1) (mm_ne c2) mm_k0 mm_k0 (by decide) (by decide)
    exact mm_no q3 (by decide)

set_option maxHeartbeats 4000000 in
set_option maxRecDepth 100000 in
theorem K203_X12_carry (l : Launch) (G : va_G) (cy : Nat → ClassId) (sz : Nat) (a_0 : Nat) (i_0 : Int32) (i_1 : Int32) (i_2 : Int32) (i_3 : Int32) (i_4 : Int32) (a_1 : Nat) (a_2 : Nat) (a_3 : Nat) (a_4 : Nat) (a_5 : Nat) (k_0 : Int32) (k_1 : Int32) (k_2 : Int32) (k_3 : Int32) (k_4 : Int32) (k_5 : Int64) (k_6 : Int32) (k_7 : Int32) (k_8 : Int32) (k_9 : Int32) (a_6 : Nat) (a_7 : Nat) (a_8 : Nat) (a_9 : Nat) (a_10 : Nat) (a_11 : Nat) (a_12 : Nat) (a_13 : Nat) (a_14 : Nat) (a_15 : Nat) (a_16 : Nat) (a_17 : Nat) (a_18 : Nat) (k_10 : Int32) (k_11 : Int32) (k_12 : Int32) (k_13 : Int32) (k_14 : Int32) (k_15 : Int32) (a_19 : Nat) (k_16 : Int32) (a_20 : Nat)   : mm_CI l yX12_carry (mm_ws yX12_carry cX12_carry 6 (some .int)) ({ frames := 3, cells := 0, slots := 0, locals := 68 } : Room) G cy sz [(a_0, .inr (12, [.int 0, .ref a_1, .ref a_2, .ref a_3, .ref a_4, .ref a_5, .int k_0, .int k_1, .int k_2, .int k_3, .int k_4, .long k_5, .int k_6, .int k_7, .int k_8, .int k_9, .ref a_6, .ref a_7, .ref a_8, .ref a_9, .ref a_10, .ref a_11, .ref a_12, .ref a_13, .ref a_14, .ref a_15, .ref a_16, .ref a_17, .ref a_18, .int k_10, .int k_11, .int k_12, .int k_13, .int k_14, .int k_15, .ref a_19, .int k_16, .ref a_20])), (a_7, .inl (cy 1, 30, .inl (fun _ => 0)))] [.ref a_0, .int i_0, .int i_1, .int i_2, .int i_3, .int i_4] (fun u : Unit => [(a_0, .inr (12, [.int 0, .ref a_1, .ref a_2, .ref a_3, .ref a_4, .ref a_5, .int k_0, .int k_1, .int k_2, .int k_3, .int k_4, .long k_5, .int k_6, .int k_7, .int k_8, .int k_9, .ref a_6, .ref a_7, .ref a_8, .ref a_9, .ref a_10, .ref a_11, .ref a_12, .ref a_13, .ref a_14, .ref a_15, .ref a_16, .ref a_17, .ref a_18, .int k_10, .int k_11, .int k_12, .int k_13, .int k_14, .int k_15, .ref a_19, .int k_16, .ref a_20])), (a_7, .inl (cy 1, 30, .inl (fun _ => 0)))]) (fun (r : Int32) (u : Unit) => (-2) = r) 0 0 := by
  refine mm_begin (lv := [(0, .ref a_0), (1, .int i_0), (2, .int i_1), (3, .int i_2), (4, .int i_3), (5, .int i_4)]) (by decide) (Nat.le_of_ble_eq_true rfl) rfl ?_
  intro p e s m below meth c A ls R args Q H locs hRe hQ hAe hx hb hr hlocks hml hown hnm hts hsz hA hS hP hK hD hl
  have hRf : R.frames = 3 := by rw [hRe]
  have hRl : R.locals = 68 := by rw [hRe]
  have hRc : R.cells = 0 := by rw [hRe]
  have hRs : R.slots = 0 := by rw [hRe]
  refine lv_aload_n hx hb dX12_carry_0 rfl (lv_at hl 0 rfl) ?_
  refine lv_iconst (v := 0) hx hb dX12_carry_1 (by decide) ?_
  refine va_put (D := G) (ci := 12) (v := .int 0) (ty := tyX12 0) (C := RX12) (T := TX12) (N := 38) hx hb hts (mm_i inlX12) tyX12 tyX12_ok nmX12 hown hK.1 hP hD hS 0 rfl rfl 0 (by decide) (mm_h hts mm_w177) (fun _ h9 => h9) rfl (tyX12_ok 0 (by decide)) rfl rfl (Nat.le_of_ble_eq_true rfl) dX12_carry_2 ?_
  clear hP hD hS
  clear H locs
  intro H locs (hP : va_P G vwCl [(a_0, .inr (12, [.int 0, .ref a_1, .ref a_2, .ref a_3, .ref a_4, .ref a_5, .int k_0, .int k_1, .int k_2, .int k_3, .int k_4, .long k_5, .int k_6, .int k_7, .int k_8, .int k_9, .ref a_6, .ref a_7, .ref a_8, .ref a_9, .ref a_10, .ref a_11, .ref a_12, .ref a_13, .ref a_14, .ref a_15, .ref a_16, .ref a_17, .ref a_18, .int k_10, .int k_11, .int k_12, .int k_13, .int k_14, .int k_15, .ref a_19, .int k_16, .ref a_20])), (a_7, .inl (cy 1, 30, .inl (fun _ => 0)))] H) (hD : va_D A [(a_0, .inr (12, [.int 0, .ref a_1, .ref a_2, .ref a_3, .ref a_4, .ref a_5, .int k_0, .int k_1, .int k_2, .int k_3, .int k_4, .long k_5, .int k_6, .int k_7, .int k_8, .int k_9, .ref a_6, .ref a_7, .ref a_8, .ref a_9, .ref a_10, .ref a_11, .ref a_12, .ref a_13, .ref a_14, .ref a_15, .ref a_16, .ref a_17, .ref a_18, .int k_10, .int k_11, .int k_12, .int k_13, .int k_14, .int k_15, .ref a_19, .int k_16, .ref a_20])), (a_7, .inl (cy 1, 30, .inl (fun _ => 0)))]) hS
  refine lv_aload_n hx hb dX12_carry_5 rfl (lv_at hl 0 rfl) ?_
  refine lv_iload_n hx hb dX12_carry_6 rfl (lv_at hl 1 rfl) ?_
  refine lv_iload_n hx hb dX12_carry_7 rfl (lv_at hl 2 rfl) ?_
  refine mm_finir (va_runV (As := [.int i_0, .int i_1]) (rest := []) ⟨hx, hb, hml, hown, hts⟩ (K131_X12_isThen l G cy H.size a_0 i_0 i_1 0 a_1 a_2 a_3 a_4 a_5 k_0 k_1 k_2 k_3 k_4 k_5 k_6 k_7 k_8 k_9 a_6 a_7 a_8 a_9 a_10 a_11 a_12 a_13 a_14 a_15 a_16 a_17 a_18 k_10 k_11 k_12 k_13 k_14 k_15 a_19 k_16 a_20 ) (cwV 2 hts (mm_gV mm_w678 mm_w679 mm_w680 mm_w5 mm_w681) rfl rfl rfl hd_X12_isThen ⟨by rw [hRf]; exact Nat.le_of_ble_eq_true rfl, by rw [hRl]; exact Nat.le_of_ble_eq_true rfl⟩) (mm_preV hK hP hD [0, 1] rfl rfl 0 rfl rfl rfl) rfl rfl hl.1 rfl (lv_room (Nat.le_of_ble_eq_true rfl)) dX12_carry_8 ⟨by rw [hRc]; exact Nat.le_of_ble_eq_true rfl, by rw [hRs]; exact Nat.le_of_ble_eq_true rfl⟩) hP hD hS hA [0, 1] rfl (fun _ => rfl) ?_
  clear hP hD hS
  clear H locs
  intro v1 _u H locs hw hP hD hS
  subst hw
  refine lv_if_eq (tgt := 33) hx hb dX12_carry_11 (by decide) (fun c2 => ?_) (fun c2 => ?_)
  · refine lv_bipush (v := (-2)) hx hb dX12_carry_33 (by decide) ?_
    subst hAe
    rw [hQ]
    exact W.iret (v := (-2)) hx hb hr (fun t ht hW => ⟨⟨(-2), (), rfl, rfl, by rw [ht]; exact hP, hK.warm hW, hD⟩, hS.F ht⟩) hS.2.2 dX12_carry_35
  · have q3 := mm_neL (lo := 1) (mm_ne c2) mm_k0 mm_k0 (by decide) (by decide)
    exact mm_no q3 (by decide)

set_option maxHeartbeats 4000000 in
set_option maxRecDepth 100000 in
theorem K204_X11_carried (l : Launch) (G : va_G) (cy : Nat → ClassId) (sz : Nat) (a_0 : Nat) (i_0 : Int32) (i_1 : Int32) (i_2 : Int32) (i_3 : Int32) (i_4 : Int32) (a_1 : Nat) (a_2 : Nat) (a_3 : Nat) (a_4 : Nat) (a_5 : Nat) (a_6 : Nat) (a_7 : Nat) (a_8 : Nat) (a_9 : Nat) (a_10 : Nat) (a_11 : Nat) (a_24 : Nat) (a_25 : Nat) (k_0 : Int32) (k_1 : Int32) (k_2 : Int32) (k_3 : Int32) (k_4 : Int32) (k_5 : Int32) (k_6 : Int32) (a_26 : Nat) (a_27 : Nat) (a_28 : Nat) (a_29 : Nat) (a_30 : Nat) (a_31 : Nat) (a_32 : Nat) (a_33 : Nat) (a_34 : Nat) (a_35 : Nat)   : mm_CI l yX11_carried (mm_ws yX11_carried cX11_carried 6 (some .int)) ({ frames := 2, cells := 0, slots := 0, locals := 44 } : Room) G cy sz [(a_0, .inr (11, [.ref a_1, .ref a_2, .ref a_3, .ref a_4, .ref a_5, .ref a_6, .ref a_7, .ref a_8, .ref a_9, .ref a_10, .ref a_11])), (a_3, .inr (10, [.ref a_24, .ref a_25])), (a_24, .inr (0, [.int k_0, .int k_1, .int k_2, .int k_3, .int k_4, .int 0, .int k_5, .int k_6, .ref a_26, .ref a_27, .ref a_28, .ref a_29, .ref a_30, .ref a_31, .ref a_32, .ref a_33, .ref a_34, .ref a_35]))] [.ref a_0, .int i_0, .int i_1, .int i_2, .int i_3, .int i_4] (fun u : Unit => [(a_0, .inr (11, [.ref a_1, .ref a_2, .ref a_3, .ref a_4, .ref a_5, .ref a_6, .ref a_7, .ref a_8, .ref a_9, .ref a_10, .ref a_11])), (a_3, .inr (10, [.ref a_24, .ref a_25])), (a_24, .inr (0, [.int k_0, .int k_1, .int k_2, .int k_3, .int k_4, .int 0, .int k_5, .int k_6, .ref a_26, .ref a_27, .ref a_28, .ref a_29, .ref a_30, .ref a_31, .ref a_32, .ref a_33, .ref a_34, .ref a_35]))]) (fun (r : Int32) (u : Unit) => (-2) = r) 0 0 := by
  refine mm_begin (lv := [(0, .ref a_0), (1, .int i_0), (2, .int i_1), (3, .int i_2), (4, .int i_3), (5, .int i_4)]) (by decide) (Nat.le_of_ble_eq_true rfl) rfl ?_
  intro p e s m below meth c A ls R args Q H locs hRe hQ hAe hx hb hr hlocks hml hown hnm hts hsz hA hS hP hK hD hl
  have hRf : R.frames = 2 := by rw [hRe]
  have hRl : R.locals = 44 := by rw [hRe]
  have hRc : R.cells = 0 := by rw [hRe]
  have hRs : R.slots = 0 := by rw [hRe]
  refine lv_aload_n hx hb dX11_carried_0 rfl (lv_at hl 0 rfl) ?_
  refine lv_iload_n hx hb dX11_carried_1 rfl (lv_at hl 1 rfl) ?_
  refine lv_iload_n hx hb dX11_carried_2 rfl (lv_at hl 2 rfl) ?_
  refine lv_iload_n hx hb dX11_carried_3 rfl (lv_at hl 3 rfl) ?_
  refine mm_finir (va_runV (As := [.int i_0, .int i_1, .int i_2]) (rest := []) ⟨hx, hb, hml, hown, hts⟩ (K150_X11_isReading l G cy H.size a_0 i_0 i_1 i_2 a_1 a_2 a_3 a_4 a_5 a_6 a_7 a_8 a_9 a_10 a_11 a_24 a_25 k_0 k_1 k_2 k_3 k_4 k_5 k_6 a_26 a_27 a_28 a_29 a_30 a_31 a_32 a_33 a_34 a_35 ) (cwV 3 hts (mm_gV mm_w825 mm_w826 mm_w827 mm_w2 mm_w828) rfl rfl rfl hd_X11_isReading ⟨by rw [hRf]; exact Nat.le_of_ble_eq_true rfl, by rw [hRl]; exact Nat.le_of_ble_eq_true rfl⟩) (mm_preV hK hP hD [0, 1, 2] rfl rfl 0 rfl rfl rfl) rfl rfl hl.1 rfl (lv_room (Nat.le_of_ble_eq_true rfl)) dX11_carried_4 ⟨by rw [hRc]; exact Nat.le_of_ble_eq_true rfl, by rw [hRs]; exact Nat.le_of_ble_eq_true rfl⟩) hP hD hS hA [0, 1, 2] rfl (fun _ => rfl) ?_
  clear hP hD hS
  clear H locs
  intro v1 _u H locs hw hP hD hS
  subst hw
  refine lv_if_eq (tgt := 27) hx hb dX11_carried_7 (by decide) (fun c2 => ?_) (fun c2 => ?_)
  · refine lv_bipush (v := (-2)) hx hb dX11_carried_27 (by decide) ?_
    subst hAe
    rw [hQ]
    exact W.iret (v := (-2)) hx hb hr (fun t ht hW => ⟨⟨(-2), (), rfl, rfl, by rw [ht]; exact hP, hK.warm hW, hD⟩, hS.F ht⟩) hS.2.2 dX11_carried_29
  · have q3 := mm_neL (lo := 1) (mm_ne c2) mm_k0 mm_k0 (by decide) (by decide)
    exact mm_no q3 (by decide)

set_option maxHeartbeats 4000000 in
set_option maxRecDepth 100000 in
theorem K205_X12_carried (l : Launch) (G : va_G) (cy : Nat → ClassId) (sz : Nat) (a_0 : Nat) (i_0 : Int32) (i_1 : Int32) (i_2 : Int32) (i_3 : Int32) (i_4 : Int32) (a_1 : Nat) (a_2 : Nat) (a_3 : Nat) (a_4 : Nat) (a_5 : Nat) (k_0 : Int32) (k_1 : Int32) (k_2 : Int32) (k_3 : Int32) (k_4 : Int32) (k_5 : Int64) (k_6 : Int32) (k_7 : Int32) (k_8 : Int32) (k_9 : Int32) (a_6 : Nat) (a_7 : Nat) (a_8 : Nat) (a_9 : Nat) (a_10 : Nat) (a_11 : Nat) (a_12 : Nat) (a_13 : Nat) (a_14 : Nat) (a_15 : Nat) (a_16 : Nat) (a_17 : Nat) (a_18 : Nat) (k_10 : Int32) (k_11 : Int32) (k_12 : Int32) (k_13 : Int32) (k_14 : Int32) (k_15 : Int32) (a_19 : Nat) (k_16 : Int32) (a_20 : Nat)   : mm_CI l yX12_carried (mm_ws yX12_carried cX12_carried 7 (some .int)) ({ frames := 3, cells := 0, slots := 0, locals := 68 } : Room) G cy sz [(a_0, .inr (12, [.int 0, .ref a_1, .ref a_2, .ref a_3, .ref a_4, .ref a_5, .int k_0, .int k_1, .int k_2, .int k_3, .int k_4, .long k_5, .int k_6, .int k_7, .int k_8, .int k_9, .ref a_6, .ref a_7, .ref a_8, .ref a_9, .ref a_10, .ref a_11, .ref a_12, .ref a_13, .ref a_14, .ref a_15, .ref a_16, .ref a_17, .ref a_18, .int k_10, .int k_11, .int k_12, .int k_13, .int k_14, .int k_15, .ref a_19, .int k_16, .ref a_20])), (a_7, .inl (cy 1, 30, .inl (fun _ => 0)))] [.ref a_0, .int i_0, .int i_1, .int i_2, .int i_3, .int i_4] (fun u : Unit => [(a_0, .inr (12, [.int 0, .ref a_1, .ref a_2, .ref a_3, .ref a_4, .ref a_5, .int k_0, .int k_1, .int k_2, .int k_3, .int k_4, .long k_5, .int k_6, .int k_7, .int k_8, .int k_9, .ref a_6, .ref a_7, .ref a_8, .ref a_9, .ref a_10, .ref a_11, .ref a_12, .ref a_13, .ref a_14, .ref a_15, .ref a_16, .ref a_17, .ref a_18, .int k_10, .int k_11, .int k_12, .int k_13, .int k_14, .int k_15, .ref a_19, .int k_16, .ref a_20])), (a_7, .inl (cy 1, 30, .inl (fun _ => 0)))]) (fun (r : Int32) (u : Unit) => (-2) = r) 0 0 := by
  refine mm_begin (lv := [(0, .ref a_0), (1, .int i_0), (2, .int i_1), (3, .int i_2), (4, .int i_3), (5, .int i_4)]) (by decide) (Nat.le_of_ble_eq_true rfl) rfl ?_
  intro p e s m below meth c A ls R args Q H locs hRe hQ hAe hx hb hr hlocks hml hown hnm hts hsz hA hS hP hK hD hl
  have hRf : R.frames = 3 := by rw [hRe]
  have hRl : R.locals = 68 := by rw [hRe]
  have hRc : R.cells = 0 := by rw [hRe]
  have hRs : R.slots = 0 := by rw [hRe]
  refine lv_aload_n hx hb dX12_carried_0 rfl (lv_at hl 0 rfl) ?_
  refine lv_iconst (v := 0) hx hb dX12_carried_1 (by decide) ?_
  refine va_put (D := G) (ci := 12) (v := .int 0) (ty := tyX12 0) (C := RX12) (T := TX12) (N := 38) hx hb hts (mm_i inlX12) tyX12 tyX12_ok nmX12 hown hK.1 hP hD hS 0 rfl rfl 0 (by decide) (mm_h hts mm_w177) (fun _ h9 => h9) rfl (tyX12_ok 0 (by decide)) rfl rfl (Nat.le_of_ble_eq_true rfl) dX12_carried_2 ?_
  clear hP hD hS
  clear H locs
  intro H locs (hP : va_P G vwCl [(a_0, .inr (12, [.int 0, .ref a_1, .ref a_2, .ref a_3, .ref a_4, .ref a_5, .int k_0, .int k_1, .int k_2, .int k_3, .int k_4, .long k_5, .int k_6, .int k_7, .int k_8, .int k_9, .ref a_6, .ref a_7, .ref a_8, .ref a_9, .ref a_10, .ref a_11, .ref a_12, .ref a_13, .ref a_14, .ref a_15, .ref a_16, .ref a_17, .ref a_18, .int k_10, .int k_11, .int k_12, .int k_13, .int k_14, .int k_15, .ref a_19, .int k_16, .ref a_20])), (a_7, .inl (cy 1, 30, .inl (fun _ => 0)))] H) (hD : va_D A [(a_0, .inr (12, [.int 0, .ref a_1, .ref a_2, .ref a_3, .ref a_4, .ref a_5, .int k_0, .int k_1, .int k_2, .int k_3, .int k_4, .long k_5, .int k_6, .int k_7, .int k_8, .int k_9, .ref a_6, .ref a_7, .ref a_8, .ref a_9, .ref a_10, .ref a_11, .ref a_12, .ref a_13, .ref a_14, .ref a_15, .ref a_16, .ref a_17, .ref a_18, .int k_10, .int k_11, .int k_12, .int k_13, .int k_14, .int k_15, .ref a_19, .int k_16, .ref a_20])), (a_7, .inl (cy 1, 30, .inl (fun _ => 0)))]) hS
  refine lv_aload_n hx hb dX12_carried_5 rfl (lv_at hl 0 rfl) ?_
  refine lv_iload_n hx hb dX12_carried_6 rfl (lv_at hl 1 rfl) ?_
  refine lv_iload_n hx hb dX12_carried_7 rfl (lv_at hl 2 rfl) ?_
  refine mm_finir (va_runV (As := [.int i_0, .int i_1]) (rest := []) ⟨hx, hb, hml, hown, hts⟩ (K131_X12_isThen l G cy H.size a_0 i_0 i_1 0 a_1 a_2 a_3 a_4 a_5 k_0 k_1 k_2 k_3 k_4 k_5 k_6 k_7 k_8 k_9 a_6 a_7 a_8 a_9 a_10 a_11 a_12 a_13 a_14 a_15 a_16 a_17 a_18 k_10 k_11 k_12 k_13 k_14 k_15 a_19 k_16 a_20 ) (cwV 2 hts (mm_gV mm_w678 mm_w679 mm_w680 mm_w5 mm_w681) rfl rfl rfl hd_X12_isThen ⟨by rw [hRf]; exact Nat.le_of_ble_eq_true rfl, by rw [hRl]; exact Nat.le_of_ble_eq_true rfl⟩) (mm_preV hK hP hD [0, 1] rfl rfl 0 rfl rfl rfl) rfl rfl hl.1 rfl (lv_room (Nat.le_of_ble_eq_true rfl)) dX12_carried_8 ⟨by rw [hRc]; exact Nat.le_of_ble_eq_true rfl, by rw [hRs]; exact Nat.le_of_ble_eq_true rfl⟩) hP hD hS hA [0, 1] rfl (fun _ => rfl) ?_
  clear hP hD hS
  clear H locs
  intro v1 _u H locs hw hP hD hS
  subst hw
  refine lv_if_eq (tgt := 34) hx hb dX12_carried_11 (by decide) (fun c2 => ?_) (fun c2 => ?_)
  · refine lv_bipush (v := (-2)) hx hb dX12_carried_34 (by decide) ?_
    subst hAe
    rw [hQ]
    exact W.iret (v := (-2)) hx hb hr (fun t ht hW => ⟨⟨(-2), (), rfl, rfl, by rw [ht]; exact hP, hK.warm hW, hD⟩, hS.F ht⟩) hS.2.2 dX12_carried_36
  · have q3 := mm_neL (lo := 1) (mm_ne c2) mm_k0 mm_k0 (by decide) (by decide)
    exact mm_no q3 (by decide)

set_option maxHeartbeats 4000000 in
set_option maxRecDepth 100000 in
theorem K206_X11_differ (l : Launch) (G : va_G) (cy : Nat → ClassId) (sz : Nat) (a_0 : Nat) (i_0 : Int32) (i_1 : Int32) (a_1 : Nat) (a_2 : Nat) (a_3 : Nat) (a_4 : Nat) (a_5 : Nat) (a_6 : Nat) (a_7 : Nat) (a_8 : Nat) (a_9 : Nat) (a_10 : Nat) (a_11 : Nat) (a_24 : Nat) (a_25 : Nat) (k_0 : Int32) (k_1 : Int32) (k_2 : Int32) (k_3 : Int32) (k_4 : Int32) (k_5 : Int32) (k_6 : Int32) (a_26 : Nat) (a_27 : Nat) (a_28 : Nat) (a_29 : Nat) (a_30 : Nat) (a_31 : Nat) (a_32 : Nat) (a_33 : Nat) (a_34 : Nat) (a_35 : Nat)   : mm_CI l yX11_differ (mm_ws yX11_differ cX11_differ 3 (some .int)) ({ frames := 1, cells := 0, slots := 0, locals := 21 } : Room) G cy sz [(a_0, .inr (11, [.ref a_1, .ref a_2, .ref a_3, .ref a_4, .ref a_5, .ref a_6, .ref a_7, .ref a_8, .ref a_9, .ref a_10, .ref a_11])), (a_3, .inr (10, [.ref a_24, .ref a_25])), (a_24, .inr (0, [.int k_0, .int k_1, .int k_2, .int k_3, .int k_4, .int 0, .int k_5, .int k_6, .ref a_26, .ref a_27, .ref a_28, .ref a_29, .ref a_30, .ref a_31, .ref a_32, .ref a_33, .ref a_34, .ref a_35]))] [.ref a_0, .int i_0, .int i_1] (fun u : Unit => [(a_0, .inr (11, [.ref a_1, .ref a_2, .ref a_3, .ref a_4, .ref a_5, .ref a_6, .ref a_7, .ref a_8, .ref a_9, .ref a_10, .ref a_11])), (a_3, .inr (10, [.ref a_24, .ref a_25])), (a_24, .inr (0, [.int k_0, .int k_1, .int k_2, .int k_3, .int k_4, .int 0, .int k_5, .int k_6, .ref a_26, .ref a_27, .ref a_28, .ref a_29, .ref a_30, .ref a_31, .ref a_32, .ref a_33, .ref a_34, .ref a_35]))]) (fun (r : Int32) (u : Unit) => (-2) = r) 0 0 := by
  refine mm_begin (lv := [(0, .ref a_0), (1, .int i_0), (2, .int i_1)]) (by decide) (Nat.le_of_ble_eq_true rfl) rfl ?_
  intro p e s m below meth c A ls R args Q H locs hRe hQ hAe hx hb hr hlocks hml hown hnm hts hsz hA hS hP hK hD hl
  have hRf : R.frames = 1 := by rw [hRe]
  have hRl : R.locals = 21 := by rw [hRe]
  have hRc : R.cells = 0 := by rw [hRe]
  have hRs : R.slots = 0 := by rw [hRe]
  refine lv_aload_n hx hb dX11_differ_0 rfl (lv_at hl 0 rfl) ?_
  refine lv_iload_n hx hb dX11_differ_1 rfl (lv_at hl 1 rfl) ?_
  refine mm_finir (va_runV (As := [.int i_0]) (rest := []) ⟨hx, hb, hml, hown, hts⟩ (K123_X11_isLand l G cy H.size a_0 i_0 a_1 a_2 a_3 a_4 a_5 a_6 a_7 a_8 a_9 a_10 a_11 a_24 a_25 k_0 k_1 k_2 k_3 k_4 k_5 k_6 a_26 a_27 a_28 a_29 a_30 a_31 a_32 a_33 a_34 a_35 ) (cwV 1 hts (mm_gV mm_w626 mm_w627 mm_w628 mm_w2 mm_w629) rfl rfl rfl hd_X11_isLand ⟨by rw [hRf]; exact Nat.le_of_ble_eq_true rfl, by rw [hRl]; exact Nat.le_of_ble_eq_true rfl⟩) (mm_preV hK hP hD [0, 1, 2] rfl rfl 0 rfl rfl rfl) rfl rfl hl.1 rfl (lv_room (Nat.le_of_ble_eq_true rfl)) dX11_differ_2 ⟨by rw [hRc]; exact Nat.le_of_ble_eq_true rfl, by rw [hRs]; exact Nat.le_of_ble_eq_true rfl⟩) hP hD hS hA [0, 1, 2] rfl (fun _ => rfl) ?_
  clear hP hD hS
  clear H locs
  intro v1 _u H locs hw hP hD hS
  subst hw
  refine lv_if_eq (tgt := 16) hx hb dX11_differ_5 (by decide) (fun c2 => ?_) (fun c2 => ?_)
  · refine lv_bipush (v := (-2)) hx hb dX11_differ_16 (by decide) ?_
    subst hAe
    rw [hQ]
    exact W.iret (v := (-2)) hx hb hr (fun t ht hW => ⟨⟨(-2), (), rfl, rfl, by rw [ht]; exact hP, hK.warm hW, hD⟩, hS.F ht⟩) hS.2.2 dX11_differ_18
  · have q3 := mm_neL (lo := 1) (mm_ne c2) mm_k0 mm_k0 (by decide) (by decide)
    exact mm_no q3 (by decide)

set_option maxHeartbeats 4000000 in
set_option maxRecDepth 100000 in
theorem K207_X12_differ (l : Launch) (G : va_G) (cy : Nat → ClassId) (sz : Nat) (a_0 : Nat) (i_0 : Int32) (i_1 : Int32) (a_1 : Nat) (a_2 : Nat) (a_3 : Nat) (a_4 : Nat) (a_5 : Nat) (k_0 : Int32) (k_1 : Int32) (k_2 : Int32) (k_3 : Int32) (k_4 : Int32) (k_5 : Int64) (k_6 : Int32) (k_7 : Int32) (k_8 : Int32) (k_9 : Int32) (a_6 : Nat) (a_7 : Nat) (a_8 : Nat) (a_9 : Nat) (a_10 : Nat) (a_11 : Nat) (a_12 : Nat) (a_13 : Nat) (a_14 : Nat) (a_15 : Nat) (a_16 : Nat) (a_17 : Nat) (a_18 : Nat) (k_10 : Int32) (k_11 : Int32) (k_12 : Int32) (k_13 : Int32) (k_14 : Int32) (k_15 : Int32) (a_19 : Nat) (k_16 : Int32) (a_20 : Nat)   : mm_CI l yX12_differ (mm_ws yX12_differ cX12_differ 3 (some .int)) ({ frames := 2, cells := 0, slots := 0, locals := 46 } : Room) G cy sz [(a_0, .inr (12, [.int 0, .ref a_1, .ref a_2, .ref a_3, .ref a_4, .ref a_5, .int k_0, .int k_1, .int k_2, .int k_3, .int k_4, .long k_5, .int k_6, .int k_7, .int k_8, .int k_9, .ref a_6, .ref a_7, .ref a_8, .ref a_9, .ref a_10, .ref a_11, .ref a_12, .ref a_13, .ref a_14, .ref a_15, .ref a_16, .ref a_17, .ref a_18, .int k_10, .int k_11, .int k_12, .int k_13, .int k_14, .int k_15, .ref a_19, .int k_16, .ref a_20])), (a_7, .inl (cy 1, 30, .inl (fun _ => 0)))] [.ref a_0, .int i_0, .int i_1] (fun u : Unit => [(a_0, .inr (12, [.int 0, .ref a_1, .ref a_2, .ref a_3, .ref a_4, .ref a_5, .int k_0, .int k_1, .int k_2, .int k_3, .int k_4, .long k_5, .int k_6, .int k_7, .int k_8, .int k_9, .ref a_6, .ref a_7, .ref a_8, .ref a_9, .ref a_10, .ref a_11, .ref a_12, .ref a_13, .ref a_14, .ref a_15, .ref a_16, .ref a_17, .ref a_18, .int k_10, .int k_11, .int k_12, .int k_13, .int k_14, .int k_15, .ref a_19, .int k_16, .ref a_20])), (a_7, .inl (cy 1, 30, .inl (fun _ => 0)))]) (fun (r : Int32) (u : Unit) => (-2) = r) 0 0 := by
  refine mm_begin (lv := [(0, .ref a_0), (1, .int i_0), (2, .int i_1)]) (by decide) (Nat.le_of_ble_eq_true rfl) rfl ?_
  intro p e s m below meth c A ls R args Q H locs hRe hQ hAe hx hb hr hlocks hml hown hnm hts hsz hA hS hP hK hD hl
  have hRf : R.frames = 2 := by rw [hRe]
  have hRl : R.locals = 46 := by rw [hRe]
  have hRc : R.cells = 0 := by rw [hRe]
  have hRs : R.slots = 0 := by rw [hRe]
  refine lv_aload_n hx hb dX12_differ_0 rfl (lv_at hl 0 rfl) ?_
  refine lv_iconst (v := 0) hx hb dX12_differ_1 (by decide) ?_
  refine va_put (D := G) (ci := 12) (v := .int 0) (ty := tyX12 0) (C := RX12) (T := TX12) (N := 38) hx hb hts (mm_i inlX12) tyX12 tyX12_ok nmX12 hown hK.1 hP hD hS 0 rfl rfl 0 (by decide) (mm_h hts mm_w177) (fun _ h9 => h9) rfl (tyX12_ok 0 (by decide)) rfl rfl (Nat.le_of_ble_eq_true rfl) dX12_differ_2 ?_
  clear hP hD hS
  clear H locs
  intro H locs (hP : va_P G vwCl [(a_0, .inr (12, [.int 0, .ref a_1, .ref a_2, .ref a_3, .ref a_4, .ref a_5, .int k_0, .int k_1, .int k_2, .int k_3, .int k_4, .long k_5, .int k_6, .int k_7, .int k_8, .int k_9, .ref a_6, .ref a_7, .ref a_8, .ref a_9, .ref a_10, .ref a_11, .ref a_12, .ref a_13, .ref a_14, .ref a_15, .ref a_16, .ref a_17, .ref a_18, .int k_10, .int k_11, .int k_12, .int k_13, .int k_14, .int k_15, .ref a_19, .int k_16, .ref a_20])), (a_7, .inl (cy 1, 30, .inl (fun _ => 0)))] H) (hD : va_D A [(a_0, .inr (12, [.int 0, .ref a_1, .ref a_2, .ref a_3, .ref a_4, .ref a_5, .int k_0, .int k_1, .int k_2, .int k_3, .int k_4, .long k_5, .int k_6, .int k_7, .int k_8, .int k_9, .ref a_6, .ref a_7, .ref a_8, .ref a_9, .ref a_10, .ref a_11, .ref a_12, .ref a_13, .ref a_14, .ref a_15, .ref a_16, .ref a_17, .ref a_18, .int k_10, .int k_11, .int k_12, .int k_13, .int k_14, .int k_15, .ref a_19, .int k_16, .ref a_20])), (a_7, .inl (cy 1, 30, .inl (fun _ => 0)))]) hS
  refine lv_aload_n hx hb dX12_differ_5 rfl (lv_at hl 0 rfl) ?_
  refine lv_iload_n hx hb dX12_differ_6 rfl (lv_at hl 1 rfl) ?_
  refine mm_finir (va_runV (As := [.int i_0]) (rest := []) ⟨hx, hb, hml, hown, hts⟩ (K126_X12_isLand l G cy H.size a_0 i_0 0 a_1 a_2 a_3 a_4 a_5 k_0 k_1 k_2 k_3 k_4 k_5 k_6 k_7 k_8 k_9 a_6 a_7 a_8 a_9 a_10 a_11 a_12 a_13 a_14 a_15 a_16 a_17 a_18 k_10 k_11 k_12 k_13 k_14 k_15 a_19 k_16 a_20 ) (cwV 1 hts (mm_gV mm_w641 mm_w642 mm_w643 mm_w5 mm_w644) rfl rfl rfl hd_X12_isLand ⟨by rw [hRf]; exact Nat.le_of_ble_eq_true rfl, by rw [hRl]; exact Nat.le_of_ble_eq_true rfl⟩) (mm_preV hK hP hD [0, 1] rfl rfl 0 rfl rfl rfl) rfl rfl hl.1 rfl (lv_room (Nat.le_of_ble_eq_true rfl)) dX12_differ_7 ⟨by rw [hRc]; exact Nat.le_of_ble_eq_true rfl, by rw [hRs]; exact Nat.le_of_ble_eq_true rfl⟩) hP hD hS hA [0, 1] rfl (fun _ => rfl) ?_
  clear hP hD hS
  clear H locs
  intro v1 _u H locs hw hP hD hS
  subst hw
  refine lv_if_eq (tgt := 30) hx hb dX12_differ_10 (by decide) (fun c2 => ?_) (fun c2 => ?_)
  · refine lv_bipush (v := (-2)) hx hb dX12_differ_30 (by decide) ?_
    subst hAe
    rw [hQ]
    exact W.iret (v := (-2)) hx hb hr (fun t ht hW => ⟨⟨(-2), (), rfl, rfl, by rw [ht]; exact hP, hK.warm hW, hD⟩, hS.F ht⟩) hS.2.2 dX12_differ_32
  · have q3 := mm_neL (lo := 1) (mm_ne c2) mm_k0 mm_k0 (by decide) (by decide)
    exact mm_no q3 (by decide)

set_option maxHeartbeats 4000000 in
set_option maxRecDepth 100000 in
theorem K208_X11_differs (l : Launch) (G : va_G) (cy : Nat → ClassId) (sz : Nat) (a_0 : Nat) (i_0 : Int32) (i_1 : Int32) (a_1 : Nat) (a_2 : Nat) (a_3 : Nat) (a_4 : Nat) (a_5 : Nat) (a_6 : Nat) (a_7 : Nat) (a_8 : Nat) (a_9 : Nat) (a_10 : Nat) (a_11 : Nat) (a_24 : Nat) (a_25 : Nat) (k_0 : Int32) (k_1 : Int32) (k_2 : Int32) (k_3 : Int32) (k_4 : Int32) (k_5 : Int32) (k_6 : Int32) (a_26 : Nat) (a_27 : Nat) (a_28 : Nat) (a_29 : Nat) (a_30 : Nat) (a_31 : Nat) (a_32 : Nat) (a_33 : Nat) (a_34 : Nat) (a_35 : Nat)   : mm_CI l yX11_differs (mm_ws yX11_differs cX11_differs 4 (some .int)) ({ frames := 1, cells := 0, slots := 0, locals := 21 } : Room) G cy sz [(a_0, .inr (11, [.ref a_1, .ref a_2, .ref a_3, .ref a_4, .ref a_5, .ref a_6, .ref a_7, .ref a_8, .ref a_9, .ref a_10, .ref a_11])), (a_3, .inr (10, [.ref a_24, .ref a_25])), (a_24, .inr (0, [.int k_0, .int k_1, .int k_2, .int k_3, .int k_4, .int 0, .int k_5, .int k_6, .ref a_26, .ref a_27, .ref a_28, .ref a_29, .ref a_30, .ref a_31, .ref a_32, .ref a_33, .ref a_34, .ref a_35]))] [.ref a_0, .int i_0, .int i_1] (fun u : Unit => [(a_0, .inr (11, [.ref a_1, .ref a_2, .ref a_3, .ref a_4, .ref a_5, .ref a_6, .ref a_7, .ref a_8, .ref a_9, .ref a_10, .ref a_11])), (a_3, .inr (10, [.ref a_24, .ref a_25])), (a_24, .inr (0, [.int k_0, .int k_1, .int k_2, .int k_3, .int k_4, .int 0, .int k_5, .int k_6, .ref a_26, .ref a_27, .ref a_28, .ref a_29, .ref a_30, .ref a_31, .ref a_32, .ref a_33, .ref a_34, .ref a_35]))]) (fun (r : Int32) (u : Unit) => (-2) = r) 0 0 := by
  refine mm_begin (lv := [(0, .ref a_0), (1, .int i_0), (2, .int i_1)]) (by decide) (Nat.le_of_ble_eq_true rfl) rfl ?_
  intro p e s m below meth c A ls R args Q H locs hRe hQ hAe hx hb hr hlocks hml hown hnm hts hsz hA hS hP hK hD hl
  have hRf : R.frames = 1 := by rw [hRe]
  have hRl : R.locals = 21 := by rw [hRe]
  have hRc : R.cells = 0 := by rw [hRe]
  have hRs : R.slots = 0 := by rw [hRe]
  refine lv_aload_n hx hb dX11_differs_0 rfl (lv_at hl 0 rfl) ?_
  refine lv_iload_n hx hb dX11_differs_1 rfl (lv_at hl 1 rfl) ?_
  refine mm_finir (va_runV (As := [.int i_0]) (rest := []) ⟨hx, hb, hml, hown, hts⟩ (K123_X11_isLand l G cy H.size a_0 i_0 a_1 a_2 a_3 a_4 a_5 a_6 a_7 a_8 a_9 a_10 a_11 a_24 a_25 k_0 k_1 k_2 k_3 k_4 k_5 k_6 a_26 a_27 a_28 a_29 a_30 a_31 a_32 a_33 a_34 a_35 ) (cwV 1 hts (mm_gV mm_w626 mm_w627 mm_w628 mm_w2 mm_w629) rfl rfl rfl hd_X11_isLand ⟨by rw [hRf]; exact Nat.le_of_ble_eq_true rfl, by rw [hRl]; exact Nat.le_of_ble_eq_true rfl⟩) (mm_preV hK hP hD [0, 1, 2] rfl rfl 0 rfl rfl rfl) rfl rfl hl.1 rfl (lv_room (Nat.le_of_ble_eq_true rfl)) dX11_differs_2 ⟨by rw [hRc]; exact Nat.le_of_ble_eq_true rfl, by rw [hRs]; exact Nat.le_of_ble_eq_true rfl⟩) hP hD hS hA [0, 1, 2] rfl (fun _ => rfl) ?_
  clear hP hD hS
  clear H locs
  intro v1 _u H locs hw hP hD hS
  subst hw
  refine lv_if_eq (tgt := 16) hx hb dX11_differs_5 (by decide) (fun c2 => ?_) (fun c2 => ?_)
  · refine lv_bipush (v := (-2)) hx hb dX11_differs_16 (by decide) ?_
    subst hAe
    rw [hQ]
    exact W.iret (v := (-2)) hx hb hr (fun t ht hW => ⟨⟨(-2), (), rfl, rfl, by rw [ht]; exact hP, hK.warm hW, hD⟩, hS.F ht⟩) hS.2.2 dX11_differs_18
  · have q3 := mm_neL (lo := 1) (mm_ne c2) mm_k0 mm_k0 (by decide) (by decide)
    exact mm_no q3 (by decide)

set_option maxHeartbeats 4000000 in
set_option maxRecDepth 100000 in
theorem K209_X12_differs (l : Launch) (G : va_G) (cy : Nat → ClassId) (sz : Nat) (a_0 : Nat) (i_0 : Int32) (i_1 : Int32) (a_1 : Nat) (a_2 : Nat) (a_3 : Nat) (a_4 : Nat) (a_5 : Nat) (k_0 : Int32) (k_1 : Int32) (k_2 : Int32) (k_3 : Int32) (k_4 : Int32) (k_5 : Int64) (k_6 : Int32) (k_7 : Int32) (k_8 : Int32) (k_9 : Int32) (a_6 : Nat) (a_7 : Nat) (a_8 : Nat) (a_9 : Nat) (a_10 : Nat) (a_11 : Nat) (a_12 : Nat) (a_13 : Nat) (a_14 : Nat) (a_15 : Nat) (a_16 : Nat) (a_17 : Nat) (a_18 : Nat) (k_10 : Int32) (k_11 : Int32) (k_12 : Int32) (k_13 : Int32) (k_14 : Int32) (k_15 : Int32) (a_19 : Nat) (k_16 : Int32) (a_20 : Nat)   : mm_CI l yX12_differs (mm_ws yX12_differs cX12_differs 5 (some .int)) ({ frames := 2, cells := 0, slots := 0, locals := 46 } : Room) G cy sz [(a_0, .inr (12, [.int 0, .ref a_1, .ref a_2, .ref a_3, .ref a_4, .ref a_5, .int k_0, .int k_1, .int k_2, .int k_3, .int k_4, .long k_5, .int k_6, .int k_7, .int k_8, .int k_9, .ref a_6, .ref a_7, .ref a_8, .ref a_9, .ref a_10, .ref a_11, .ref a_12, .ref a_13, .ref a_14, .ref a_15, .ref a_16, .ref a_17, .ref a_18, .int k_10, .int k_11, .int k_12, .int k_13, .int k_14, .int k_15, .ref a_19, .int k_16, .ref a_20])), (a_7, .inl (cy 1, 30, .inl (fun _ => 0)))] [.ref a_0, .int i_0, .int i_1] (fun u : Unit => [(a_0, .inr (12, [.int 0, .ref a_1, .ref a_2, .ref a_3, .ref a_4, .ref a_5, .int k_0, .int k_1, .int k_2, .int k_3, .int k_4, .long k_5, .int k_6, .int k_7, .int k_8, .int k_9, .ref a_6, .ref a_7, .ref a_8, .ref a_9, .ref a_10, .ref a_11, .ref a_12, .ref a_13, .ref a_14, .ref a_15, .ref a_16, .ref a_17, .ref a_18, .int k_10, .int k_11, .int k_12, .int k_13, .int k_14, .int k_15, .ref a_19, .int k_16, .ref a_20])), (a_7, .inl (cy 1, 30, .inl (fun _ => 0)))]) (fun (r : Int32) (u : Unit) => (-2) = r) 0 0 := by
  refine mm_begin (lv := [(0, .ref a_0), (1, .int i_0), (2, .int i_1)]) (by decide) (Nat.le_of_ble_eq_true rfl) rfl ?_
  intro p e s m below meth c A ls R args Q H locs hRe hQ hAe hx hb hr hlocks hml hown hnm hts hsz hA hS hP hK hD hl
  have hRf : R.frames = 2 := by rw [hRe]
  have hRl : R.locals = 46 := by rw [hRe]
  have hRc : R.cells = 0 := by rw [hRe]
  have hRs : R.slots = 0 := by rw [hRe]
  refine lv_aload_n hx hb dX12_differs_0 rfl (lv_at hl 0 rfl) ?_
  refine lv_iconst (v := 0) hx hb dX12_differs_1 (by decide) ?_
  refine va_put (D := G) (ci := 12) (v := .int 0) (ty := tyX12 0) (C := RX12) (T := TX12) (N := 38) hx hb hts (mm_i inlX12) tyX12 tyX12_ok nmX12 hown hK.1 hP hD hS 0 rfl rfl 0 (by decide) (mm_h hts mm_w177) (fun _ h9 => h9) rfl (tyX12_ok 0 (by decide)) rfl rfl (Nat.le_of_ble_eq_true rfl) dX12_differs_2 ?_
  clear hP hD hS
  clear H locs
  intro H locs (hP : va_P G vwCl [(a_0, .inr (12, [.int 0, .ref a_1, .ref a_2, .ref a_3, .ref a_4, .ref a_5, .int k_0, .int k_1, .int k_2, .int k_3, .int k_4, .long k_5, .int k_6, .int k_7, .int k_8, .int k_9, .ref a_6, .ref a_7, .ref a_8, .ref a_9, .ref a_10, .ref a_11, .ref a_12, .ref a_13, .ref a_14, .ref a_15, .ref a_16, .ref a_17, .ref a_18, .int k_10, .int k_11, .int k_12, .int k_13, .int k_14, .int k_15, .ref a_19, .int k_16, .ref a_20])), (a_7, .inl (cy 1, 30, .inl (fun _ => 0)))] H) (hD : va_D A [(a_0, .inr (12, [.int 0, .ref a_1, .ref a_2, .ref a_3, .ref a_4, .ref a_5, .int k_0, .int k_1, .int k_2, .int k_3, .int k_4, .long k_5, .int k_6, .int k_7, .int k_8, .int k_9, .ref a_6, .ref a_7, .ref a_8, .ref a_9, .ref a_10, .ref a_11, .ref a_12, .ref a_13, .ref a_14, .ref a_15, .ref a_16, .ref a_17, .ref a_18, .int k_10, .int k_11, .int k_12, .int k_13, .int k_14, .int k_15, .ref a_19, .int k_16, .ref a_20])), (a_7, .inl (cy 1, 30, .inl (fun _ => 0)))]) hS
  refine lv_aload_n hx hb dX12_differs_5 rfl (lv_at hl 0 rfl) ?_
  refine lv_iload_n hx hb dX12_differs_6 rfl (lv_at hl 1 rfl) ?_
  refine mm_finir (va_runV (As := [.int i_0]) (rest := []) ⟨hx, hb, hml, hown, hts⟩ (K126_X12_isLand l G cy H.size a_0 i_0 0 a_1 a_2 a_3 a_4 a_5 k_0 k_1 k_2 k_3 k_4 k_5 k_6 k_7 k_8 k_9 a_6 a_7 a_8 a_9 a_10 a_11 a_12 a_13 a_14 a_15 a_16 a_17 a_18 k_10 k_11 k_12 k_13 k_14 k_15 a_19 k_16 a_20 ) (cwV 1 hts (mm_gV mm_w641 mm_w642 mm_w643 mm_w5 mm_w644) rfl rfl rfl hd_X12_isLand ⟨by rw [hRf]; exact Nat.le_of_ble_eq_true rfl, by rw [hRl]; exact Nat.le_of_ble_eq_true rfl⟩) (mm_preV hK hP hD [0, 1] rfl rfl 0 rfl rfl rfl) rfl rfl hl.1 rfl (lv_room (Nat.le_of_ble_eq_true rfl)) dX12_differs_7 ⟨by rw [hRc]; exact Nat.le_of_ble_eq_true rfl, by rw [hRs]; exact Nat.le_of_ble_eq_true rfl⟩) hP hD hS hA [0, 1] rfl (fun _ => rfl) ?_
  clear hP hD hS
  clear H locs
  intro v1 _u H locs hw hP hD hS
  subst hw
  refine lv_if_eq (tgt := 21) hx hb dX12_differs_10 (by decide) (fun c2 => ?_) (fun c2 => ?_)
  · refine lv_bipush (v := (-2)) hx hb dX12_differs_21 (by decide) ?_
    subst hAe
    rw [hQ]
    exact W.iret (v := (-2)) hx hb hr (fun t ht hW => ⟨⟨(-2), (), rfl, rfl, by rw [ht]; exact hP, hK.warm hW, hD⟩, hS.F ht⟩) hS.2.2 dX12_differs_23
  · have q3 := mm_neL (lo := 1) (mm_ne c2) mm_k0 mm_k0 (by decide) (by decide)
    exact mm_no q3 (by decide)

set_option maxHeartbeats 4000000 in
set_option maxRecDepth 100000 in
theorem K210_X11_alike (l : Launch) (G : va_G) (cy : Nat → ClassId) (sz : Nat) (a_0 : Nat) (i_0 : Int32) (i_1 : Int32) (i_2 : Int32) (a_1 : Nat) (a_2 : Nat) (a_3 : Nat) (a_4 : Nat) (a_5 : Nat) (a_6 : Nat) (a_7 : Nat) (a_8 : Nat) (a_9 : Nat) (a_10 : Nat) (a_11 : Nat) (a_24 : Nat) (a_25 : Nat) (k_0 : Int32) (k_1 : Int32) (k_2 : Int32) (k_3 : Int32) (k_4 : Int32) (k_5 : Int32) (k_6 : Int32) (a_26 : Nat) (a_27 : Nat) (a_28 : Nat) (a_29 : Nat) (a_30 : Nat) (a_31 : Nat) (a_32 : Nat) (a_33 : Nat) (a_34 : Nat) (a_35 : Nat)   : mm_CI l yX11_alike (mm_ws yX11_alike cX11_alike 7 (some .int)) ({ frames := 1, cells := 0, slots := 0, locals := 21 } : Room) G cy sz [(a_0, .inr (11, [.ref a_1, .ref a_2, .ref a_3, .ref a_4, .ref a_5, .ref a_6, .ref a_7, .ref a_8, .ref a_9, .ref a_10, .ref a_11])), (a_3, .inr (10, [.ref a_24, .ref a_25])), (a_24, .inr (0, [.int k_0, .int k_1, .int k_2, .int k_3, .int k_4, .int 0, .int k_5, .int k_6, .ref a_26, .ref a_27, .ref a_28, .ref a_29, .ref a_30, .ref a_31, .ref a_32, .ref a_33, .ref a_34, .ref a_35]))] [.ref a_0, .int i_0, .int i_1, .int i_2] (fun u : Unit => [(a_0, .inr (11, [.ref a_1, .ref a_2, .ref a_3, .ref a_4, .ref a_5, .ref a_6, .ref a_7, .ref a_8, .ref a_9, .ref a_10, .ref a_11])), (a_3, .inr (10, [.ref a_24, .ref a_25])), (a_24, .inr (0, [.int k_0, .int k_1, .int k_2, .int k_3, .int k_4, .int 0, .int k_5, .int k_6, .ref a_26, .ref a_27, .ref a_28, .ref a_29, .ref a_30, .ref a_31, .ref a_32, .ref a_33, .ref a_34, .ref a_35]))]) (fun (r : Int32) (u : Unit) => (-2) = r) 0 0 := by
  refine mm_begin (lv := [(0, .ref a_0), (1, .int i_0), (2, .int i_1), (3, .int i_2)]) (by decide) (Nat.le_of_ble_eq_true rfl) rfl ?_
  intro p e s m below meth c A ls R args Q H locs hRe hQ hAe hx hb hr hlocks hml hown hnm hts hsz hA hS hP hK hD hl
  have hRf : R.frames = 1 := by rw [hRe]
  have hRl : R.locals = 21 := by rw [hRe]
  have hRc : R.cells = 0 := by rw [hRe]
  have hRs : R.slots = 0 := by rw [hRe]
  refine lv_aload_n hx hb dX11_alike_0 rfl (lv_at hl 0 rfl) ?_
  refine lv_iload_n hx hb dX11_alike_1 rfl (lv_at hl 1 rfl) ?_
  refine mm_finir (va_runV (As := [.int i_0]) (rest := []) ⟨hx, hb, hml, hown, hts⟩ (K123_X11_isLand l G cy H.size a_0 i_0 a_1 a_2 a_3 a_4 a_5 a_6 a_7 a_8 a_9 a_10 a_11 a_24 a_25 k_0 k_1 k_2 k_3 k_4 k_5 k_6 a_26 a_27 a_28 a_29 a_30 a_31 a_32 a_33 a_34 a_35 ) (cwV 1 hts (mm_gV mm_w626 mm_w627 mm_w628 mm_w2 mm_w629) rfl rfl rfl hd_X11_isLand ⟨by rw [hRf]; exact Nat.le_of_ble_eq_true rfl, by rw [hRl]; exact Nat.le_of_ble_eq_true rfl⟩) (mm_preV hK hP hD [0, 1, 2] rfl rfl 0 rfl rfl rfl) rfl rfl hl.1 rfl (lv_room (Nat.le_of_ble_eq_true rfl)) dX11_alike_2 ⟨by rw [hRc]; exact Nat.le_of_ble_eq_true rfl, by rw [hRs]; exact Nat.le_of_ble_eq_true rfl⟩) hP hD hS hA [0, 1, 2] rfl (fun _ => rfl) ?_
  clear hP hD hS
  clear H locs
  intro v1 _u H locs hw hP hD hS
  subst hw
  refine lv_if_eq (tgt := 28) hx hb dX11_alike_5 (by decide) (fun c2 => ?_) (fun c2 => ?_)
  · refine lv_bipush (v := (-2)) hx hb dX11_alike_28 (by decide) ?_
    subst hAe
    rw [hQ]
    exact W.iret (v := (-2)) hx hb hr (fun t ht hW => ⟨⟨(-2), (), rfl, rfl, by rw [ht]; exact hP, hK.warm hW, hD⟩, hS.F ht⟩) hS.2.2 dX11_alike_30
  · have q3 := mm_neL (lo := 1) (mm_ne c2) mm_k0 mm_k0 (by decide) (by decide)
    exact mm_no q3 (by decide)

set_option maxHeartbeats 4000000 in
set_option maxRecDepth 100000 in
theorem K211_X12_alike (l : Launch) (G : va_G) (cy : Nat → ClassId) (sz : Nat) (a_0 : Nat) (i_0 : Int32) (i_1 : Int32) (i_2 : Int32) (a_1 : Nat) (a_2 : Nat) (a_3 : Nat) (a_4 : Nat) (a_5 : Nat) (k_0 : Int32) (k_1 : Int32) (k_2 : Int32) (k_3 : Int32) (k_4 : Int32) (k_5 : Int64) (k_6 : Int32) (k_7 : Int32) (k_8 : Int32) (k_9 : Int32) (a_6 : Nat) (a_7 : Nat) (a_8 : Nat) (a_9 : Nat) (a_10 : Nat) (a_11 : Nat) (a_12 : Nat) (a_13 : Nat) (a_14 : Nat) (a_15 : Nat) (a_16 : Nat) (a_17 : Nat) (a_18 : Nat) (k_10 : Int32) (k_11 : Int32) (k_12 : Int32) (k_13 : Int32) (k_14 : Int32) (k_15 : Int32) (a_19 : Nat) (k_16 : Int32) (a_20 : Nat)   : mm_CI l yX12_alike (mm_ws yX12_alike cX12_alike 6 (some .int)) ({ frames := 2, cells := 0, slots := 0, locals := 46 } : Room) G cy sz [(a_0, .inr (12, [.int 0, .ref a_1, .ref a_2, .ref a_3, .ref a_4, .ref a_5, .int k_0, .int k_1, .int k_2, .int k_3, .int k_4, .long k_5, .int k_6, .int k_7, .int k_8, .int k_9, .ref a_6, .ref a_7, .ref a_8, .ref a_9, .ref a_10, .ref a_11, .ref a_12, .ref a_13, .ref a_14, .ref a_15, .ref a_16, .ref a_17, .ref a_18, .int k_10, .int k_11, .int k_12, .int k_13, .int k_14, .int k_15, .ref a_19, .int k_16, .ref a_20])), (a_7, .inl (cy 1, 30, .inl (fun _ => 0)))] [.ref a_0, .int i_0, .int i_1, .int i_2] (fun u : Unit => [(a_0, .inr (12, [.int 0, .ref a_1, .ref a_2, .ref a_3, .ref a_4, .ref a_5, .int k_0, .int k_1, .int k_2, .int k_3, .int k_4, .long k_5, .int k_6, .int k_7, .int k_8, .int k_9, .ref a_6, .ref a_7, .ref a_8, .ref a_9, .ref a_10, .ref a_11, .ref a_12, .ref a_13, .ref a_14, .ref a_15, .ref a_16, .ref a_17, .ref a_18, .int k_10, .int k_11, .int k_12, .int k_13, .int k_14, .int k_15, .ref a_19, .int k_16, .ref a_20])), (a_7, .inl (cy 1, 30, .inl (fun _ => 0)))]) (fun (r : Int32) (u : Unit) => (-2) = r) 0 0 := by
  refine mm_begin (lv := [(0, .ref a_0), (1, .int i_0), (2, .int i_1), (3, .int i_2)]) (by decide) (Nat.le_of_ble_eq_true rfl) rfl ?_
  intro p e s m below meth c A ls R args Q H locs hRe hQ hAe hx hb hr hlocks hml hown hnm hts hsz hA hS hP hK hD hl
  have hRf : R.frames = 2 := by rw [hRe]
  have hRl : R.locals = 46 := by rw [hRe]
  have hRc : R.cells = 0 := by rw [hRe]
  have hRs : R.slots = 0 := by rw [hRe]
  refine lv_aload_n hx hb dX12_alike_0 rfl (lv_at hl 0 rfl) ?_
  refine lv_iconst (v := 0) hx hb dX12_alike_1 (by decide) ?_
  refine va_put (D := G) (ci := 12) (v := .int 0) (ty := tyX12 0) (C := RX12) (T := TX12) (N := 38) hx hb hts (mm_i inlX12) tyX12 tyX12_ok nmX12 hown hK.1 hP hD hS 0 rfl rfl 0 (by decide) (mm_h hts mm_w177) (fun _ h9 => h9) rfl (tyX12_ok 0 (by decide)) rfl rfl (Nat.le_of_ble_eq_true rfl) dX12_alike_2 ?_
  clear hP hD hS
  clear H locs
  intro H locs (hP : va_P G vwCl [(a_0, .inr (12, [.int 0, .ref a_1, .ref a_2, .ref a_3, .ref a_4, .ref a_5, .int k_0, .int k_1, .int k_2, .int k_3, .int k_4, .long k_5, .int k_6, .int k_7, .int k_8, .int k_9, .ref a_6, .ref a_7, .ref a_8, .ref a_9, .ref a_10, .ref a_11, .ref a_12, .ref a_13, .ref a_14, .ref a_15, .ref a_16, .ref a_17, .ref a_18, .int k_10, .int k_11, .int k_12, .int k_13, .int k_14, .int k_15, .ref a_19, .int k_16, .ref a_20])), (a_7, .inl (cy 1, 30, .inl (fun _ => 0)))] H) (hD : va_D A [(a_0, .inr (12, [.int 0, .ref a_1, .ref a_2, .ref a_3, .ref a_4, .ref a_5, .int k_0, .int k_1, .int k_2, .int k_3, .int k_4, .long k_5, .int k_6, .int k_7, .int k_8, .int k_9, .ref a_6, .ref a_7, .ref a_8, .ref a_9, .ref a_10, .ref a_11, .ref a_12, .ref a_13, .ref a_14, .ref a_15, .ref a_16, .ref a_17, .ref a_18, .int k_10, .int k_11, .int k_12, .int k_13, .int k_14, .int k_15, .ref a_19, .int k_16, .ref a_20])), (a_7, .inl (cy 1, 30, .inl (fun _ => 0)))]) hS
  refine lv_aload_n hx hb dX12_alike_5 rfl (lv_at hl 0 rfl) ?_
  refine lv_iload_n hx hb dX12_alike_6 rfl (lv_at hl 1 rfl) ?_
  refine mm_finir (va_runV (As := [.int i_0]) (rest := []) ⟨hx, hb, hml, hown, hts⟩ (K126_X12_isLand l G cy H.size a_0 i_0 0 a_1 a_2 a_3 a_4 a_5 k_0 k_1 k_2 k_3 k_4 k_5 k_6 k_7 k_8 k_9 a_6 a_7 a_8 a_9 a_10 a_11 a_12 a_13 a_14 a_15 a_16 a_17 a_18 k_10 k_11 k_12 k_13 k_14 k_15 a_19 k_16 a_20 ) (cwV 1 hts (mm_gV mm_w641 mm_w642 mm_w643 mm_w5 mm_w644) rfl rfl rfl hd_X12_isLand ⟨by rw [hRf]; exact Nat.le_of_ble_eq_true rfl, by rw [hRl]; exact Nat.le_of_ble_eq_true rfl⟩) (mm_preV hK hP hD [0, 1] rfl rfl 0 rfl rfl rfl) rfl rfl hl.1 rfl (lv_room (Nat.le_of_ble_eq_true rfl)) dX12_alike_7 ⟨by rw [hRc]; exact Nat.le_of_ble_eq_true rfl, by rw [hRs]; exact Nat.le_of_ble_eq_true rfl⟩) hP hD hS hA [0, 1] rfl (fun _ => rfl) ?_
  clear hP hD hS
  clear H locs
  intro v1 _u H locs hw hP hD hS
  subst hw
  refine lv_if_eq (tgt := 33) hx hb dX12_alike_10 (by decide) (fun c2 => ?_) (fun c2 => ?_)
  · refine lv_bipush (v := (-2)) hx hb dX12_alike_33 (by decide) ?_
    subst hAe
    rw [hQ]
    exact W.iret (v := (-2)) hx hb hr (fun t ht hW => ⟨⟨(-2), (), rfl, rfl, by rw [ht]; exact hP, hK.warm hW, hD⟩, hS.F ht⟩) hS.2.2 dX12_alike_35
  · have q3 := mm_neL (lo := 1) (mm_ne c2) mm_k0 mm_k0 (by decide) (by decide)
    exact mm_no q3 (by decide)

set_option maxHeartbeats 4000000 in
set_option maxRecDepth 100000 in
theorem K212_X11_isSlot (l : Launch) (G : va_G) (cy : Nat → ClassId) (sz : Nat) (i_0 : Int32)   : mm_CI l yX11_isSlot (mm_ws yX11_isSlot cX11_isSlot 1 (some .boolean)) ({ frames := 0, cells := 0, slots := 0, locals := 0 } : Room) G cy sz [] [.int i_0] (fun u : Unit => []) (fun (r : Int32) (u : Unit) => ((0 = r ∧ mm_rg i_0 (-2147483648) (-1)) ∨ (0 = r ∧ mm_rg i_0 4 2147483647) ∨ (1 = r ∧ mm_rg i_0 0 3))) 0 0 := by
  refine mm_begin (lv := [(0, .int i_0)]) (by decide) (Nat.le_of_ble_eq_true rfl) rfl ?_
  intro p e s m below meth c A ls R args Q H locs hRe hQ hAe hx hb hr hlocks hml hown hnm hts hsz hA hS hP hK hD hl
  have hRf : R.frames = 0 := by rw [hRe]
  have hRl : R.locals = 0 := by rw [hRe]
  have hRc : R.cells = 0 := by rw [hRe]
  have hRs : R.slots = 0 := by rw [hRe]
  refine lv_iload_n hx hb dX11_isSlot_0 rfl (lv_at hl 0 rfl) ?_
  refine lv_if_lt (tgt := 13) hx hb dX11_isSlot_1 (by decide) (fun c1 => ?_) (fun c1 => ?_)
  · have q2 := mm_ltL (h := (-1)) (mm_lt c1) (mm_top i_0) mm_k0 (by decide)
    refine lv_iconst (v := 0) hx hb dX11_isSlot_13 (by decide) ?_
    subst hAe
    rw [hQ]
    exact W.zret (v := 0) hx hb hr rfl (fun t ht hW => ⟨⟨0, (), rfl, (Or.inl ⟨rfl, q2⟩), by rw [ht]; exact hP, hK.warm hW, hD⟩, hS.F ht⟩) hS.2.2 dX11_isSlot_14
  · have q3 := mm_leR (mm_nlt c1) mm_k0 (mm_top i_0)
    refine lv_iload_n hx hb dX11_isSlot_4 rfl (lv_at hl 0 rfl) ?_
    refine lv_iconst (v := 4) hx hb dX11_isSlot_5 (by decide) ?_
    refine lv_icmp_ge (tgt := 13) hx hb dX11_isSlot_6 (by decide) (fun c4 => ?_) (fun c4 => ?_)
    · have q5 := mm_leR (mm_le c4) mm_k4 q3
      refine lv_iconst (v := 0) hx hb dX11_isSlot_13 (by decide) ?_
      subst hAe
      rw [hQ]
      exact W.zret (v := 0) hx hb hr rfl (fun t ht hW => ⟨⟨0, (), rfl, (Or.inr (Or.inl ⟨rfl, q5⟩)), by rw [ht]; exact hP, hK.warm hW, hD⟩, hS.F ht⟩) hS.2.2 dX11_isSlot_14
    · have q6 := mm_ltL (h := 3) (mm_nle c4) q3 mm_k4 (by decide)
      refine lv_iconst (v := 1) hx hb dX11_isSlot_9 (by decide) ?_
      refine lv_goto (tgt := 14) hx hb dX11_isSlot_10 (by decide) ?_
      subst hAe
      rw [hQ]
      exact W.zret (v := 1) hx hb hr rfl (fun t ht hW => ⟨⟨1, (), rfl, (Or.inr (Or.inr ⟨rfl, q6⟩)), by rw [ht]; exact hP, hK.warm hW, hD⟩, hS.F ht⟩) hS.2.2 dX11_isSlot_14

set_option maxHeartbeats 4000000 in
set_option maxRecDepth 100000 in
theorem K213_X11_letterTrouble (l : Launch) (G : va_G) (cy : Nat → ClassId) (sz : Nat) (a_0 : Nat) (i_0 : Int32) (i_1 : Int32) (a_1 : Nat) (a_2 : Nat) (a_3 : Nat) (a_4 : Nat) (a_5 : Nat) (a_6 : Nat) (a_7 : Nat) (a_8 : Nat) (a_9 : Nat) (a_10 : Nat) (a_11 : Nat) (a_24 : Nat) (a_25 : Nat) (k_0 : Int32) (k_1 : Int32) (k_2 : Int32) (k_3 : Int32) (k_4 : Int32) (k_5 : Int32) (k_6 : Int32) (a_26 : Nat) (a_27 : Nat) (a_28 : Nat) (a_29 : Nat) (a_30 : Nat) (a_31 : Nat) (a_32 : Nat) (a_33 : Nat) (a_34 : Nat) (a_35 : Nat)   : mm_CI l yX11_letterTrouble (mm_ws yX11_letterTrouble cX11_letterTrouble 4 (some .int)) ({ frames := 1, cells := 0, slots := 0, locals := 21 } : Room) G cy sz [(a_0, .inr (11, [.ref a_1, .ref a_2, .ref a_3, .ref a_4, .ref a_5, .ref a_6, .ref a_7, .ref a_8, .ref a_9, .ref a_10, .ref a_11])), (a_3, .inr (10, [.ref a_24, .ref a_25])), (a_24, .inr (0, [.int k_0, .int k_1, .int k_2, .int k_3, .int k_4, .int 0, .int k_5, .int k_6, .ref a_26, .ref a_27, .ref a_28, .ref a_29, .ref a_30, .ref a_31, .ref a_32, .ref a_33, .ref a_34, .ref a_35]))] [.ref a_0, .int i_0, .int i_1, .int 0] (fun u : Unit => [(a_0, .inr (11, [.ref a_1, .ref a_2, .ref a_3, .ref a_4, .ref a_5, .ref a_6, .ref a_7, .ref a_8, .ref a_9, .ref a_10, .ref a_11])), (a_3, .inr (10, [.ref a_24, .ref a_25])), (a_24, .inr (0, [.int k_0, .int k_1, .int k_2, .int k_3, .int k_4, .int 0, .int k_5, .int k_6, .ref a_26, .ref a_27, .ref a_28, .ref a_29, .ref a_30, .ref a_31, .ref a_32, .ref a_33, .ref a_34, .ref a_35]))]) (fun (r : Int32) (u : Unit) => (-2) = r) 0 0 := by
  refine mm_begin (lv := [(0, .ref a_0), (1, .int i_0), (2, .int i_1), (3, .int 0)]) (by decide) (Nat.le_of_ble_eq_true rfl) rfl ?_
  intro p e s m below meth c A ls R args Q H locs hRe hQ hAe hx hb hr hlocks hml hown hnm hts hsz hA hS hP hK hD hl
  have hRf : R.frames = 1 := by rw [hRe]
  have hRl : R.locals = 21 := by rw [hRe]
  have hRc : R.cells = 0 := by rw [hRe]
  have hRs : R.slots = 0 := by rw [hRe]
  refine lv_iload_n hx hb dX11_letterTrouble_0 rfl (lv_at hl 1 rfl) ?_
  refine mm_finir (va_runS (As := [.int i_0]) (rest := []) ⟨hx, hb, hml, hown, hts⟩ (K212_X11_isSlot l G cy H.size i_0 ) (va_cwS 1 hts (mm_gS mm_w1232 mm_w1233 mm_w2 mm_w1234) rfl rfl rfl hs_X11_isSlot ⟨by rw [hRf]; exact Nat.le_of_ble_eq_true rfl, by rw [hRl]; exact Nat.le_of_ble_eq_true rfl⟩) (mm_preS hK hP hD [] rfl rfl) rfl rfl hl.1 rfl (lv_room (Nat.le_of_ble_eq_true rfl)) dX11_letterTrouble_1 ⟨by rw [hRc]; exact Nat.le_of_ble_eq_true rfl, by rw [hRs]; exact Nat.le_of_ble_eq_true rfl⟩) hP hD hS hA [] rfl (fun _ => rfl) ?_
  clear hP hD hS
  clear H locs
  intro v1 _u H locs hw hP hD hS
  rcases hw with ⟨rfl, w2⟩ | ⟨rfl, w3⟩ | ⟨rfl, w4⟩
  · refine lv_if_eq (tgt := 22) hx hb dX11_letterTrouble_4 (by decide) (fun c5 => ?_) (fun c5 => ?_)
    · refine lv_bipush (v := (-2)) hx hb dX11_letterTrouble_22 (by decide) ?_
      subst hAe
      rw [hQ]
      exact W.iret (v := (-2)) hx hb hr (fun t ht hW => ⟨⟨(-2), (), rfl, rfl, by rw [ht]; exact hP, hK.warm hW, hD⟩, hS.F ht⟩) hS.2.2 dX11_letterTrouble_24
    · have q6 := mm_neL (lo := 1) (mm_ne c5) mm_k0 mm_k0 (by decide) (by decide)
      exact mm_no q6 (by decide)
  · refine lv_if_eq (tgt := 22) hx hb dX11_letterTrouble_4 (by decide) (fun c7 => ?_) (fun c7 => ?_)
    · refine lv_bipush (v := (-2)) hx hb dX11_letterTrouble_22 (by decide) ?_
      subst hAe
      rw [hQ]
      exact W.iret (v := (-2)) hx hb hr (fun t ht hW => ⟨⟨(-2), (), rfl, rfl, by rw [ht]; exact hP, hK.warm hW, hD⟩, hS.F ht⟩) hS.2.2 dX11_letterTrouble_24
    · have q8 := mm_neL (lo := 1) (mm_ne c7) mm_k0 mm_k0 (by decide) (by decide)
      exact mm_no q8 (by decide)
  · refine lv_if_eq (tgt := 22) hx hb dX11_letterTrouble_4 (by decide) (fun c9 => ?_) (fun c9 => ?_)
    · exact mm_eqN c9.symm mm_k0 mm_k1 (by decide)
    · refine lv_aload_n hx hb dX11_letterTrouble_7 rfl (lv_at hl 0 rfl) ?_
      refine lv_iload_n hx hb dX11_letterTrouble_8 rfl (lv_at hl 2 rfl) ?_
      refine mm_finir (va_runV (As := [.int i_1]) (rest := []) ⟨hx, hb, hml, hown, hts⟩ (K123_X11_isLand l G cy H.size a_0 i_1 a_1 a_2 a_3 a_4 a_5 a_6 a_7 a_8 a_9 a_10 a_11 a_24 a_25 k_0 k_1 k_2 k_3 k_4 k_5 k_6 a_26 a_27 a_28 a_29 a_30 a_31 a_32 a_33 a_34 a_35 ) (cwV 1 hts (mm_gV mm_w626 mm_w627 mm_w628 mm_w2 mm_w629) rfl rfl rfl hd_X11_isLand ⟨by rw [hRf]; exact Nat.le_of_ble_eq_true rfl, by rw [hRl]; exact Nat.le_of_ble_eq_true rfl⟩) (mm_preV hK hP hD [0, 1, 2] rfl rfl 0 rfl rfl rfl) rfl rfl hl.1 rfl (lv_room (Nat.le_of_ble_eq_true rfl)) dX11_letterTrouble_9 ⟨by rw [hRc]; exact Nat.le_of_ble_eq_true rfl, by rw [hRs]; exact Nat.le_of_ble_eq_true rfl⟩) hP hD hS hA [0, 1, 2] rfl (fun _ => rfl) ?_
      clear hP hD hS
      clear H locs
      intro v10 _u H locs hw hP hD hS
      subst hw
      refine lv_if_eq (tgt := 22) hx hb dX11_letterTrouble_12 (by decide) (fun c11 => ?_) (fun c11 => ?_)
      · refine lv_bipush (v := (-2)) hx hb dX11_letterTrouble_22 (by decide) ?_
        subst hAe
        rw [hQ]
        exact W.iret (v := (-2)) hx hb hr (fun t ht hW => ⟨⟨(-2), (), rfl, rfl, by rw [ht]; exact hP, hK.warm hW, hD⟩, hS.F ht⟩) hS.2.2 dX11_letterTrouble_24
      · have q12 := mm_neL (lo := 1) (mm_ne c11) mm_k0 mm_k0 (by decide) (by decide)
        exact mm_no q12 (by decide)

set_option maxHeartbeats 4000000 in
set_option maxRecDepth 100000 in
theorem K215_X11_letterTrouble (l : Launch) (G : va_G) (cy : Nat → ClassId) (sz : Nat) (a_0 : Nat) (i_0 : Int32) (i_1 : Int32) (a_1 : Nat) (a_2 : Nat) (a_3 : Nat) (a_4 : Nat) (a_5 : Nat) (a_6 : Nat) (a_7 : Nat) (a_8 : Nat) (a_9 : Nat) (a_10 : Nat) (a_11 : Nat) (a_12 : Nat) (a_13 : Nat) (i_2 : Int32) (i_3 : Int32) (i_4 : Int32) (i_5 : Int32) (i_6 : Int32) (i_7 : Int32) (i_8 : Int32) (a_14 : Nat) (a_15 : Nat) (a_16 : Nat) (a_17 : Nat) (a_18 : Nat) (a_19 : Nat) (a_20 : Nat) (a_21 : Nat) (a_22 : Nat) (a_23 : Nat)   : mm_CI l yX11_letterTrouble (mm_ws yX11_letterTrouble cX11_letterTrouble 4 (some .int)) ({ frames := 1, cells := 0, slots := 0, locals := 21 } : Room) G cy sz [(a_0, .inr (11, [.ref a_1, .ref a_2, .ref a_3, .ref a_4, .ref a_5, .ref a_6, .ref a_7, .ref a_8, .ref a_9, .ref a_10, .ref a_11])), (a_3, .inr (10, [.ref a_12, .ref a_13])), (a_12, .inr (0, [.int i_2, .int i_3, .int i_4, .int i_5, .int i_6, .int 0, .int i_7, .int i_8, .ref a_14, .ref a_15, .ref a_16, .ref a_17, .ref a_18, .ref a_19, .ref a_20, .ref a_21, .ref a_22, .ref a_23]))] [.ref a_0, .int i_0, .int i_1, .int 0] (fun u : Unit => [(a_0, .inr (11, [.ref a_1, .ref a_2, .ref a_3, .ref a_4, .ref a_5, .ref a_6, .ref a_7, .ref a_8, .ref a_9, .ref a_10, .ref a_11])), (a_3, .inr (10, [.ref a_12, .ref a_13])), (a_12, .inr (0, [.int i_2, .int i_3, .int i_4, .int i_5, .int i_6, .int 0, .int i_7, .int i_8, .ref a_14, .ref a_15, .ref a_16, .ref a_17, .ref a_18, .ref a_19, .ref a_20, .ref a_21, .ref a_22, .ref a_23]))]) (fun (r : Int32) (u : Unit) => (-2) = r) 0 0 := by
  refine mm_begin (lv := [(0, .ref a_0), (1, .int i_0), (2, .int i_1), (3, .int 0)]) (by decide) (Nat.le_of_ble_eq_true rfl) rfl ?_
  intro p e s m below meth c A ls R args Q H locs hRe hQ hAe hx hb hr hlocks hml hown hnm hts hsz hA hS hP hK hD hl
  have hRf : R.frames = 1 := by rw [hRe]
  have hRl : R.locals = 21 := by rw [hRe]
  have hRc : R.cells = 0 := by rw [hRe]
  have hRs : R.slots = 0 := by rw [hRe]
  refine lv_iload_n hx hb dX11_letterTrouble_0 rfl (lv_at hl 1 rfl) ?_
  refine mm_finir (va_runS (As := [.int i_0]) (rest := []) ⟨hx, hb, hml, hown, hts⟩ (K212_X11_isSlot l G cy H.size i_0 ) (va_cwS 1 hts (mm_gS mm_w1232 mm_w1233 mm_w2 mm_w1234) rfl rfl rfl hs_X11_isSlot ⟨by rw [hRf]; exact Nat.le_of_ble_eq_true rfl, by rw [hRl]; exact Nat.le_of_ble_eq_true rfl⟩) (mm_preS hK hP hD [] rfl rfl) rfl rfl hl.1 rfl (lv_room (Nat.le_of_ble_eq_true rfl)) dX11_letterTrouble_1 ⟨by rw [hRc]; exact Nat.le_of_ble_eq_true rfl, by rw [hRs]; exact Nat.le_of_ble_eq_true rfl⟩) hP hD hS hA [] rfl (fun _ => rfl) ?_
  clear hP hD hS
  clear H locs
  intro v1 _u H locs hw hP hD hS
  rcases hw with ⟨rfl, w2⟩ | ⟨rfl, w3⟩ | ⟨rfl, w4⟩
  · refine lv_if_eq (tgt := 22) hx hb dX11_letterTrouble_4 (by decide) (fun c5 => ?_) (fun c5 => ?_)
    · refine lv_bipush (v := (-2)) hx hb dX11_letterTrouble_22 (by decide) ?_
      subst hAe
      rw [hQ]
      exact W.iret (v := (-2)) hx hb hr (fun t ht hW => ⟨⟨(-2), (), rfl, rfl, by rw [ht]; exact hP, hK.warm hW, hD⟩, hS.F ht⟩) hS.2.2 dX11_letterTrouble_24
    · have q6 := mm_neL (lo := 1) (mm_ne c5) mm_k0 mm_k0 (by decide) (by decide)
      exact mm_no q6 (by decide)
  · refine lv_if_eq (tgt := 22) hx hb dX11_letterTrouble_4 (by decide) (fun c7 => ?_) (fun c7 => ?_)
    · refine lv_bipush (v := (-2)) hx hb dX11_letterTrouble_22 (by decide) ?_
      subst hAe
      rw [hQ]
      exact W.iret (v := (-2)) hx hb hr (fun t ht hW => ⟨⟨(-2), (), rfl, rfl, by rw [ht]; exact hP, hK.warm hW, hD⟩, hS.F ht⟩) hS.2.2 dX11_letterTrouble_24
    · have q8 := mm_neL (lo := 1) (mm_ne c7) mm_k0 mm_k0 (by decide) (by decide)
      exact mm_no q8 (by decide)
  · refine lv_if_eq (tgt := 22) hx hb dX11_letterTrouble_4 (by decide) (fun c9 => ?_) (fun c9 => ?_)
    · exact mm_eqN c9.symm mm_k0 mm_k1 (by decide)
    · refine lv_aload_n hx hb dX11_letterTrouble_7 rfl (lv_at hl 0 rfl) ?_
      refine lv_iload_n hx hb dX11_letterTrouble_8 rfl (lv_at hl 2 rfl) ?_
      refine mm_finir (va_runV (As := [.int i_1]) (rest := []) ⟨hx, hb, hml, hown, hts⟩ (K123_X11_isLand l G cy H.size a_0 i_1 a_1 a_2 a_3 a_4 a_5 a_6 a_7 a_8 a_9 a_10 a_11 a_12 a_13 i_2 i_3 i_4 i_5 i_6 i_7 i_8 a_14 a_15 a_16 a_17 a_18 a_19 a_20 a_21 a_22 a_23 ) (cwV 1 hts (mm_gV mm_w626 mm_w627 mm_w628 mm_w2 mm_w629) rfl rfl rfl hd_X11_isLand ⟨by rw [hRf]; exact Nat.le_of_ble_eq_true rfl, by rw [hRl]; exact Nat.le_of_ble_eq_true rfl⟩) (mm_preV hK hP hD [0, 1, 2] rfl rfl 0 rfl rfl rfl) rfl rfl hl.1 rfl (lv_room (Nat.le_of_ble_eq_true rfl)) dX11_letterTrouble_9 ⟨by rw [hRc]; exact Nat.le_of_ble_eq_true rfl, by rw [hRs]; exact Nat.le_of_ble_eq_true rfl⟩) hP hD hS hA [0, 1, 2] rfl (fun _ => rfl) ?_
      clear hP hD hS
      clear H locs
      intro v10 _u H locs hw hP hD hS
      subst hw
      refine lv_if_eq (tgt := 22) hx hb dX11_letterTrouble_12 (by decide) (fun c11 => ?_) (fun c11 => ?_)
      · refine lv_bipush (v := (-2)) hx hb dX11_letterTrouble_22 (by decide) ?_
        subst hAe
        rw [hQ]
        exact W.iret (v := (-2)) hx hb hr (fun t ht hW => ⟨⟨(-2), (), rfl, rfl, by rw [ht]; exact hP, hK.warm hW, hD⟩, hS.F ht⟩) hS.2.2 dX11_letterTrouble_24
      · have q12 := mm_neL (lo := 1) (mm_ne c11) mm_k0 mm_k0 (by decide) (by decide)
        exact mm_no q12 (by decide)

set_option maxHeartbeats 4000000 in
set_option maxRecDepth 100000 in
theorem K214_X11_torn (l : Launch) (G : va_G) (cy : Nat → ClassId) (sz : Nat) (a_0 : Nat) (i_0 : Int32) (i_1 : Int32) (a_1 : Nat) (a_2 : Nat) (a_3 : Nat) (a_4 : Nat) (a_5 : Nat) (a_6 : Nat) (a_7 : Nat) (a_8 : Nat) (a_9 : Nat) (a_10 : Nat) (a_11 : Nat) (a_24 : Nat) (a_25 : Nat) (k_0 : Int32) (k_1 : Int32) (k_2 : Int32) (k_3 : Int32) (k_4 : Int32) (k_5 : Int32) (k_6 : Int32) (a_26 : Nat) (a_27 : Nat) (a_28 : Nat) (a_29 : Nat) (a_30 : Nat) (a_31 : Nat) (a_32 : Nat) (a_33 : Nat) (a_34 : Nat) (a_35 : Nat)   : mm_CI l yX11_torn (mm_ws yX11_torn cX11_torn 4 (some .int)) ({ frames := 2, cells := 0, slots := 0, locals := 44 } : Room) G cy sz [(a_0, .inr (11, [.ref a_1, .ref a_2, .ref a_3, .ref a_4, .ref a_5, .ref a_6, .ref a_7, .ref a_8, .ref a_9, .ref a_10, .ref a_11])), (a_3, .inr (10, [.ref a_24, .ref a_25])), (a_24, .inr (0, [.int k_0, .int k_1, .int k_2, .int k_3, .int k_4, .int 0, .int k_5, .int k_6, .ref a_26, .ref a_27, .ref a_28, .ref a_29, .ref a_30, .ref a_31, .ref a_32, .ref a_33, .ref a_34, .ref a_35]))] [.ref a_0, .int i_0, .int i_1] (fun u : Unit => [(a_0, .inr (11, [.ref a_1, .ref a_2, .ref a_3, .ref a_4, .ref a_5, .ref a_6, .ref a_7, .ref a_8, .ref a_9, .ref a_10, .ref a_11])), (a_3, .inr (10, [.ref a_24, .ref a_25])), (a_24, .inr (0, [.int k_0, .int k_1, .int k_2, .int k_3, .int k_4, .int 0, .int k_5, .int k_6, .ref a_26, .ref a_27, .ref a_28, .ref a_29, .ref a_30, .ref a_31, .ref a_32, .ref a_33, .ref a_34, .ref a_35]))]) (fun (r : Int32) (u : Unit) => (-2) = r) 0 0 := by
  refine mm_begin (lv := [(0, .ref a_0), (1, .int i_0), (2, .int i_1)]) (by decide) (Nat.le_of_ble_eq_true rfl) rfl ?_
  intro p e s m below meth c A ls R args Q H locs hRe hQ hAe hx hb hr hlocks hml hown hnm hts hsz hA hS hP hK hD hl
  have hRf : R.frames = 2 := by rw [hRe]
  have hRl : R.locals = 44 := by rw [hRe]
  have hRc : R.cells = 0 := by rw [hRe]
  have hRs : R.slots = 0 := by rw [hRe]
  refine lv_aload_n hx hb dX11_torn_0 rfl (lv_at hl 0 rfl) ?_
  refine lv_iload_n hx hb dX11_torn_1 rfl (lv_at hl 1 rfl) ?_
  refine lv_iload_n hx hb dX11_torn_2 rfl (lv_at hl 2 rfl) ?_
  refine lv_iconst (v := 0) hx hb dX11_torn_3 (by decide) ?_
  refine mm_finir (va_runV (As := [.int i_0, .int i_1, .int 0]) (rest := []) ⟨hx, hb, hml, hown, hts⟩ (K215_X11_letterTrouble l G cy H.size a_0 i_0 i_1 a_1 a_2 a_3 a_4 a_5 a_6 a_7 a_8 a_9 a_10 a_11 a_24 a_25 k_0 k_1 k_2 k_3 k_4 k_5 k_6 a_26 a_27 a_28 a_29 a_30 a_31 a_32 a_33 a_34 a_35 ) (cwV 3 hts (mm_gV mm_w1228 mm_w1229 mm_w1230 mm_w2 mm_w1231) rfl rfl rfl hd_X11_letterTrouble ⟨by rw [hRf]; exact Nat.le_of_ble_eq_true rfl, by rw [hRl]; exact Nat.le_of_ble_eq_true rfl⟩) (mm_preV hK hP hD [0, 1, 2] rfl rfl 0 rfl rfl rfl) rfl rfl hl.1 rfl (lv_room (Nat.le_of_ble_eq_true rfl)) dX11_torn_4 ⟨by rw [hRc]; exact Nat.le_of_ble_eq_true rfl, by rw [hRs]; exact Nat.le_of_ble_eq_true rfl⟩) hP hD hS hA [0, 1, 2] rfl (fun _ => rfl) ?_
  clear hP hD hS
  clear H locs
  intro v1 _u H locs hw hP hD hS
  subst hw
  refine lv_istore_n (lv' := [(3, .int (-2)), (0, .ref a_0), (1, .int i_0), (2, .int i_1)]) hx hb dX11_torn_7 rfl hl (by decide) rfl ?_
  clear hl
  clear ls
  intro ls hl
  refine lv_iload_n hx hb dX11_torn_8 rfl (lv_at hl 0 rfl) ?_
  refine lv_if_eq (tgt := 16) hx hb dX11_torn_9 (by decide) (fun c2 => ?_) (fun c2 => ?_)
  · exact mm_eqN c2 mm_km2 mm_k0 (by decide)
  · refine lv_iload_n hx hb dX11_torn_12 rfl (lv_at hl 0 rfl) ?_
    refine lv_goto (tgt := 30) hx hb dX11_torn_13 (by decide) ?_
    subst hAe
    rw [hQ]
    exact W.iret (v := (-2)) hx hb hr (fun t ht hW => ⟨⟨(-2), (), rfl, rfl, by rw [ht]; exact hP, hK.warm hW, hD⟩, hS.F ht⟩) hS.2.2 dX11_torn_30

set_option maxHeartbeats 4000000 in
set_option maxRecDepth 100000 in
theorem K216_X12_in (l : Launch) (G : va_G) (cy : Nat → ClassId) (sz : Nat) (j_0 : Int64) (h0 : mm_rl j_0 (-2147483648) 2147483647)  : mm_CI l yX12_in (mm_ws yX12_in cX12_in 6 (some .boolean)) ({ frames := 0, cells := 0, slots := 0, locals := 0 } : Room) G cy sz [] [.long j_0, .long 0, .long 3] (fun u : Unit => []) (fun (r : Int32) (u : Unit) => ((0 = r ∧ mm_rl j_0 (-2147483648) (-1)) ∨ (0 = r ∧ mm_rl j_0 4 2147483647) ∨ (1 = r ∧ mm_rl j_0 0 3))) 0 0 := by
  refine mm_begin (lv := [(0, .long j_0), (2, .long 0), (4, .long 3)]) (by decide) (Nat.le_of_ble_eq_true rfl) rfl ?_
  intro p e s m below meth c A ls R args Q H locs hRe hQ hAe hx hb hr hlocks hml hown hnm hts hsz hA hS hP hK hD hl
  have hRf : R.frames = 0 := by rw [hRe]
  have hRl : R.locals = 0 := by rw [hRe]
  have hRc : R.cells = 0 := by rw [hRe]
  have hRs : R.slots = 0 := by rw [hRe]
  refine lv_lload_n hx hb dX12_in_0 rfl (lv_at hl 0 rfl) ?_
  refine lv_lload_n hx hb dX12_in_1 rfl (lv_at hl 1 rfl) ?_
  refine W.lcmp hx hb dX12_in_2 ?_
  refine lv_topi (fun v1 ev1 => ?_)
  refine lv_if_lt (tgt := 17) hx hb dX12_in_3 (by decide) (fun c2 => ?_) (fun c2 => ?_)
  · have q3 := mm_ltLl (h := (-1)) (mm_cmp_lt ev1 c2) h0 mm_kl0 (by decide)
    refine lv_iconst (v := 0) hx hb dX12_in_17 (by decide) ?_
    subst hAe
    rw [hQ]
    exact W.zret (v := 0) hx hb hr rfl (fun t ht hW => ⟨⟨0, (), rfl, (Or.inl ⟨rfl, q3⟩), by rw [ht]; exact hP, hK.warm hW, hD⟩, hS.F ht⟩) hS.2.2 dX12_in_18
  · have q4 := mm_leRl (mm_cmp_ge ev1 (mm_n_lt c2)) mm_kl0 h0
    refine lv_lload_n hx hb dX12_in_6 rfl (lv_at hl 0 rfl) ?_
    refine lv_lload hx hb dX12_in_7 (lv_at hl 2 rfl) ?_
    refine W.lcmp hx hb dX12_in_9 ?_
    refine lv_topi (fun v5 ev5 => ?_)
    refine lv_if_gt (tgt := 17) hx hb dX12_in_10 (by decide) (fun c6 => ?_) (fun c6 => ?_)
    · have q7 := mm_ltRl (lo := 4) (mm_cmp_gt ev5 c6) mm_kl3 q4 (by decide)
      refine lv_iconst (v := 0) hx hb dX12_in_17 (by decide) ?_
      subst hAe
      rw [hQ]
      exact W.zret (v := 0) hx hb hr rfl (fun t ht hW => ⟨⟨0, (), rfl, (Or.inr (Or.inl ⟨rfl, q7⟩)), by rw [ht]; exact hP, hK.warm hW, hD⟩, hS.F ht⟩) hS.2.2 dX12_in_18
    · have q8 := mm_leLl (mm_cmp_le ev5 (mm_n_gt c6)) q4 mm_kl3
      refine lv_iconst (v := 1) hx hb dX12_in_13 (by decide) ?_
      refine lv_goto (tgt := 18) hx hb dX12_in_14 (by decide) ?_
      subst hAe
      rw [hQ]
      exact W.zret (v := 1) hx hb hr rfl (fun t ht hW => ⟨⟨1, (), rfl, (Or.inr (Or.inr ⟨rfl, q8⟩)), by rw [ht]; exact hP, hK.warm hW, hD⟩, hS.F ht⟩) hS.2.2 dX12_in_18

set_option maxHeartbeats 4000000 in
set_option maxRecDepth 100000 in
theorem K217_X12_isSlot (l : Launch) (G : va_G) (cy : Nat → ClassId) (sz : Nat) (i_0 : Int32)   : mm_CI l yX12_isSlot (mm_ws yX12_isSlot cX12_isSlot 1 (some .boolean)) ({ frames := 1, cells := 0, slots := 0, locals := 25 } : Room) G cy sz [] [.int i_0] (fun u : Unit => []) (fun (r : Int32) (u : Unit) => ((0 = r ∧ mm_rg i_0 (-2147483648) (-1)) ∨ (0 = r ∧ mm_rg i_0 4 2147483647) ∨ (1 = r ∧ mm_rg i_0 0 3))) 0 0 := by
  refine mm_begin (lv := [(0, .int i_0)]) (by decide) (Nat.le_of_ble_eq_true rfl) rfl ?_
  intro p e s m below meth c A ls R args Q H locs hRe hQ hAe hx hb hr hlocks hml hown hnm hts hsz hA hS hP hK hD hl
  have hRf : R.frames = 1 := by rw [hRe]
  have hRl : R.locals = 25 := by rw [hRe]
  have hRc : R.cells = 0 := by rw [hRe]
  have hRs : R.slots = 0 := by rw [hRe]
  refine lv_iload_n hx hb dX12_isSlot_0 rfl (lv_at hl 0 rfl) ?_
  obtain ⟨v1, ev1⟩ : ∃ y : Int64, y = i_0.toInt64 := ⟨_, rfl⟩
  refine lv_i2l hx hb dX12_isSlot_1 ev1.symm ?_
  have rv1 : mm_rl v1 (-2147483648) 2147483647 := mm_i2l ev1 (mm_top i_0)
  refine lv_lconst (v := 0) hx hb dX12_isSlot_2 (by decide) ?_
  refine lv_ldc2 (v := 3) hx hb hown (mm_h hts mm_w1272) dX12_isSlot_3 ?_
  refine mm_finir (va_runS (As := [.long v1, .long 0, .long 3]) (rest := []) ⟨hx, hb, hml, hown, hts⟩ (K216_X12_in l G cy H.size v1 rv1) (va_cwS 3 hts (mm_gS mm_w191 mm_w192 mm_w5 mm_w193) rfl rfl rfl hs_X12_in ⟨by rw [hRf]; exact Nat.le_of_ble_eq_true rfl, by rw [hRl]; exact Nat.le_of_ble_eq_true rfl⟩) (mm_preS hK hP hD [] rfl rfl) rfl rfl hl.1 rfl (lv_room (Nat.le_of_ble_eq_true rfl)) dX12_isSlot_6 ⟨by rw [hRc]; exact Nat.le_of_ble_eq_true rfl, by rw [hRs]; exact Nat.le_of_ble_eq_true rfl⟩) hP hD hS hA [] rfl (fun _ => rfl) ?_
  clear hP hD hS
  clear H locs
  intro v2 _u H locs hw hP hD hS
  rcases hw with ⟨rfl, w3⟩ | ⟨rfl, w4⟩ | ⟨rfl, w5⟩
  · have q6 := mm_meet (lo := (-2147483648)) (hi := (-1)) (mm_l2x ev1 w3) (mm_top i_0) (by decide)
    subst hAe
    rw [hQ]
    exact W.zret (v := 0) hx hb hr rfl (fun t ht hW => ⟨⟨0, (), rfl, (Or.inl ⟨rfl, q6⟩), by rw [ht]; exact hP, hK.warm hW, hD⟩, hS.F ht⟩) hS.2.2 dX12_isSlot_9
  · have q7 := mm_meet (lo := 4) (hi := 2147483647) (mm_l2x ev1 w4) (mm_top i_0) (by decide)
    subst hAe
    rw [hQ]
    exact W.zret (v := 0) hx hb hr rfl (fun t ht hW => ⟨⟨0, (), rfl, (Or.inr (Or.inl ⟨rfl, q7⟩)), by rw [ht]; exact hP, hK.warm hW, hD⟩, hS.F ht⟩) hS.2.2 dX12_isSlot_9
  · have q8 := mm_meet (lo := 0) (hi := 3) (mm_l2x ev1 w5) (mm_top i_0) (by decide)
    subst hAe
    rw [hQ]
    exact W.zret (v := 1) hx hb hr rfl (fun t ht hW => ⟨⟨1, (), rfl, (Or.inr (Or.inr ⟨rfl, q8⟩)), by rw [ht]; exact hP, hK.warm hW, hD⟩, hS.F ht⟩) hS.2.2 dX12_isSlot_9

set_option maxHeartbeats 4000000 in
set_option maxRecDepth 100000 in
theorem K218_X12_whyNot (l : Launch) (G : va_G) (cy : Nat → ClassId) (sz : Nat) (a_0 : Nat) (i_0 : Int32)   : mm_CI l yX12_whyNot (mm_ws yX12_whyNot cX12_whyNot 4 (some .int)) ({ frames := 2, cells := 0, slots := 0, locals := 45 } : Room) G cy sz [] [.ref a_0, .int i_0, .int 0] (fun u : Unit => []) (fun (r : Int32) (u : Unit) => (-2) = r) 0 0 := by
  refine mm_begin (lv := [(0, .ref a_0), (1, .int i_0), (2, .int 0)]) (by decide) (Nat.le_of_ble_eq_true rfl) rfl ?_
  intro p e s m below meth c A ls R args Q H locs hRe hQ hAe hx hb hr hlocks hml hown hnm hts hsz hA hS hP hK hD hl
  have hRf : R.frames = 2 := by rw [hRe]
  have hRl : R.locals = 45 := by rw [hRe]
  have hRc : R.cells = 0 := by rw [hRe]
  have hRs : R.slots = 0 := by rw [hRe]
  refine lv_iload_n hx hb dX12_whyNot_0 rfl (lv_at hl 1 rfl) ?_
  refine mm_finir (va_runS (As := [.int i_0]) (rest := []) ⟨hx, hb, hml, hown, hts⟩ (K217_X12_isSlot l G cy H.size i_0 ) (va_cwS 1 hts (mm_gS mm_w1269 mm_w1270 mm_w5 mm_w1271) rfl rfl rfl hs_X12_isSlot ⟨by rw [hRf]; exact Nat.le_of_ble_eq_true rfl, by rw [hRl]; exact Nat.le_of_ble_eq_true rfl⟩) (mm_preS hK hP hD [] rfl rfl) rfl rfl hl.1 rfl (lv_room (Nat.le_of_ble_eq_true rfl)) dX12_whyNot_1 ⟨by rw [hRc]; exact Nat.le_of_ble_eq_true rfl, by rw [hRs]; exact Nat.le_of_ble_eq_true rfl⟩) hP hD hS hA [] rfl (fun _ => rfl) ?_
  clear hP hD hS
  clear H locs
  intro v1 _u H locs hw hP hD hS
  rcases hw with ⟨rfl, w2⟩ | ⟨rfl, w3⟩ | ⟨rfl, w4⟩
  · refine lv_if_eq (tgt := 11) hx hb dX12_whyNot_4 (by decide) (fun c5 => ?_) (fun c5 => ?_)
    · refine lv_bipush (v := (-2)) hx hb dX12_whyNot_11 (by decide) ?_
      subst hAe
      rw [hQ]
      exact W.iret (v := (-2)) hx hb hr (fun t ht hW => ⟨⟨(-2), (), rfl, rfl, by rw [ht]; exact hP, hK.warm hW, hD⟩, hS.F ht⟩) hS.2.2 dX12_whyNot_13
    · have q6 := mm_neL (lo := 1) (mm_ne c5) mm_k0 mm_k0 (by decide) (by decide)
      exact mm_no q6 (by decide)
  · refine lv_if_eq (tgt := 11) hx hb dX12_whyNot_4 (by decide) (fun c7 => ?_) (fun c7 => ?_)
    · refine lv_bipush (v := (-2)) hx hb dX12_whyNot_11 (by decide) ?_
      subst hAe
      rw [hQ]
      exact W.iret (v := (-2)) hx hb hr (fun t ht hW => ⟨⟨(-2), (), rfl, rfl, by rw [ht]; exact hP, hK.warm hW, hD⟩, hS.F ht⟩) hS.2.2 dX12_whyNot_13
    · have q8 := mm_neL (lo := 1) (mm_ne c7) mm_k0 mm_k0 (by decide) (by decide)
      exact mm_no q8 (by decide)
  · refine lv_if_eq (tgt := 11) hx hb dX12_whyNot_4 (by decide) (fun c9 => ?_) (fun c9 => ?_)
    · exact mm_eqN c9.symm mm_k0 mm_k1 (by decide)
    · refine lv_iload_n hx hb dX12_whyNot_7 rfl (lv_at hl 2 rfl) ?_
      refine lv_if_ne (tgt := 14) hx hb dX12_whyNot_8 (by decide) (fun c10 => ?_) (fun c10 => ?_)
      · have q11 := mm_neL (lo := 1) (mm_ne c10) mm_k0 mm_k0 (by decide) (by decide)
        exact mm_no q11 (by decide)
      · refine lv_bipush (v := (-2)) hx hb dX12_whyNot_11 (by decide) ?_
        subst hAe
        rw [hQ]
        exact W.iret (v := (-2)) hx hb hr (fun t ht hW => ⟨⟨(-2), (), rfl, rfl, by rw [ht]; exact hP, hK.warm hW, hD⟩, hS.F ht⟩) hS.2.2 dX12_whyNot_13

set_option maxHeartbeats 4000000 in
set_option maxRecDepth 100000 in
theorem K219_X12_torn (l : Launch) (G : va_G) (cy : Nat → ClassId) (sz : Nat) (a_0 : Nat) (i_0 : Int32) (i_1 : Int32) (a_1 : Nat) (a_2 : Nat) (a_3 : Nat) (a_4 : Nat) (a_5 : Nat) (k_0 : Int32) (k_1 : Int32) (k_2 : Int32) (k_3 : Int32) (k_4 : Int32) (k_5 : Int64) (k_6 : Int32) (k_7 : Int32) (k_8 : Int32) (k_9 : Int32) (a_6 : Nat) (a_7 : Nat) (a_8 : Nat) (a_9 : Nat) (a_10 : Nat) (a_11 : Nat) (a_12 : Nat) (a_13 : Nat) (a_14 : Nat) (a_15 : Nat) (a_16 : Nat) (a_17 : Nat) (a_18 : Nat) (k_10 : Int32) (k_11 : Int32) (k_12 : Int32) (k_13 : Int32) (k_14 : Int32) (k_15 : Int32) (a_19 : Nat) (k_16 : Int32) (a_20 : Nat)   : mm_CI l yX12_torn (mm_ws yX12_torn cX12_torn 4 (some .int)) ({ frames := 3, cells := 0, slots := 0, locals := 68 } : Room) G cy sz [(a_0, .inr (12, [.int 0, .ref a_1, .ref a_2, .ref a_3, .ref a_4, .ref a_5, .int k_0, .int k_1, .int k_2, .int k_3, .int k_4, .long k_5, .int k_6, .int k_7, .int k_8, .int k_9, .ref a_6, .ref a_7, .ref a_8, .ref a_9, .ref a_10, .ref a_11, .ref a_12, .ref a_13, .ref a_14, .ref a_15, .ref a_16, .ref a_17, .ref a_18, .int k_10, .int k_11, .int k_12, .int k_13, .int k_14, .int k_15, .ref a_19, .int k_16, .ref a_20])), (a_7, .inl (cy 1, 30, .inl (fun _ => 0)))] [.ref a_0, .int i_0, .int i_1] (fun u : Unit => [(a_0, .inr (12, [.int 0, .ref a_1, .ref a_2, .ref a_3, .ref a_4, .ref a_5, .int k_0, .int k_1, .int k_2, .int k_3, .int k_4, .long k_5, .int k_6, .int k_7, .int k_8, .int k_9, .ref a_6, .ref a_7, .ref a_8, .ref a_9, .ref a_10, .ref a_11, .ref a_12, .ref a_13, .ref a_14, .ref a_15, .ref a_16, .ref a_17, .ref a_18, .int k_10, .int k_11, .int k_12, .int k_13, .int k_14, .int k_15, .ref a_19, .int k_16, .ref a_20])), (a_7, .inl (cy 1, 30, .inl (fun _ => 0)))]) (fun (r : Int32) (u : Unit) => (-2) = r) 0 0 := by
  refine mm_begin (lv := [(0, .ref a_0), (1, .int i_0), (2, .int i_1)]) (by decide) (Nat.le_of_ble_eq_true rfl) rfl ?_
  intro p e s m below meth c A ls R args Q H locs hRe hQ hAe hx hb hr hlocks hml hown hnm hts hsz hA hS hP hK hD hl
  have hRf : R.frames = 3 := by rw [hRe]
  have hRl : R.locals = 68 := by rw [hRe]
  have hRc : R.cells = 0 := by rw [hRe]
  have hRs : R.slots = 0 := by rw [hRe]
  refine lv_aload_n hx hb dX12_torn_0 rfl (lv_at hl 0 rfl) ?_
  refine lv_iconst (v := 0) hx hb dX12_torn_1 (by decide) ?_
  refine va_put (D := G) (ci := 12) (v := .int 0) (ty := tyX12 0) (C := RX12) (T := TX12) (N := 38) hx hb hts (mm_i inlX12) tyX12 tyX12_ok nmX12 hown hK.1 hP hD hS 0 rfl rfl 0 (by decide) (mm_h hts mm_w177) (fun _ h9 => h9) rfl (tyX12_ok 0 (by decide)) rfl rfl (Nat.le_of_ble_eq_true rfl) dX12_torn_2 ?_
  clear hP hD hS
  clear H locs
  intro H locs (hP : va_P G vwCl [(a_0, .inr (12, [.int 0, .ref a_1, .ref a_2, .ref a_3, .ref a_4, .ref a_5, .int k_0, .int k_1, .int k_2, .int k_3, .int k_4, .long k_5, .int k_6, .int k_7, .int k_8, .int k_9, .ref a_6, .ref a_7, .ref a_8, .ref a_9, .ref a_10, .ref a_11, .ref a_12, .ref a_13, .ref a_14, .ref a_15, .ref a_16, .ref a_17, .ref a_18, .int k_10, .int k_11, .int k_12, .int k_13, .int k_14, .int k_15, .ref a_19, .int k_16, .ref a_20])), (a_7, .inl (cy 1, 30, .inl (fun _ => 0)))] H) (hD : va_D A [(a_0, .inr (12, [.int 0, .ref a_1, .ref a_2, .ref a_3, .ref a_4, .ref a_5, .int k_0, .int k_1, .int k_2, .int k_3, .int k_4, .long k_5, .int k_6, .int k_7, .int k_8, .int k_9, .ref a_6, .ref a_7, .ref a_8, .ref a_9, .ref a_10, .ref a_11, .ref a_12, .ref a_13, .ref a_14, .ref a_15, .ref a_16, .ref a_17, .ref a_18, .int k_10, .int k_11, .int k_12, .int k_13, .int k_14, .int k_15, .ref a_19, .int k_16, .ref a_20])), (a_7, .inl (cy 1, 30, .inl (fun _ => 0)))]) hS
  refine lv_aload_n hx hb dX12_torn_5 rfl (lv_at hl 0 rfl) ?_
  refine lv_iload_n hx hb dX12_torn_6 rfl (lv_at hl 1 rfl) ?_
  refine lv_aload_n hx hb dX12_torn_7 rfl (lv_at hl 0 rfl) ?_
  refine lv_iload_n hx hb dX12_torn_8 rfl (lv_at hl 2 rfl) ?_
  refine mm_finir (va_runV (As := [.int i_1]) (rest := [.int i_0, .ref a_0]) ⟨hx, hb, hml, hown, hts⟩ (K126_X12_isLand l G cy H.size a_0 i_1 0 a_1 a_2 a_3 a_4 a_5 k_0 k_1 k_2 k_3 k_4 k_5 k_6 k_7 k_8 k_9 a_6 a_7 a_8 a_9 a_10 a_11 a_12 a_13 a_14 a_15 a_16 a_17 a_18 k_10 k_11 k_12 k_13 k_14 k_15 a_19 k_16 a_20 ) (cwV 1 hts (mm_gV mm_w641 mm_w642 mm_w643 mm_w5 mm_w644) rfl rfl rfl hd_X12_isLand ⟨by rw [hRf]; exact Nat.le_of_ble_eq_true rfl, by rw [hRl]; exact Nat.le_of_ble_eq_true rfl⟩) (mm_preV hK hP hD [0, 1] rfl rfl 0 rfl rfl rfl) rfl rfl hl.1 rfl (lv_room (Nat.le_of_ble_eq_true rfl)) dX12_torn_9 ⟨by rw [hRc]; exact Nat.le_of_ble_eq_true rfl, by rw [hRs]; exact Nat.le_of_ble_eq_true rfl⟩) hP hD hS hA [0, 1] rfl (fun _ => rfl) ?_
  clear hP hD hS
  clear H locs
  intro v1 _u H locs hw hP hD hS
  subst hw
  refine mm_finir (va_runV (As := [.int i_0, .int 0]) (rest := []) ⟨hx, hb, hml, hown, hts⟩ (K218_X12_whyNot l G cy H.size a_0 i_0 ) (cwV 2 hts (mm_gV mm_w1265 mm_w1266 mm_w1267 mm_w5 mm_w1268) rfl rfl rfl hd_X12_whyNot ⟨by rw [hRf]; exact Nat.le_of_ble_eq_true rfl, by rw [hRl]; exact Nat.le_of_ble_eq_true rfl⟩) (mm_preV hK hP hD [] rfl rfl 0 rfl rfl rfl) rfl rfl hl.1 rfl (lv_room (Nat.le_of_ble_eq_true rfl)) dX12_torn_12 ⟨by rw [hRc]; exact Nat.le_of_ble_eq_true rfl, by rw [hRs]; exact Nat.le_of_ble_eq_true rfl⟩) hP hD hS hA [] rfl (fun _ => rfl) ?_
  clear hP hD hS
  clear H locs
  intro v2 _u H locs hw hP hD hS
  subst hw
  refine lv_istore_n (lv' := [(3, .int (-2)), (0, .ref a_0), (1, .int i_0), (2, .int i_1)]) hx hb dX12_torn_15 rfl hl (by decide) rfl ?_
  clear hl
  clear ls
  intro ls hl
  refine lv_iload_n hx hb dX12_torn_16 rfl (lv_at hl 0 rfl) ?_
  refine lv_if_eq (tgt := 22) hx hb dX12_torn_17 (by decide) (fun c3 => ?_) (fun c3 => ?_)
  · exact mm_eqN c3 mm_km2 mm_k0 (by decide)
  · refine lv_iload_n hx hb dX12_torn_20 rfl (lv_at hl 0 rfl) ?_
    subst hAe
    rw [hQ]
    exact W.iret (v := (-2)) hx hb hr (fun t ht hW => ⟨⟨(-2), (), rfl, rfl, by rw [ht]; exact hP, hK.warm hW, hD⟩, hS.F ht⟩) hS.2.2 dX12_torn_21

set_option maxHeartbeats 4000000 in
set_option maxRecDepth 100000 in
theorem K220_X11_letterTrouble (l : Launch) (G : va_G) (cy : Nat → ClassId) (sz : Nat) (a_0 : Nat) (i_0 : Int32) (i_1 : Int32) (i_2 : Int32) (a_1 : Nat) (a_2 : Nat) (a_3 : Nat) (a_4 : Nat) (a_5 : Nat) (a_6 : Nat) (a_7 : Nat) (a_8 : Nat) (a_9 : Nat) (a_10 : Nat) (a_11 : Nat) (a_24 : Nat) (a_25 : Nat) (k_0 : Int32) (k_1 : Int32) (k_2 : Int32) (k_3 : Int32) (k_4 : Int32) (k_5 : Int32) (k_6 : Int32) (a_26 : Nat) (a_27 : Nat) (a_28 : Nat) (a_29 : Nat) (a_30 : Nat) (a_31 : Nat) (a_32 : Nat) (a_33 : Nat) (a_34 : Nat) (a_35 : Nat)   : mm_CI l yX11_letterTrouble (mm_ws yX11_letterTrouble cX11_letterTrouble 4 (some .int)) ({ frames := 1, cells := 0, slots := 0, locals := 21 } : Room) G cy sz [(a_0, .inr (11, [.ref a_1, .ref a_2, .ref a_3, .ref a_4, .ref a_5, .ref a_6, .ref a_7, .ref a_8, .ref a_9, .ref a_10, .ref a_11])), (a_3, .inr (10, [.ref a_24, .ref a_25])), (a_24, .inr (0, [.int k_0, .int k_1, .int k_2, .int k_3, .int k_4, .int 0, .int k_5, .int k_6, .ref a_26, .ref a_27, .ref a_28, .ref a_29, .ref a_30, .ref a_31, .ref a_32, .ref a_33, .ref a_34, .ref a_35]))] [.ref a_0, .int i_0, .int i_1, .int i_2] (fun u : Unit => [(a_0, .inr (11, [.ref a_1, .ref a_2, .ref a_3, .ref a_4, .ref a_5, .ref a_6, .ref a_7, .ref a_8, .ref a_9, .ref a_10, .ref a_11])), (a_3, .inr (10, [.ref a_24, .ref a_25])), (a_24, .inr (0, [.int k_0, .int k_1, .int k_2, .int k_3, .int k_4, .int 0, .int k_5, .int k_6, .ref a_26, .ref a_27, .ref a_28, .ref a_29, .ref a_30, .ref a_31, .ref a_32, .ref a_33, .ref a_34, .ref a_35]))]) (fun (r : Int32) (u : Unit) => (-2) = r) 0 0 := by
  refine mm_begin (lv := [(0, .ref a_0), (1, .int i_0), (2, .int i_1), (3, .int i_2)]) (by decide) (Nat.le_of_ble_eq_true rfl) rfl ?_
  intro p e s m below meth c A ls R args Q H locs hRe hQ hAe hx hb hr hlocks hml hown hnm hts hsz hA hS hP hK hD hl
  have hRf : R.frames = 1 := by rw [hRe]
  have hRl : R.locals = 21 := by rw [hRe]
  have hRc : R.cells = 0 := by rw [hRe]
  have hRs : R.slots = 0 := by rw [hRe]
  refine lv_iload_n hx hb dX11_letterTrouble_0 rfl (lv_at hl 1 rfl) ?_
  refine mm_finir (va_runS (As := [.int i_0]) (rest := []) ⟨hx, hb, hml, hown, hts⟩ (K212_X11_isSlot l G cy H.size i_0 ) (va_cwS 1 hts (mm_gS mm_w1232 mm_w1233 mm_w2 mm_w1234) rfl rfl rfl hs_X11_isSlot ⟨by rw [hRf]; exact Nat.le_of_ble_eq_true rfl, by rw [hRl]; exact Nat.le_of_ble_eq_true rfl⟩) (mm_preS hK hP hD [] rfl rfl) rfl rfl hl.1 rfl (lv_room (Nat.le_of_ble_eq_true rfl)) dX11_letterTrouble_1 ⟨by rw [hRc]; exact Nat.le_of_ble_eq_true rfl, by rw [hRs]; exact Nat.le_of_ble_eq_true rfl⟩) hP hD hS hA [] rfl (fun _ => rfl) ?_
  clear hP hD hS
  clear H locs
  intro v1 _u H locs hw hP hD hS
  rcases hw with ⟨rfl, w2⟩ | ⟨rfl, w3⟩ | ⟨rfl, w4⟩
  · refine lv_if_eq (tgt := 22) hx hb dX11_letterTrouble_4 (by decide) (fun c5 => ?_) (fun c5 => ?_)
    · refine lv_bipush (v := (-2)) hx hb dX11_letterTrouble_22 (by decide) ?_
      subst hAe
      rw [hQ]
      exact W.iret (v := (-2)) hx hb hr (fun t ht hW => ⟨⟨(-2), (), rfl, rfl, by rw [ht]; exact hP, hK.warm hW, hD⟩, hS.F ht⟩) hS.2.2 dX11_letterTrouble_24
    · have q6 := mm_neL (lo := 1) (mm_ne c5) mm_k0 mm_k0 (by decide) (by decide)
      exact mm_no q6 (by decide)
  · refine lv_if_eq (tgt := 22) hx hb dX11_letterTrouble_4 (by decide) (fun c7 => ?_) (fun c7 => ?_)
    · refine lv_bipush (v := (-2)) hx hb dX11_letterTrouble_22 (by decide) ?_
      subst hAe
      rw [hQ]
      exact W.iret (v := (-2)) hx hb hr (fun t ht hW => ⟨⟨(-2), (), rfl, rfl, by rw [ht]; exact hP, hK.warm hW, hD⟩, hS.F ht⟩) hS.2.2 dX11_letterTrouble_24
    · have q8 := mm_neL (lo := 1) (mm_ne c7) mm_k0 mm_k0 (by decide) (by decide)
      exact mm_no q8 (by decide)
  · refine lv_if_eq (tgt := 22) hx hb dX11_letterTrouble_4 (by decide) (fun c9 => ?_) (fun c9 => ?_)
    · exact mm_eqN c9.symm mm_k0 mm_k1 (by decide)
    · refine lv_aload_n hx hb dX11_letterTrouble_7 rfl (lv_at hl 0 rfl) ?_
      refine lv_iload_n hx hb dX11_letterTrouble_8 rfl (lv_at hl 2 rfl) ?_
      refine mm_finir (va_runV (As := [.int i_1]) (rest := []) ⟨hx, hb, hml, hown, hts⟩ (K123_X11_isLand l G cy H.size a_0 i_1 a_1 a_2 a_3 a_4 a_5 a_6 a_7 a_8 a_9 a_10 a_11 a_24 a_25 k_0 k_1 k_2 k_3 k_4 k_5 k_6 a_26 a_27 a_28 a_29 a_30 a_31 a_32 a_33 a_34 a_35 ) (cwV 1 hts (mm_gV mm_w626 mm_w627 mm_w628 mm_w2 mm_w629) rfl rfl rfl hd_X11_isLand ⟨by rw [hRf]; exact Nat.le_of_ble_eq_true rfl, by rw [hRl]; exact Nat.le_of_ble_eq_true rfl⟩) (mm_preV hK hP hD [0, 1, 2] rfl rfl 0 rfl rfl rfl) rfl rfl hl.1 rfl (lv_room (Nat.le_of_ble_eq_true rfl)) dX11_letterTrouble_9 ⟨by rw [hRc]; exact Nat.le_of_ble_eq_true rfl, by rw [hRs]; exact Nat.le_of_ble_eq_true rfl⟩) hP hD hS hA [0, 1, 2] rfl (fun _ => rfl) ?_
      clear hP hD hS
      clear H locs
      intro v10 _u H locs hw hP hD hS
      subst hw
      refine lv_if_eq (tgt := 22) hx hb dX11_letterTrouble_12 (by decide) (fun c11 => ?_) (fun c11 => ?_)
      · refine lv_bipush (v := (-2)) hx hb dX11_letterTrouble_22 (by decide) ?_
        subst hAe
        rw [hQ]
        exact W.iret (v := (-2)) hx hb hr (fun t ht hW => ⟨⟨(-2), (), rfl, rfl, by rw [ht]; exact hP, hK.warm hW, hD⟩, hS.F ht⟩) hS.2.2 dX11_letterTrouble_24
      · have q12 := mm_neL (lo := 1) (mm_ne c11) mm_k0 mm_k0 (by decide) (by decide)
        exact mm_no q12 (by decide)

set_option maxHeartbeats 4000000 in
set_option maxRecDepth 100000 in
theorem K222_X11_letterTrouble (l : Launch) (G : va_G) (cy : Nat → ClassId) (sz : Nat) (a_0 : Nat) (i_0 : Int32) (i_1 : Int32) (i_2 : Int32) (a_1 : Nat) (a_2 : Nat) (a_3 : Nat) (a_4 : Nat) (a_5 : Nat) (a_6 : Nat) (a_7 : Nat) (a_8 : Nat) (a_9 : Nat) (a_10 : Nat) (a_11 : Nat) (a_12 : Nat) (a_13 : Nat) (i_3 : Int32) (i_4 : Int32) (i_5 : Int32) (i_6 : Int32) (i_7 : Int32) (i_8 : Int32) (i_9 : Int32) (a_14 : Nat) (a_15 : Nat) (a_16 : Nat) (a_17 : Nat) (a_18 : Nat) (a_19 : Nat) (a_20 : Nat) (a_21 : Nat) (a_22 : Nat) (a_23 : Nat)   : mm_CI l yX11_letterTrouble (mm_ws yX11_letterTrouble cX11_letterTrouble 4 (some .int)) ({ frames := 1, cells := 0, slots := 0, locals := 21 } : Room) G cy sz [(a_0, .inr (11, [.ref a_1, .ref a_2, .ref a_3, .ref a_4, .ref a_5, .ref a_6, .ref a_7, .ref a_8, .ref a_9, .ref a_10, .ref a_11])), (a_3, .inr (10, [.ref a_12, .ref a_13])), (a_12, .inr (0, [.int i_3, .int i_4, .int i_5, .int i_6, .int i_7, .int 0, .int i_8, .int i_9, .ref a_14, .ref a_15, .ref a_16, .ref a_17, .ref a_18, .ref a_19, .ref a_20, .ref a_21, .ref a_22, .ref a_23]))] [.ref a_0, .int i_0, .int i_1, .int i_2] (fun u : Unit => [(a_0, .inr (11, [.ref a_1, .ref a_2, .ref a_3, .ref a_4, .ref a_5, .ref a_6, .ref a_7, .ref a_8, .ref a_9, .ref a_10, .ref a_11])), (a_3, .inr (10, [.ref a_12, .ref a_13])), (a_12, .inr (0, [.int i_3, .int i_4, .int i_5, .int i_6, .int i_7, .int 0, .int i_8, .int i_9, .ref a_14, .ref a_15, .ref a_16, .ref a_17, .ref a_18, .ref a_19, .ref a_20, .ref a_21, .ref a_22, .ref a_23]))]) (fun (r : Int32) (u : Unit) => (-2) = r) 0 0 := by
  refine mm_begin (lv := [(0, .ref a_0), (1, .int i_0), (2, .int i_1), (3, .int i_2)]) (by decide) (Nat.le_of_ble_eq_true rfl) rfl ?_
  intro p e s m below meth c A ls R args Q H locs hRe hQ hAe hx hb hr hlocks hml hown hnm hts hsz hA hS hP hK hD hl
  have hRf : R.frames = 1 := by rw [hRe]
  have hRl : R.locals = 21 := by rw [hRe]
  have hRc : R.cells = 0 := by rw [hRe]
  have hRs : R.slots = 0 := by rw [hRe]
  refine lv_iload_n hx hb dX11_letterTrouble_0 rfl (lv_at hl 1 rfl) ?_
  refine mm_finir (va_runS (As := [.int i_0]) (rest := []) ⟨hx, hb, hml, hown, hts⟩ (K212_X11_isSlot l G cy H.size i_0 ) (va_cwS 1 hts (mm_gS mm_w1232 mm_w1233 mm_w2 mm_w1234) rfl rfl rfl hs_X11_isSlot ⟨by rw [hRf]; exact Nat.le_of_ble_eq_true rfl, by rw [hRl]; exact Nat.le_of_ble_eq_true rfl⟩) (mm_preS hK hP hD [] rfl rfl) rfl rfl hl.1 rfl (lv_room (Nat.le_of_ble_eq_true rfl)) dX11_letterTrouble_1 ⟨by rw [hRc]; exact Nat.le_of_ble_eq_true rfl, by rw [hRs]; exact Nat.le_of_ble_eq_true rfl⟩) hP hD hS hA [] rfl (fun _ => rfl) ?_
  clear hP hD hS
  clear H locs
  intro v1 _u H locs hw hP hD hS
  rcases hw with ⟨rfl, w2⟩ | ⟨rfl, w3⟩ | ⟨rfl, w4⟩
  · refine lv_if_eq (tgt := 22) hx hb dX11_letterTrouble_4 (by decide) (fun c5 => ?_) (fun c5 => ?_)
    · refine lv_bipush (v := (-2)) hx hb dX11_letterTrouble_22 (by decide) ?_
      subst hAe
      rw [hQ]
      exact W.iret (v := (-2)) hx hb hr (fun t ht hW => ⟨⟨(-2), (), rfl, rfl, by rw [ht]; exact hP, hK.warm hW, hD⟩, hS.F ht⟩) hS.2.2 dX11_letterTrouble_24
    · have q6 := mm_neL (lo := 1) (mm_ne c5) mm_k0 mm_k0 (by decide) (by decide)
      exact mm_no q6 (by decide)
  · refine lv_if_eq (tgt := 22) hx hb dX11_letterTrouble_4 (by decide) (fun c7 => ?_) (fun c7 => ?_)
    · refine lv_bipush (v := (-2)) hx hb dX11_letterTrouble_22 (by decide) ?_
      subst hAe
      rw [hQ]
      exact W.iret (v := (-2)) hx hb hr (fun t ht hW => ⟨⟨(-2), (), rfl, rfl, by rw [ht]; exact hP, hK.warm hW, hD⟩, hS.F ht⟩) hS.2.2 dX11_letterTrouble_24
    · have q8 := mm_neL (lo := 1) (mm_ne c7) mm_k0 mm_k0 (by decide) (by decide)
      exact mm_no q8 (by decide)
  · refine lv_if_eq (tgt := 22) hx hb dX11_letterTrouble_4 (by decide) (fun c9 => ?_) (fun c9 => ?_)
    · exact mm_eqN c9.symm mm_k0 mm_k1 (by decide)
    · refine lv_aload_n hx hb dX11_letterTrouble_7 rfl (lv_at hl 0 rfl) ?_
      refine lv_iload_n hx hb dX11_letterTrouble_8 rfl (lv_at hl 2 rfl) ?_
      refine mm_finir (va_runV (As := [.int i_1]) (rest := []) ⟨hx, hb, hml, hown, hts⟩ (K123_X11_isLand l G cy H.size a_0 i_1 a_1 a_2 a_3 a_4 a_5 a_6 a_7 a_8 a_9 a_10 a_11 a_12 a_13 i_3 i_4 i_5 i_6 i_7 i_8 i_9 a_14 a_15 a_16 a_17 a_18 a_19 a_20 a_21 a_22 a_23 ) (cwV 1 hts (mm_gV mm_w626 mm_w627 mm_w628 mm_w2 mm_w629) rfl rfl rfl hd_X11_isLand ⟨by rw [hRf]; exact Nat.le_of_ble_eq_true rfl, by rw [hRl]; exact Nat.le_of_ble_eq_true rfl⟩) (mm_preV hK hP hD [0, 1, 2] rfl rfl 0 rfl rfl rfl) rfl rfl hl.1 rfl (lv_room (Nat.le_of_ble_eq_true rfl)) dX11_letterTrouble_9 ⟨by rw [hRc]; exact Nat.le_of_ble_eq_true rfl, by rw [hRs]; exact Nat.le_of_ble_eq_true rfl⟩) hP hD hS hA [0, 1, 2] rfl (fun _ => rfl) ?_
      clear hP hD hS
      clear H locs
      intro v10 _u H locs hw hP hD hS
      subst hw
      refine lv_if_eq (tgt := 22) hx hb dX11_letterTrouble_12 (by decide) (fun c11 => ?_) (fun c11 => ?_)
      · refine lv_bipush (v := (-2)) hx hb dX11_letterTrouble_22 (by decide) ?_
        subst hAe
        rw [hQ]
        exact W.iret (v := (-2)) hx hb hr (fun t ht hW => ⟨⟨(-2), (), rfl, rfl, by rw [ht]; exact hP, hK.warm hW, hD⟩, hS.F ht⟩) hS.2.2 dX11_letterTrouble_24
      · have q12 := mm_neL (lo := 1) (mm_ne c11) mm_k0 mm_k0 (by decide) (by decide)
        exact mm_no q12 (by decide)

set_option maxHeartbeats 4000000 in
set_option maxRecDepth 100000 in
theorem K221_X11_date (l : Launch) (G : va_G) (cy : Nat → ClassId) (sz : Nat) (a_0 : Nat) (i_0 : Int32) (i_1 : Int32) (i_2 : Int32) (a_1 : Nat) (a_2 : Nat) (a_3 : Nat) (a_4 : Nat) (a_5 : Nat) (a_6 : Nat) (a_7 : Nat) (a_8 : Nat) (a_9 : Nat) (a_10 : Nat) (a_11 : Nat) (a_24 : Nat) (a_25 : Nat) (k_0 : Int32) (k_1 : Int32) (k_2 : Int32) (k_3 : Int32) (k_4 : Int32) (k_5 : Int32) (k_6 : Int32) (a_26 : Nat) (a_27 : Nat) (a_28 : Nat) (a_29 : Nat) (a_30 : Nat) (a_31 : Nat) (a_32 : Nat) (a_33 : Nat) (a_34 : Nat) (a_35 : Nat)   : mm_CI l yX11_date (mm_ws yX11_date cX11_date 5 (some .int)) ({ frames := 2, cells := 0, slots := 0, locals := 44 } : Room) G cy sz [(a_0, .inr (11, [.ref a_1, .ref a_2, .ref a_3, .ref a_4, .ref a_5, .ref a_6, .ref a_7, .ref a_8, .ref a_9, .ref a_10, .ref a_11])), (a_3, .inr (10, [.ref a_24, .ref a_25])), (a_24, .inr (0, [.int k_0, .int k_1, .int k_2, .int k_3, .int k_4, .int 0, .int k_5, .int k_6, .ref a_26, .ref a_27, .ref a_28, .ref a_29, .ref a_30, .ref a_31, .ref a_32, .ref a_33, .ref a_34, .ref a_35]))] [.ref a_0, .int i_0, .int i_1, .int i_2] (fun u : Unit => [(a_0, .inr (11, [.ref a_1, .ref a_2, .ref a_3, .ref a_4, .ref a_5, .ref a_6, .ref a_7, .ref a_8, .ref a_9, .ref a_10, .ref a_11])), (a_3, .inr (10, [.ref a_24, .ref a_25])), (a_24, .inr (0, [.int k_0, .int k_1, .int k_2, .int k_3, .int k_4, .int 0, .int k_5, .int k_6, .ref a_26, .ref a_27, .ref a_28, .ref a_29, .ref a_30, .ref a_31, .ref a_32, .ref a_33, .ref a_34, .ref a_35]))]) (fun (r : Int32) (u : Unit) => (-2) = r) 0 0 := by
  refine mm_begin (lv := [(0, .ref a_0), (1, .int i_0), (2, .int i_1), (3, .int i_2)]) (by decide) (Nat.le_of_ble_eq_true rfl) rfl ?_
  intro p e s m below meth c A ls R args Q H locs hRe hQ hAe hx hb hr hlocks hml hown hnm hts hsz hA hS hP hK hD hl
  have hRf : R.frames = 2 := by rw [hRe]
  have hRl : R.locals = 44 := by rw [hRe]
  have hRc : R.cells = 0 := by rw [hRe]
  have hRs : R.slots = 0 := by rw [hRe]
  refine lv_aload_n hx hb dX11_date_0 rfl (lv_at hl 0 rfl) ?_
  refine lv_iload_n hx hb dX11_date_1 rfl (lv_at hl 1 rfl) ?_
  refine lv_iload_n hx hb dX11_date_2 rfl (lv_at hl 2 rfl) ?_
  refine lv_iload_n hx hb dX11_date_3 rfl (lv_at hl 3 rfl) ?_
  refine mm_finir (va_runV (As := [.int i_0, .int i_1, .int i_2]) (rest := []) ⟨hx, hb, hml, hown, hts⟩ (K222_X11_letterTrouble l G cy H.size a_0 i_0 i_1 i_2 a_1 a_2 a_3 a_4 a_5 a_6 a_7 a_8 a_9 a_10 a_11 a_24 a_25 k_0 k_1 k_2 k_3 k_4 k_5 k_6 a_26 a_27 a_28 a_29 a_30 a_31 a_32 a_33 a_34 a_35 ) (cwV 3 hts (mm_gV mm_w1228 mm_w1229 mm_w1230 mm_w2 mm_w1231) rfl rfl rfl hd_X11_letterTrouble ⟨by rw [hRf]; exact Nat.le_of_ble_eq_true rfl, by rw [hRl]; exact Nat.le_of_ble_eq_true rfl⟩) (mm_preV hK hP hD [0, 1, 2] rfl rfl 0 rfl rfl rfl) rfl rfl hl.1 rfl (lv_room (Nat.le_of_ble_eq_true rfl)) dX11_date_4 ⟨by rw [hRc]; exact Nat.le_of_ble_eq_true rfl, by rw [hRs]; exact Nat.le_of_ble_eq_true rfl⟩) hP hD hS hA [0, 1, 2] rfl (fun _ => rfl) ?_
  clear hP hD hS
  clear H locs
  intro v1 _u H locs hw hP hD hS
  subst hw
  refine lv_istore (lv' := [(4, .int (-2)), (0, .ref a_0), (1, .int i_0), (2, .int i_1), (3, .int i_2)]) hx hb dX11_date_7 hl (by decide) rfl ?_
  clear hl
  clear ls
  intro ls hl
  refine lv_iload hx hb dX11_date_9 (lv_at hl 0 rfl) ?_
  refine lv_if_eq (tgt := 19) hx hb dX11_date_11 (by decide) (fun c2 => ?_) (fun c2 => ?_)
  · exact mm_eqN c2 mm_km2 mm_k0 (by decide)
  · refine lv_iload hx hb dX11_date_14 (lv_at hl 0 rfl) ?_
    refine lv_goto (tgt := 34) hx hb dX11_date_16 (by decide) ?_
    subst hAe
    rw [hQ]
    exact W.iret (v := (-2)) hx hb hr (fun t ht hW => ⟨⟨(-2), (), rfl, rfl, by rw [ht]; exact hP, hK.warm hW, hD⟩, hS.F ht⟩) hS.2.2 dX11_date_34

set_option maxHeartbeats 4000000 in
set_option maxRecDepth 100000 in
theorem K223_X12_date (l : Launch) (G : va_G) (cy : Nat → ClassId) (sz : Nat) (a_0 : Nat) (i_0 : Int32) (i_1 : Int32) (i_2 : Int32) (a_1 : Nat) (a_2 : Nat) (a_3 : Nat) (a_4 : Nat) (a_5 : Nat) (k_0 : Int32) (k_1 : Int32) (k_2 : Int32) (k_3 : Int32) (k_4 : Int32) (k_5 : Int64) (k_6 : Int32) (k_7 : Int32) (k_8 : Int32) (k_9 : Int32) (a_6 : Nat) (a_7 : Nat) (a_8 : Nat) (a_9 : Nat) (a_10 : Nat) (a_11 : Nat) (a_12 : Nat) (a_13 : Nat) (a_14 : Nat) (a_15 : Nat) (a_16 : Nat) (a_17 : Nat) (a_18 : Nat) (k_10 : Int32) (k_11 : Int32) (k_12 : Int32) (k_13 : Int32) (k_14 : Int32) (k_15 : Int32) (a_19 : Nat) (k_16 : Int32) (a_20 : Nat)   : mm_CI l yX12_date (mm_ws yX12_date cX12_date 6 (some .int)) ({ frames := 3, cells := 0, slots := 0, locals := 68 } : Room) G cy sz [(a_0, .inr (12, [.int 0, .ref a_1, .ref a_2, .ref a_3, .ref a_4, .ref a_5, .int k_0, .int k_1, .int k_2, .int k_3, .int k_4, .long k_5, .int k_6, .int k_7, .int k_8, .int k_9, .ref a_6, .ref a_7, .ref a_8, .ref a_9, .ref a_10, .ref a_11, .ref a_12, .ref a_13, .ref a_14, .ref a_15, .ref a_16, .ref a_17, .ref a_18, .int k_10, .int k_11, .int k_12, .int k_13, .int k_14, .int k_15, .ref a_19, .int k_16, .ref a_20])), (a_7, .inl (cy 1, 30, .inl (fun _ => 0)))] [.ref a_0, .int i_0, .int i_1, .int i_2] (fun u : Unit => [(a_0, .inr (12, [.int 0, .ref a_1, .ref a_2, .ref a_3, .ref a_4, .ref a_5, .int k_0, .int k_1, .int k_2, .int k_3, .int k_4, .long k_5, .int k_6, .int k_7, .int k_8, .int k_9, .ref a_6, .ref a_7, .ref a_8, .ref a_9, .ref a_10, .ref a_11, .ref a_12, .ref a_13, .ref a_14, .ref a_15, .ref a_16, .ref a_17, .ref a_18, .int k_10, .int k_11, .int k_12, .int k_13, .int k_14, .int k_15, .ref a_19, .int k_16, .ref a_20])), (a_7, .inl (cy 1, 30, .inl (fun _ => 0)))]) (fun (r : Int32) (u : Unit) => (-2) = r) 0 0 := by
  refine mm_begin (lv := [(0, .ref a_0), (1, .int i_0), (2, .int i_1), (3, .int i_2)]) (by decide) (Nat.le_of_ble_eq_true rfl) rfl ?_
  intro p e s m below meth c A ls R args Q H locs hRe hQ hAe hx hb hr hlocks hml hown hnm hts hsz hA hS hP hK hD hl
  have hRf : R.frames = 3 := by rw [hRe]
  have hRl : R.locals = 68 := by rw [hRe]
  have hRc : R.cells = 0 := by rw [hRe]
  have hRs : R.slots = 0 := by rw [hRe]
  refine lv_aload_n hx hb dX12_date_0 rfl (lv_at hl 0 rfl) ?_
  refine lv_iconst (v := 0) hx hb dX12_date_1 (by decide) ?_
  refine va_put (D := G) (ci := 12) (v := .int 0) (ty := tyX12 0) (C := RX12) (T := TX12) (N := 38) hx hb hts (mm_i inlX12) tyX12 tyX12_ok nmX12 hown hK.1 hP hD hS 0 rfl rfl 0 (by decide) (mm_h hts mm_w177) (fun _ h9 => h9) rfl (tyX12_ok 0 (by decide)) rfl rfl (Nat.le_of_ble_eq_true rfl) dX12_date_2 ?_
  clear hP hD hS
  clear H locs
  intro H locs (hP : va_P G vwCl [(a_0, .inr (12, [.int 0, .ref a_1, .ref a_2, .ref a_3, .ref a_4, .ref a_5, .int k_0, .int k_1, .int k_2, .int k_3, .int k_4, .long k_5, .int k_6, .int k_7, .int k_8, .int k_9, .ref a_6, .ref a_7, .ref a_8, .ref a_9, .ref a_10, .ref a_11, .ref a_12, .ref a_13, .ref a_14, .ref a_15, .ref a_16, .ref a_17, .ref a_18, .int k_10, .int k_11, .int k_12, .int k_13, .int k_14, .int k_15, .ref a_19, .int k_16, .ref a_20])), (a_7, .inl (cy 1, 30, .inl (fun _ => 0)))] H) (hD : va_D A [(a_0, .inr (12, [.int 0, .ref a_1, .ref a_2, .ref a_3, .ref a_4, .ref a_5, .int k_0, .int k_1, .int k_2, .int k_3, .int k_4, .long k_5, .int k_6, .int k_7, .int k_8, .int k_9, .ref a_6, .ref a_7, .ref a_8, .ref a_9, .ref a_10, .ref a_11, .ref a_12, .ref a_13, .ref a_14, .ref a_15, .ref a_16, .ref a_17, .ref a_18, .int k_10, .int k_11, .int k_12, .int k_13, .int k_14, .int k_15, .ref a_19, .int k_16, .ref a_20])), (a_7, .inl (cy 1, 30, .inl (fun _ => 0)))]) hS
  refine lv_aload_n hx hb dX12_date_5 rfl (lv_at hl 0 rfl) ?_
  refine lv_iload_n hx hb dX12_date_6 rfl (lv_at hl 1 rfl) ?_
  refine lv_aload_n hx hb dX12_date_7 rfl (lv_at hl 0 rfl) ?_
  refine lv_iload_n hx hb dX12_date_8 rfl (lv_at hl 2 rfl) ?_
  refine lv_iload_n hx hb dX12_date_9 rfl (lv_at hl 3 rfl) ?_
  refine mm_finir (va_runV (As := [.int i_1, .int i_2]) (rest := [.int i_0, .ref a_0]) ⟨hx, hb, hml, hown, hts⟩ (K131_X12_isThen l G cy H.size a_0 i_1 i_2 0 a_1 a_2 a_3 a_4 a_5 k_0 k_1 k_2 k_3 k_4 k_5 k_6 k_7 k_8 k_9 a_6 a_7 a_8 a_9 a_10 a_11 a_12 a_13 a_14 a_15 a_16 a_17 a_18 k_10 k_11 k_12 k_13 k_14 k_15 a_19 k_16 a_20 ) (cwV 2 hts (mm_gV mm_w678 mm_w679 mm_w680 mm_w5 mm_w681) rfl rfl rfl hd_X12_isThen ⟨by rw [hRf]; exact Nat.le_of_ble_eq_true rfl, by rw [hRl]; exact Nat.le_of_ble_eq_true rfl⟩) (mm_preV hK hP hD [0, 1] rfl rfl 0 rfl rfl rfl) rfl rfl hl.1 rfl (lv_room (Nat.le_of_ble_eq_true rfl)) dX12_date_10 ⟨by rw [hRc]; exact Nat.le_of_ble_eq_true rfl, by rw [hRs]; exact Nat.le_of_ble_eq_true rfl⟩) hP hD hS hA [0, 1] rfl (fun _ => rfl) ?_
  clear hP hD hS
  clear H locs
  intro v1 _u H locs hw hP hD hS
  subst hw
  refine mm_finir (va_runV (As := [.int i_0, .int 0]) (rest := []) ⟨hx, hb, hml, hown, hts⟩ (K218_X12_whyNot l G cy H.size a_0 i_0 ) (cwV 2 hts (mm_gV mm_w1265 mm_w1266 mm_w1267 mm_w5 mm_w1268) rfl rfl rfl hd_X12_whyNot ⟨by rw [hRf]; exact Nat.le_of_ble_eq_true rfl, by rw [hRl]; exact Nat.le_of_ble_eq_true rfl⟩) (mm_preV hK hP hD [] rfl rfl 0 rfl rfl rfl) rfl rfl hl.1 rfl (lv_room (Nat.le_of_ble_eq_true rfl)) dX12_date_13 ⟨by rw [hRc]; exact Nat.le_of_ble_eq_true rfl, by rw [hRs]; exact Nat.le_of_ble_eq_true rfl⟩) hP hD hS hA [] rfl (fun _ => rfl) ?_
  clear hP hD hS
  clear H locs
  intro v2 _u H locs hw hP hD hS
  subst hw
  refine lv_istore (lv' := [(4, .int (-2)), (0, .ref a_0), (1, .int i_0), (2, .int i_1), (3, .int i_2)]) hx hb dX12_date_16 hl (by decide) rfl ?_
  clear hl
  clear ls
  intro ls hl
  refine lv_iload hx hb dX12_date_18 (lv_at hl 0 rfl) ?_
  refine lv_if_eq (tgt := 26) hx hb dX12_date_20 (by decide) (fun c3 => ?_) (fun c3 => ?_)
  · exact mm_eqN c3 mm_km2 mm_k0 (by decide)
  · refine lv_iload hx hb dX12_date_23 (lv_at hl 0 rfl) ?_
    subst hAe
    rw [hQ]
    exact W.iret (v := (-2)) hx hb hr (fun t ht hW => ⟨⟨(-2), (), rfl, rfl, by rw [ht]; exact hP, hK.warm hW, hD⟩, hS.F ht⟩) hS.2.2 dX12_date_25

set_option maxHeartbeats 4000000 in
set_option maxRecDepth 100000 in
theorem K224_X11_ask (l : Launch) (G : va_G) (cy : Nat → ClassId) (sz : Nat) (a_0 : Nat) (i_0 : Int32) (i_1 : Int32) (a_1 : Nat) (a_2 : Nat) (a_3 : Nat) (a_4 : Nat) (a_5 : Nat) (a_6 : Nat) (a_7 : Nat) (a_8 : Nat) (a_9 : Nat) (a_10 : Nat) (a_11 : Nat) (a_24 : Nat) (a_25 : Nat) (k_0 : Int32) (k_1 : Int32) (k_2 : Int32) (k_3 : Int32) (k_4 : Int32) (k_5 : Int32) (k_6 : Int32) (a_26 : Nat) (a_27 : Nat) (a_28 : Nat) (a_29 : Nat) (a_30 : Nat) (a_31 : Nat) (a_32 : Nat) (a_33 : Nat) (a_34 : Nat) (a_35 : Nat)   : mm_CI l yX11_ask (mm_ws yX11_ask cX11_ask 4 (some .int)) ({ frames := 2, cells := 0, slots := 0, locals := 44 } : Room) G cy sz [(a_0, .inr (11, [.ref a_1, .ref a_2, .ref a_3, .ref a_4, .ref a_5, .ref a_6, .ref a_7, .ref a_8, .ref a_9, .ref a_10, .ref a_11])), (a_3, .inr (10, [.ref a_24, .ref a_25])), (a_24, .inr (0, [.int k_0, .int k_1, .int k_2, .int k_3, .int k_4, .int 0, .int k_5, .int k_6, .ref a_26, .ref a_27, .ref a_28, .ref a_29, .ref a_30, .ref a_31, .ref a_32, .ref a_33, .ref a_34, .ref a_35]))] [.ref a_0, .int i_0, .int i_1] (fun u : Unit => [(a_0, .inr (11, [.ref a_1, .ref a_2, .ref a_3, .ref a_4, .ref a_5, .ref a_6, .ref a_7, .ref a_8, .ref a_9, .ref a_10, .ref a_11])), (a_3, .inr (10, [.ref a_24, .ref a_25])), (a_24, .inr (0, [.int k_0, .int k_1, .int k_2, .int k_3, .int k_4, .int 0, .int k_5, .int k_6, .ref a_26, .ref a_27, .ref a_28, .ref a_29, .ref a_30, .ref a_31, .ref a_32, .ref a_33, .ref a_34, .ref a_35]))]) (fun (r : Int32) (u : Unit) => (-2) = r) 0 0 := by
  refine mm_begin (lv := [(0, .ref a_0), (1, .int i_0), (2, .int i_1)]) (by decide) (Nat.le_of_ble_eq_true rfl) rfl ?_
  intro p e s m below meth c A ls R args Q H locs hRe hQ hAe hx hb hr hlocks hml hown hnm hts hsz hA hS hP hK hD hl
  have hRf : R.frames = 2 := by rw [hRe]
  have hRl : R.locals = 44 := by rw [hRe]
  have hRc : R.cells = 0 := by rw [hRe]
  have hRs : R.slots = 0 := by rw [hRe]
  refine lv_aload_n hx hb dX11_ask_0 rfl (lv_at hl 0 rfl) ?_
  refine lv_iload_n hx hb dX11_ask_1 rfl (lv_at hl 1 rfl) ?_
  refine lv_iload_n hx hb dX11_ask_2 rfl (lv_at hl 2 rfl) ?_
  refine lv_iconst (v := 0) hx hb dX11_ask_3 (by decide) ?_
  refine mm_finir (va_runV (As := [.int i_0, .int i_1, .int 0]) (rest := []) ⟨hx, hb, hml, hown, hts⟩ (K215_X11_letterTrouble l G cy H.size a_0 i_0 i_1 a_1 a_2 a_3 a_4 a_5 a_6 a_7 a_8 a_9 a_10 a_11 a_24 a_25 k_0 k_1 k_2 k_3 k_4 k_5 k_6 a_26 a_27 a_28 a_29 a_30 a_31 a_32 a_33 a_34 a_35 ) (cwV 3 hts (mm_gV mm_w1228 mm_w1229 mm_w1230 mm_w2 mm_w1231) rfl rfl rfl hd_X11_letterTrouble ⟨by rw [hRf]; exact Nat.le_of_ble_eq_true rfl, by rw [hRl]; exact Nat.le_of_ble_eq_true rfl⟩) (mm_preV hK hP hD [0, 1, 2] rfl rfl 0 rfl rfl rfl) rfl rfl hl.1 rfl (lv_room (Nat.le_of_ble_eq_true rfl)) dX11_ask_4 ⟨by rw [hRc]; exact Nat.le_of_ble_eq_true rfl, by rw [hRs]; exact Nat.le_of_ble_eq_true rfl⟩) hP hD hS hA [0, 1, 2] rfl (fun _ => rfl) ?_
  clear hP hD hS
  clear H locs
  intro v1 _u H locs hw hP hD hS
  subst hw
  refine lv_istore_n (lv' := [(3, .int (-2)), (0, .ref a_0), (1, .int i_0), (2, .int i_1)]) hx hb dX11_ask_7 rfl hl (by decide) rfl ?_
  clear hl
  clear ls
  intro ls hl
  refine lv_iload_n hx hb dX11_ask_8 rfl (lv_at hl 0 rfl) ?_
  refine lv_if_eq (tgt := 14) hx hb dX11_ask_9 (by decide) (fun c2 => ?_) (fun c2 => ?_)
  · exact mm_eqN c2 mm_km2 mm_k0 (by decide)
  · refine lv_iload_n hx hb dX11_ask_12 rfl (lv_at hl 0 rfl) ?_
    subst hAe
    rw [hQ]
    exact W.iret (v := (-2)) hx hb hr (fun t ht hW => ⟨⟨(-2), (), rfl, rfl, by rw [ht]; exact hP, hK.warm hW, hD⟩, hS.F ht⟩) hS.2.2 dX11_ask_13

set_option maxHeartbeats 4000000 in
set_option maxRecDepth 100000 in
theorem K225_X12_ask (l : Launch) (G : va_G) (cy : Nat → ClassId) (sz : Nat) (a_0 : Nat) (i_0 : Int32) (i_1 : Int32) (a_1 : Nat) (a_2 : Nat) (a_3 : Nat) (a_4 : Nat) (a_5 : Nat) (k_0 : Int32) (k_1 : Int32) (k_2 : Int32) (k_3 : Int32) (k_4 : Int32) (k_5 : Int64) (k_6 : Int32) (k_7 : Int32) (k_8 : Int32) (k_9 : Int32) (a_6 : Nat) (a_7 : Nat) (a_8 : Nat) (a_9 : Nat) (a_10 : Nat) (a_11 : Nat) (a_12 : Nat) (a_13 : Nat) (a_14 : Nat) (a_15 : Nat) (a_16 : Nat) (a_17 : Nat) (a_18 : Nat) (k_10 : Int32) (k_11 : Int32) (k_12 : Int32) (k_13 : Int32) (k_14 : Int32) (k_15 : Int32) (a_19 : Nat) (k_16 : Int32) (a_20 : Nat)   : mm_CI l yX12_ask (mm_ws yX12_ask cX12_ask 4 (some .int)) ({ frames := 3, cells := 0, slots := 0, locals := 68 } : Room) G cy sz [(a_0, .inr (12, [.int 0, .ref a_1, .ref a_2, .ref a_3, .ref a_4, .ref a_5, .int k_0, .int k_1, .int k_2, .int k_3, .int k_4, .long k_5, .int k_6, .int k_7, .int k_8, .int k_9, .ref a_6, .ref a_7, .ref a_8, .ref a_9, .ref a_10, .ref a_11, .ref a_12, .ref a_13, .ref a_14, .ref a_15, .ref a_16, .ref a_17, .ref a_18, .int k_10, .int k_11, .int k_12, .int k_13, .int k_14, .int k_15, .ref a_19, .int k_16, .ref a_20])), (a_7, .inl (cy 1, 30, .inl (fun _ => 0)))] [.ref a_0, .int i_0, .int i_1] (fun u : Unit => [(a_0, .inr (12, [.int 0, .ref a_1, .ref a_2, .ref a_3, .ref a_4, .ref a_5, .int k_0, .int k_1, .int k_2, .int k_3, .int k_4, .long k_5, .int k_6, .int k_7, .int k_8, .int k_9, .ref a_6, .ref a_7, .ref a_8, .ref a_9, .ref a_10, .ref a_11, .ref a_12, .ref a_13, .ref a_14, .ref a_15, .ref a_16, .ref a_17, .ref a_18, .int k_10, .int k_11, .int k_12, .int k_13, .int k_14, .int k_15, .ref a_19, .int k_16, .ref a_20])), (a_7, .inl (cy 1, 30, .inl (fun _ => 0)))]) (fun (r : Int32) (u : Unit) => (-2) = r) 0 0 := by
  refine mm_begin (lv := [(0, .ref a_0), (1, .int i_0), (2, .int i_1)]) (by decide) (Nat.le_of_ble_eq_true rfl) rfl ?_
  intro p e s m below meth c A ls R args Q H locs hRe hQ hAe hx hb hr hlocks hml hown hnm hts hsz hA hS hP hK hD hl
  have hRf : R.frames = 3 := by rw [hRe]
  have hRl : R.locals = 68 := by rw [hRe]
  have hRc : R.cells = 0 := by rw [hRe]
  have hRs : R.slots = 0 := by rw [hRe]
  refine lv_aload_n hx hb dX12_ask_0 rfl (lv_at hl 0 rfl) ?_
  refine lv_iconst (v := 0) hx hb dX12_ask_1 (by decide) ?_
  refine va_put (D := G) (ci := 12) (v := .int 0) (ty := tyX12 0) (C := RX12) (T := TX12) (N := 38) hx hb hts (mm_i inlX12) tyX12 tyX12_ok nmX12 hown hK.1 hP hD hS 0 rfl rfl 0 (by decide) (mm_h hts mm_w177) (fun _ h9 => h9) rfl (tyX12_ok 0 (by decide)) rfl rfl (Nat.le_of_ble_eq_true rfl) dX12_ask_2 ?_
  clear hP hD hS
  clear H locs
  intro H locs (hP : va_P G vwCl [(a_0, .inr (12, [.int 0, .ref a_1, .ref a_2, .ref a_3, .ref a_4, .ref a_5, .int k_0, .int k_1, .int k_2, .int k_3, .int k_4, .long k_5, .int k_6, .int k_7, .int k_8, .int k_9, .ref a_6, .ref a_7, .ref a_8, .ref a_9, .ref a_10, .ref a_11, .ref a_12, .ref a_13, .ref a_14, .ref a_15, .ref a_16, .ref a_17, .ref a_18, .int k_10, .int k_11, .int k_12, .int k_13, .int k_14, .int k_15, .ref a_19, .int k_16, .ref a_20])), (a_7, .inl (cy 1, 30, .inl (fun _ => 0)))] H) (hD : va_D A [(a_0, .inr (12, [.int 0, .ref a_1, .ref a_2, .ref a_3, .ref a_4, .ref a_5, .int k_0, .int k_1, .int k_2, .int k_3, .int k_4, .long k_5, .int k_6, .int k_7, .int k_8, .int k_9, .ref a_6, .ref a_7, .ref a_8, .ref a_9, .ref a_10, .ref a_11, .ref a_12, .ref a_13, .ref a_14, .ref a_15, .ref a_16, .ref a_17, .ref a_18, .int k_10, .int k_11, .int k_12, .int k_13, .int k_14, .int k_15, .ref a_19, .int k_16, .ref a_20])), (a_7, .inl (cy 1, 30, .inl (fun _ => 0)))]) hS
  refine lv_aload_n hx hb dX12_ask_5 rfl (lv_at hl 0 rfl) ?_
  refine lv_iload_n hx hb dX12_ask_6 rfl (lv_at hl 1 rfl) ?_
  refine lv_aload_n hx hb dX12_ask_7 rfl (lv_at hl 0 rfl) ?_
  refine lv_iload_n hx hb dX12_ask_8 rfl (lv_at hl 2 rfl) ?_
  refine mm_finir (va_runV (As := [.int i_1]) (rest := [.int i_0, .ref a_0]) ⟨hx, hb, hml, hown, hts⟩ (K126_X12_isLand l G cy H.size a_0 i_1 0 a_1 a_2 a_3 a_4 a_5 k_0 k_1 k_2 k_3 k_4 k_5 k_6 k_7 k_8 k_9 a_6 a_7 a_8 a_9 a_10 a_11 a_12 a_13 a_14 a_15 a_16 a_17 a_18 k_10 k_11 k_12 k_13 k_14 k_15 a_19 k_16 a_20 ) (cwV 1 hts (mm_gV mm_w641 mm_w642 mm_w643 mm_w5 mm_w644) rfl rfl rfl hd_X12_isLand ⟨by rw [hRf]; exact Nat.le_of_ble_eq_true rfl, by rw [hRl]; exact Nat.le_of_ble_eq_true rfl⟩) (mm_preV hK hP hD [0, 1] rfl rfl 0 rfl rfl rfl) rfl rfl hl.1 rfl (lv_room (Nat.le_of_ble_eq_true rfl)) dX12_ask_9 ⟨by rw [hRc]; exact Nat.le_of_ble_eq_true rfl, by rw [hRs]; exact Nat.le_of_ble_eq_true rfl⟩) hP hD hS hA [0, 1] rfl (fun _ => rfl) ?_
  clear hP hD hS
  clear H locs
  intro v1 _u H locs hw hP hD hS
  subst hw
  refine mm_finir (va_runV (As := [.int i_0, .int 0]) (rest := []) ⟨hx, hb, hml, hown, hts⟩ (K218_X12_whyNot l G cy H.size a_0 i_0 ) (cwV 2 hts (mm_gV mm_w1265 mm_w1266 mm_w1267 mm_w5 mm_w1268) rfl rfl rfl hd_X12_whyNot ⟨by rw [hRf]; exact Nat.le_of_ble_eq_true rfl, by rw [hRl]; exact Nat.le_of_ble_eq_true rfl⟩) (mm_preV hK hP hD [] rfl rfl 0 rfl rfl rfl) rfl rfl hl.1 rfl (lv_room (Nat.le_of_ble_eq_true rfl)) dX12_ask_12 ⟨by rw [hRc]; exact Nat.le_of_ble_eq_true rfl, by rw [hRs]; exact Nat.le_of_ble_eq_true rfl⟩) hP hD hS hA [] rfl (fun _ => rfl) ?_
  clear hP hD hS
  clear H locs
  intro v2 _u H locs hw hP hD hS
  subst hw
  refine lv_istore_n (lv' := [(3, .int (-2)), (0, .ref a_0), (1, .int i_0), (2, .int i_1)]) hx hb dX12_ask_15 rfl hl (by decide) rfl ?_
  clear hl
  clear ls
  intro ls hl
  refine lv_iload_n hx hb dX12_ask_16 rfl (lv_at hl 0 rfl) ?_
  refine lv_if_eq (tgt := 22) hx hb dX12_ask_17 (by decide) (fun c3 => ?_) (fun c3 => ?_)
  · exact mm_eqN c3 mm_km2 mm_k0 (by decide)
  · refine lv_iload_n hx hb dX12_ask_20 rfl (lv_at hl 0 rfl) ?_
    subst hAe
    rw [hQ]
    exact W.iret (v := (-2)) hx hb hr (fun t ht hW => ⟨⟨(-2), (), rfl, rfl, by rw [ht]; exact hP, hK.warm hW, hD⟩, hS.F ht⟩) hS.2.2 dX12_ask_21

set_option maxHeartbeats 4000000 in
set_option maxRecDepth 100000 in
theorem K226_X11_leaves (l : Launch) (G : va_G) (cy : Nat → ClassId) (sz : Nat) (a_0 : Nat) (i_0 : Int32) (i_1 : Int32) (a_1 : Nat) (a_2 : Nat) (a_3 : Nat) (a_4 : Nat) (a_5 : Nat) (a_6 : Nat) (a_7 : Nat) (a_8 : Nat) (a_9 : Nat) (a_10 : Nat) (a_11 : Nat) (a_24 : Nat) (a_25 : Nat) (k_0 : Int32) (k_1 : Int32) (k_2 : Int32) (k_3 : Int32) (k_4 : Int32) (k_5 : Int32) (k_6 : Int32) (a_26 : Nat) (a_27 : Nat) (a_28 : Nat) (a_29 : Nat) (a_30 : Nat) (a_31 : Nat) (a_32 : Nat) (a_33 : Nat) (a_34 : Nat) (a_35 : Nat)   : mm_CI l yX11_leaves (mm_ws yX11_leaves cX11_leaves 6 (some .int)) ({ frames := 2, cells := 0, slots := 0, locals := 44 } : Room) G cy sz [(a_0, .inr (11, [.ref a_1, .ref a_2, .ref a_3, .ref a_4, .ref a_5, .ref a_6, .ref a_7, .ref a_8, .ref a_9, .ref a_10, .ref a_11])), (a_3, .inr (10, [.ref a_24, .ref a_25])), (a_24, .inr (0, [.int k_0, .int k_1, .int k_2, .int k_3, .int k_4, .int 0, .int k_5, .int k_6, .ref a_26, .ref a_27, .ref a_28, .ref a_29, .ref a_30, .ref a_31, .ref a_32, .ref a_33, .ref a_34, .ref a_35]))] [.ref a_0, .int i_0, .int i_1] (fun u : Unit => [(a_0, .inr (11, [.ref a_1, .ref a_2, .ref a_3, .ref a_4, .ref a_5, .ref a_6, .ref a_7, .ref a_8, .ref a_9, .ref a_10, .ref a_11])), (a_3, .inr (10, [.ref a_24, .ref a_25])), (a_24, .inr (0, [.int k_0, .int k_1, .int k_2, .int k_3, .int k_4, .int 0, .int k_5, .int k_6, .ref a_26, .ref a_27, .ref a_28, .ref a_29, .ref a_30, .ref a_31, .ref a_32, .ref a_33, .ref a_34, .ref a_35]))]) (fun (r : Int32) (u : Unit) => (-2) = r) 0 0 := by
  refine mm_begin (lv := [(0, .ref a_0), (1, .int i_0), (2, .int i_1)]) (by decide) (Nat.le_of_ble_eq_true rfl) rfl ?_
  intro p e s m below meth c A ls R args Q H locs hRe hQ hAe hx hb hr hlocks hml hown hnm hts hsz hA hS hP hK hD hl
  have hRf : R.frames = 2 := by rw [hRe]
  have hRl : R.locals = 44 := by rw [hRe]
  have hRc : R.cells = 0 := by rw [hRe]
  have hRs : R.slots = 0 := by rw [hRe]
  refine lv_aload_n hx hb dX11_leaves_0 rfl (lv_at hl 0 rfl) ?_
  refine lv_iload_n hx hb dX11_leaves_1 rfl (lv_at hl 1 rfl) ?_
  refine lv_iload_n hx hb dX11_leaves_2 rfl (lv_at hl 2 rfl) ?_
  refine lv_iconst (v := 0) hx hb dX11_leaves_3 (by decide) ?_
  refine mm_finir (va_runV (As := [.int i_0, .int i_1, .int 0]) (rest := []) ⟨hx, hb, hml, hown, hts⟩ (K215_X11_letterTrouble l G cy H.size a_0 i_0 i_1 a_1 a_2 a_3 a_4 a_5 a_6 a_7 a_8 a_9 a_10 a_11 a_24 a_25 k_0 k_1 k_2 k_3 k_4 k_5 k_6 a_26 a_27 a_28 a_29 a_30 a_31 a_32 a_33 a_34 a_35 ) (cwV 3 hts (mm_gV mm_w1228 mm_w1229 mm_w1230 mm_w2 mm_w1231) rfl rfl rfl hd_X11_letterTrouble ⟨by rw [hRf]; exact Nat.le_of_ble_eq_true rfl, by rw [hRl]; exact Nat.le_of_ble_eq_true rfl⟩) (mm_preV hK hP hD [0, 1, 2] rfl rfl 0 rfl rfl rfl) rfl rfl hl.1 rfl (lv_room (Nat.le_of_ble_eq_true rfl)) dX11_leaves_4 ⟨by rw [hRc]; exact Nat.le_of_ble_eq_true rfl, by rw [hRs]; exact Nat.le_of_ble_eq_true rfl⟩) hP hD hS hA [0, 1, 2] rfl (fun _ => rfl) ?_
  clear hP hD hS
  clear H locs
  intro v1 _u H locs hw hP hD hS
  subst hw
  refine lv_istore_n (lv' := [(3, .int (-2)), (0, .ref a_0), (1, .int i_0), (2, .int i_1)]) hx hb dX11_leaves_7 rfl hl (by decide) rfl ?_
  clear hl
  clear ls
  intro ls hl
  refine lv_iload_n hx hb dX11_leaves_8 rfl (lv_at hl 0 rfl) ?_
  refine lv_if_eq (tgt := 14) hx hb dX11_leaves_9 (by decide) (fun c2 => ?_) (fun c2 => ?_)
  · exact mm_eqN c2 mm_km2 mm_k0 (by decide)
  · refine lv_iload_n hx hb dX11_leaves_12 rfl (lv_at hl 0 rfl) ?_
    subst hAe
    rw [hQ]
    exact W.iret (v := (-2)) hx hb hr (fun t ht hW => ⟨⟨(-2), (), rfl, rfl, by rw [ht]; exact hP, hK.warm hW, hD⟩, hS.F ht⟩) hS.2.2 dX11_leaves_13

set_option maxHeartbeats 4000000 in
set_option maxRecDepth 100000 in
theorem K227_X12_leaves (l : Launch) (G : va_G) (cy : Nat → ClassId) (sz : Nat) (a_0 : Nat) (i_0 : Int32) (i_1 : Int32) (a_1 : Nat) (a_2 : Nat) (a_3 : Nat) (a_4 : Nat) (a_5 : Nat) (k_0 : Int32) (k_1 : Int32) (k_2 : Int32) (k_3 : Int32) (k_4 : Int32) (k_5 : Int64) (k_6 : Int32) (k_7 : Int32) (k_8 : Int32) (k_9 : Int32) (a_6 : Nat) (a_7 : Nat) (a_8 : Nat) (a_9 : Nat) (a_10 : Nat) (a_11 : Nat) (a_12 : Nat) (a_13 : Nat) (a_14 : Nat) (a_15 : Nat) (a_16 : Nat) (a_17 : Nat) (a_18 : Nat) (k_10 : Int32) (k_11 : Int32) (k_12 : Int32) (k_13 : Int32) (k_14 : Int32) (k_15 : Int32) (a_19 : Nat) (k_16 : Int32) (a_20 : Nat)   : mm_CI l yX12_leaves (mm_ws yX12_leaves cX12_leaves 4 (some .int)) ({ frames := 3, cells := 0, slots := 0, locals := 68 } : Room) G cy sz [(a_0, .inr (12, [.int 0, .ref a_1, .ref a_2, .ref a_3, .ref a_4, .ref a_5, .int k_0, .int k_1, .int k_2, .int k_3, .int k_4, .long k_5, .int k_6, .int k_7, .int k_8, .int k_9, .ref a_6, .ref a_7, .ref a_8, .ref a_9, .ref a_10, .ref a_11, .ref a_12, .ref a_13, .ref a_14, .ref a_15, .ref a_16, .ref a_17, .ref a_18, .int k_10, .int k_11, .int k_12, .int k_13, .int k_14, .int k_15, .ref a_19, .int k_16, .ref a_20])), (a_7, .inl (cy 1, 30, .inl (fun _ => 0)))] [.ref a_0, .int i_0, .int i_1] (fun u : Unit => [(a_0, .inr (12, [.int 0, .ref a_1, .ref a_2, .ref a_3, .ref a_4, .ref a_5, .int k_0, .int k_1, .int k_2, .int k_3, .int k_4, .long k_5, .int k_6, .int k_7, .int k_8, .int k_9, .ref a_6, .ref a_7, .ref a_8, .ref a_9, .ref a_10, .ref a_11, .ref a_12, .ref a_13, .ref a_14, .ref a_15, .ref a_16, .ref a_17, .ref a_18, .int k_10, .int k_11, .int k_12, .int k_13, .int k_14, .int k_15, .ref a_19, .int k_16, .ref a_20])), (a_7, .inl (cy 1, 30, .inl (fun _ => 0)))]) (fun (r : Int32) (u : Unit) => (-2) = r) 0 0 := by
  refine mm_begin (lv := [(0, .ref a_0), (1, .int i_0), (2, .int i_1)]) (by decide) (Nat.le_of_ble_eq_true rfl) rfl ?_
  intro p e s m below meth c A ls R args Q H locs hRe hQ hAe hx hb hr hlocks hml hown hnm hts hsz hA hS hP hK hD hl
  have hRf : R.frames = 3 := by rw [hRe]
  have hRl : R.locals = 68 := by rw [hRe]
  have hRc : R.cells = 0 := by rw [hRe]
  have hRs : R.slots = 0 := by rw [hRe]
  refine lv_aload_n hx hb dX12_leaves_0 rfl (lv_at hl 0 rfl) ?_
  refine lv_iconst (v := 0) hx hb dX12_leaves_1 (by decide) ?_
  refine va_put (D := G) (ci := 12) (v := .int 0) (ty := tyX12 0) (C := RX12) (T := TX12) (N := 38) hx hb hts (mm_i inlX12) tyX12 tyX12_ok nmX12 hown hK.1 hP hD hS 0 rfl rfl 0 (by decide) (mm_h hts mm_w177) (fun _ h9 => h9) rfl (tyX12_ok 0 (by decide)) rfl rfl (Nat.le_of_ble_eq_true rfl) dX12_leaves_2 ?_
  clear hP hD hS
  clear H locs
  intro H locs (hP : va_P G vwCl [(a_0, .inr (12, [.int 0, .ref a_1, .ref a_2, .ref a_3, .ref a_4, .ref a_5, .int k_0, .int k_1, .int k_2, .int k_3, .int k_4, .long k_5, .int k_6, .int k_7, .int k_8, .int k_9, .ref a_6, .ref a_7, .ref a_8, .ref a_9, .ref a_10, .ref a_11, .ref a_12, .ref a_13, .ref a_14, .ref a_15, .ref a_16, .ref a_17, .ref a_18, .int k_10, .int k_11, .int k_12, .int k_13, .int k_14, .int k_15, .ref a_19, .int k_16, .ref a_20])), (a_7, .inl (cy 1, 30, .inl (fun _ => 0)))] H) (hD : va_D A [(a_0, .inr (12, [.int 0, .ref a_1, .ref a_2, .ref a_3, .ref a_4, .ref a_5, .int k_0, .int k_1, .int k_2, .int k_3, .int k_4, .long k_5, .int k_6, .int k_7, .int k_8, .int k_9, .ref a_6, .ref a_7, .ref a_8, .ref a_9, .ref a_10, .ref a_11, .ref a_12, .ref a_13, .ref a_14, .ref a_15, .ref a_16, .ref a_17, .ref a_18, .int k_10, .int k_11, .int k_12, .int k_13, .int k_14, .int k_15, .ref a_19, .int k_16, .ref a_20])), (a_7, .inl (cy 1, 30, .inl (fun _ => 0)))]) hS
  refine lv_aload_n hx hb dX12_leaves_5 rfl (lv_at hl 0 rfl) ?_
  refine lv_iload_n hx hb dX12_leaves_6 rfl (lv_at hl 1 rfl) ?_
  refine lv_aload_n hx hb dX12_leaves_7 rfl (lv_at hl 0 rfl) ?_
  refine lv_iload_n hx hb dX12_leaves_8 rfl (lv_at hl 2 rfl) ?_
  refine mm_finir (va_runV (As := [.int i_1]) (rest := [.int i_0, .ref a_0]) ⟨hx, hb, hml, hown, hts⟩ (K126_X12_isLand l G cy H.size a_0 i_1 0 a_1 a_2 a_3 a_4 a_5 k_0 k_1 k_2 k_3 k_4 k_5 k_6 k_7 k_8 k_9 a_6 a_7 a_8 a_9 a_10 a_11 a_12 a_13 a_14 a_15 a_16 a_17 a_18 k_10 k_11 k_12 k_13 k_14 k_15 a_19 k_16 a_20 ) (cwV 1 hts (mm_gV mm_w641 mm_w642 mm_w643 mm_w5 mm_w644) rfl rfl rfl hd_X12_isLand ⟨by rw [hRf]; exact Nat.le_of_ble_eq_true rfl, by rw [hRl]; exact Nat.le_of_ble_eq_true rfl⟩) (mm_preV hK hP hD [0, 1] rfl rfl 0 rfl rfl rfl) rfl rfl hl.1 rfl (lv_room (Nat.le_of_ble_eq_true rfl)) dX12_leaves_9 ⟨by rw [hRc]; exact Nat.le_of_ble_eq_true rfl, by rw [hRs]; exact Nat.le_of_ble_eq_true rfl⟩) hP hD hS hA [0, 1] rfl (fun _ => rfl) ?_
  clear hP hD hS
  clear H locs
  intro v1 _u H locs hw hP hD hS
  subst hw
  refine mm_finir (va_runV (As := [.int i_0, .int 0]) (rest := []) ⟨hx, hb, hml, hown, hts⟩ (K218_X12_whyNot l G cy H.size a_0 i_0 ) (cwV 2 hts (mm_gV mm_w1265 mm_w1266 mm_w1267 mm_w5 mm_w1268) rfl rfl rfl hd_X12_whyNot ⟨by rw [hRf]; exact Nat.le_of_ble_eq_true rfl, by rw [hRl]; exact Nat.le_of_ble_eq_true rfl⟩) (mm_preV hK hP hD [] rfl rfl 0 rfl rfl rfl) rfl rfl hl.1 rfl (lv_room (Nat.le_of_ble_eq_true rfl)) dX12_leaves_12 ⟨by rw [hRc]; exact Nat.le_of_ble_eq_true rfl, by rw [hRs]; exact Nat.le_of_ble_eq_true rfl⟩) hP hD hS hA [] rfl (fun _ => rfl) ?_
  clear hP hD hS
  clear H locs
  intro v2 _u H locs hw hP hD hS
  subst hw
  refine lv_istore_n (lv' := [(3, .int (-2)), (0, .ref a_0), (1, .int i_0), (2, .int i_1)]) hx hb dX12_leaves_15 rfl hl (by decide) rfl ?_
  clear hl
  clear ls
  intro ls hl
  refine lv_iload_n hx hb dX12_leaves_16 rfl (lv_at hl 0 rfl) ?_
  refine lv_if_eq (tgt := 22) hx hb dX12_leaves_17 (by decide) (fun c3 => ?_) (fun c3 => ?_)
  · exact mm_eqN c3 mm_km2 mm_k0 (by decide)
  · refine lv_iload_n hx hb dX12_leaves_20 rfl (lv_at hl 0 rfl) ?_
    subst hAe
    rw [hQ]
    exact W.iret (v := (-2)) hx hb hr (fun t ht hW => ⟨⟨(-2), (), rfl, rfl, by rw [ht]; exact hP, hK.warm hW, hD⟩, hS.F ht⟩) hS.2.2 dX12_leaves_21

set_option maxHeartbeats 4000000 in
set_option maxRecDepth 100000 in
theorem K228_X11_isDay (l : Launch) (G : va_G) (cy : Nat → ClassId) (sz : Nat) (i_0 : Int32)   : mm_CI l yX11_isDay (mm_ws yX11_isDay cX11_isDay 1 (some .boolean)) ({ frames := 0, cells := 0, slots := 0, locals := 0 } : Room) G cy sz [] [.int i_0] (fun u : Unit => []) (fun (r : Int32) (u : Unit) => ((0 = r ∧ mm_rg i_0 (-2147483648) (-1)) ∨ (0 = r ∧ mm_rg i_0 1000000001 2147483647) ∨ (1 = r ∧ mm_rg i_0 0 1000000000))) 0 0 := by
  refine mm_begin (lv := [(0, .int i_0)]) (by decide) (Nat.le_of_ble_eq_true rfl) rfl ?_
  intro p e s m below meth c A ls R args Q H locs hRe hQ hAe hx hb hr hlocks hml hown hnm hts hsz hA hS hP hK hD hl
  have hRf : R.frames = 0 := by rw [hRe]
  have hRl : R.locals = 0 := by rw [hRe]
  have hRc : R.cells = 0 := by rw [hRe]
  have hRs : R.slots = 0 := by rw [hRe]
  refine lv_iload_n hx hb dX11_isDay_0 rfl (lv_at hl 0 rfl) ?_
  refine lv_if_lt (tgt := 15) hx hb dX11_isDay_1 (by decide) (fun c1 => ?_) (fun c1 => ?_)
  · have q2 := mm_ltL (h := (-1)) (mm_lt c1) (mm_top i_0) mm_k0 (by decide)
    refine lv_iconst (v := 0) hx hb dX11_isDay_15 (by decide) ?_
    subst hAe
    rw [hQ]
    exact W.zret (v := 0) hx hb hr rfl (fun t ht hW => ⟨⟨0, (), rfl, (Or.inl ⟨rfl, q2⟩), by rw [ht]; exact hP, hK.warm hW, hD⟩, hS.F ht⟩) hS.2.2 dX11_isDay_16
  · have q3 := mm_leR (mm_nlt c1) mm_k0 (mm_top i_0)
    refine lv_iload_n hx hb dX11_isDay_4 rfl (lv_at hl 0 rfl) ?_
    refine lv_ldcw (v := 1000000000) hx hb hown (mm_h hts mm_w664) dX11_isDay_5 ?_
    refine lv_icmp_gt (tgt := 15) hx hb dX11_isDay_8 (by decide) (fun c4 => ?_) (fun c4 => ?_)
    · have q5 := mm_ltR (lo := 1000000001) (mm_lt c4) mm_k1000000000 q3 (by decide)
      refine lv_iconst (v := 0) hx hb dX11_isDay_15 (by decide) ?_
      subst hAe
      rw [hQ]
      exact W.zret (v := 0) hx hb hr rfl (fun t ht hW => ⟨⟨0, (), rfl, (Or.inr (Or.inl ⟨rfl, q5⟩)), by rw [ht]; exact hP, hK.warm hW, hD⟩, hS.F ht⟩) hS.2.2 dX11_isDay_16
    · have q6 := mm_leL (mm_nlt c4) q3 mm_k1000000000
      refine lv_iconst (v := 1) hx hb dX11_isDay_11 (by decide) ?_
      refine lv_goto (tgt := 16) hx hb dX11_isDay_12 (by decide) ?_
      subst hAe
      rw [hQ]
      exact W.zret (v := 1) hx hb hr rfl (fun t ht hW => ⟨⟨1, (), rfl, (Or.inr (Or.inr ⟨rfl, q6⟩)), by rw [ht]; exact hP, hK.warm hW, hD⟩, hS.F ht⟩) hS.2.2 dX11_isDay_16

set_option maxHeartbeats 4000000 in
set_option maxRecDepth 100000 in
theorem K229_X11_lands (l : Launch) (G : va_G) (cy : Nat → ClassId) (sz : Nat) (a_0 : Nat) (i_0 : Int32) (i_1 : Int32) (a_1 : Nat) (a_2 : Nat) (a_3 : Nat) (a_4 : Nat) (a_5 : Nat) (a_6 : Nat) (a_7 : Nat) (a_8 : Nat) (a_9 : Nat) (a_10 : Nat) (a_11 : Nat) (a_24 : Nat) (a_25 : Nat) (k_0 : Int32) (k_1 : Int32) (k_2 : Int32) (k_3 : Int32) (k_4 : Int32) (k_5 : Int32) (k_6 : Int32) (a_26 : Nat) (a_27 : Nat) (a_28 : Nat) (a_29 : Nat) (a_30 : Nat) (a_31 : Nat) (a_32 : Nat) (a_33 : Nat) (a_34 : Nat) (a_35 : Nat)   : mm_CI l yX11_lands (mm_ws yX11_lands cX11_lands 6 (some .int)) ({ frames := 1, cells := 0, slots := 0, locals := 20 } : Room) G cy sz [(a_0, .inr (11, [.ref a_1, .ref a_2, .ref a_3, .ref a_4, .ref a_5, .ref a_6, .ref a_7, .ref a_8, .ref a_9, .ref a_10, .ref a_11])), (a_3, .inr (10, [.ref a_24, .ref a_25])), (a_24, .inr (0, [.int 0, .int k_0, .int k_1, .int k_2, .int k_3, .int k_4, .int k_5, .int k_6, .ref a_26, .ref a_27, .ref a_28, .ref a_29, .ref a_30, .ref a_31, .ref a_32, .ref a_33, .ref a_34, .ref a_35]))] [.ref a_0, .int i_0, .int i_1] (fun u : Unit => [(a_0, .inr (11, [.ref a_1, .ref a_2, .ref a_3, .ref a_4, .ref a_5, .ref a_6, .ref a_7, .ref a_8, .ref a_9, .ref a_10, .ref a_11])), (a_3, .inr (10, [.ref a_24, .ref a_25])), (a_24, .inr (0, [.int 0, .int k_0, .int k_1, .int k_2, .int k_3, .int k_4, .int k_5, .int k_6, .ref a_26, .ref a_27, .ref a_28, .ref a_29, .ref a_30, .ref a_31, .ref a_32, .ref a_33, .ref a_34, .ref a_35]))]) (fun (r : Int32) (u : Unit) => (-2) = r) 0 0 := by
  refine mm_begin (lv := [(0, .ref a_0), (1, .int i_0), (2, .int i_1)]) (by decide) (Nat.le_of_ble_eq_true rfl) rfl ?_
  intro p e s m below meth c A ls R args Q H locs hRe hQ hAe hx hb hr hlocks hml hown hnm hts hsz hA hS hP hK hD hl
  have hRf : R.frames = 1 := by rw [hRe]
  have hRl : R.locals = 20 := by rw [hRe]
  have hRc : R.cells = 0 := by rw [hRe]
  have hRs : R.slots = 0 := by rw [hRe]
  refine lv_iload_n hx hb dX11_lands_0 rfl (lv_at hl 1 rfl) ?_
  refine mm_finir (va_runS (As := [.int i_0]) (rest := []) ⟨hx, hb, hml, hown, hts⟩ (K212_X11_isSlot l G cy H.size i_0 ) (va_cwS 1 hts (mm_gS mm_w1232 mm_w1233 mm_w2 mm_w1234) rfl rfl rfl hs_X11_isSlot ⟨by rw [hRf]; exact Nat.le_of_ble_eq_true rfl, by rw [hRl]; exact Nat.le_of_ble_eq_true rfl⟩) (mm_preS hK hP hD [] rfl rfl) rfl rfl hl.1 rfl (lv_room (Nat.le_of_ble_eq_true rfl)) dX11_lands_1 ⟨by rw [hRc]; exact Nat.le_of_ble_eq_true rfl, by rw [hRs]; exact Nat.le_of_ble_eq_true rfl⟩) hP hD hS hA [] rfl (fun _ => rfl) ?_
  clear hP hD hS
  clear H locs
  intro v1 _u H locs hw hP hD hS
  rcases hw with ⟨rfl, w2⟩ | ⟨rfl, w3⟩ | ⟨rfl, w4⟩
  · refine lv_if_eq (tgt := 27) hx hb dX11_lands_4 (by decide) (fun c5 => ?_) (fun c5 => ?_)
    · refine lv_bipush (v := (-2)) hx hb dX11_lands_27 (by decide) ?_
      subst hAe
      rw [hQ]
      exact W.iret (v := (-2)) hx hb hr (fun t ht hW => ⟨⟨(-2), (), rfl, rfl, by rw [ht]; exact hP, hK.warm hW, hD⟩, hS.F ht⟩) hS.2.2 dX11_lands_29
    · have q6 := mm_neL (lo := 1) (mm_ne c5) mm_k0 mm_k0 (by decide) (by decide)
      exact mm_no q6 (by decide)
  · refine lv_if_eq (tgt := 27) hx hb dX11_lands_4 (by decide) (fun c7 => ?_) (fun c7 => ?_)
    · refine lv_bipush (v := (-2)) hx hb dX11_lands_27 (by decide) ?_
      subst hAe
      rw [hQ]
      exact W.iret (v := (-2)) hx hb hr (fun t ht hW => ⟨⟨(-2), (), rfl, rfl, by rw [ht]; exact hP, hK.warm hW, hD⟩, hS.F ht⟩) hS.2.2 dX11_lands_29
    · have q8 := mm_neL (lo := 1) (mm_ne c7) mm_k0 mm_k0 (by decide) (by decide)
      exact mm_no q8 (by decide)
  · refine lv_if_eq (tgt := 27) hx hb dX11_lands_4 (by decide) (fun c9 => ?_) (fun c9 => ?_)
    · exact mm_eqN c9.symm mm_k0 mm_k1 (by decide)
    · refine lv_iload_n hx hb dX11_lands_7 rfl (lv_at hl 2 rfl) ?_
      refine mm_finir (va_runS (As := [.int i_1]) (rest := []) ⟨hx, hb, hml, hown, hts⟩ (K228_X11_isDay l G cy H.size i_1 ) (va_cwS 1 hts (mm_gS mm_w661 mm_w662 mm_w2 mm_w663) rfl rfl rfl hs_X11_isDay ⟨by rw [hRf]; exact Nat.le_of_ble_eq_true rfl, by rw [hRl]; exact Nat.le_of_ble_eq_true rfl⟩) (mm_preS hK hP hD [] rfl rfl) rfl rfl hl.1 rfl (lv_room (Nat.le_of_ble_eq_true rfl)) dX11_lands_8 ⟨by rw [hRc]; exact Nat.le_of_ble_eq_true rfl, by rw [hRs]; exact Nat.le_of_ble_eq_true rfl⟩) hP hD hS hA [] rfl (fun _ => rfl) ?_
      clear hP hD hS
      clear H locs
      intro v10 _u H locs hw hP hD hS
      rcases hw with ⟨rfl, w11⟩ | ⟨rfl, w12⟩ | ⟨rfl, w13⟩
      · refine lv_if_eq (tgt := 27) hx hb dX11_lands_11 (by decide) (fun c14 => ?_) (fun c14 => ?_)
        · refine lv_bipush (v := (-2)) hx hb dX11_lands_27 (by decide) ?_
          subst hAe
          rw [hQ]
          exact W.iret (v := (-2)) hx hb hr (fun t ht hW => ⟨⟨(-2), (), rfl, rfl, by rw [ht]; exact hP, hK.warm hW, hD⟩, hS.F ht⟩) hS.2.2 dX11_lands_29
        · have q15 := mm_neL (lo := 1) (mm_ne c14) mm_k0 mm_k0 (by decide) (by decide)
          exact mm_no q15 (by decide)
      · refine lv_if_eq (tgt := 27) hx hb dX11_lands_11 (by decide) (fun c16 => ?_) (fun c16 => ?_)
        · refine lv_bipush (v := (-2)) hx hb dX11_lands_27 (by decide) ?_
          subst hAe
          rw [hQ]
          exact W.iret (v := (-2)) hx hb hr (fun t ht hW => ⟨⟨(-2), (), rfl, rfl, by rw [ht]; exact hP, hK.warm hW, hD⟩, hS.F ht⟩) hS.2.2 dX11_lands_29
        · have q17 := mm_neL (lo := 1) (mm_ne c16) mm_k0 mm_k0 (by decide) (by decide)
          exact mm_no q17 (by decide)
      · refine lv_if_eq (tgt := 27) hx hb dX11_lands_11 (by decide) (fun c18 => ?_) (fun c18 => ?_)
        · exact mm_eqN c18.symm mm_k0 mm_k1 (by decide)
        · refine lv_aload_n hx hb dX11_lands_14 rfl (lv_at hl 0 rfl) ?_
          refine va_get (D := G) (ci := 11) (v := .ref a_3) (C := RX11) (T := TX11) (N := 11) hx hb hts (mm_i inlX11) hown hK.1 hP 0 rfl rfl 2 (by decide) (mm_h hts mm_w24) (fun _ h9 => h9) rfl dX11_lands_15 ?_
          refine va_get (D := G) (ci := 10) (v := .ref a_24) (C := RX10) (T := TX10) (N := 2) hx hb hts (mm_i inlX10) hown hK.1 hP 1 rfl rfl 0 (by decide) (mm_h hts mm_w199) (fun _ h9 => h9) rfl dX11_lands_18 ?_
          refine va_get (D := G) (ci := 0) (v := .int 0) (C := RX0) (T := TX0) (N := 18) hx hb hts (mm_i inlX0) hown hK.1 hP 2 rfl rfl 0 (by decide) (mm_h hts mm_w200) (fun _ h9 => h9) rfl dX11_lands_21 ?_
          refine lv_if_ne (tgt := 30) hx hb dX11_lands_24 (by decide) (fun c19 => ?_) (fun c19 => ?_)
          · have q20 := mm_neL (lo := 1) (mm_ne c19) mm_k0 mm_k0 (by decide) (by decide)
            exact mm_no q20 (by decide)
          · refine lv_bipush (v := (-2)) hx hb dX11_lands_27 (by decide) ?_
            subst hAe
            rw [hQ]
            exact W.iret (v := (-2)) hx hb hr (fun t ht hW => ⟨⟨(-2), (), rfl, rfl, by rw [ht]; exact hP, hK.warm hW, hD⟩, hS.F ht⟩) hS.2.2 dX11_lands_29

set_option maxHeartbeats 4000000 in
set_option maxRecDepth 100000 in
theorem K230_X12_isBook (l : Launch) (G : va_G) (cy : Nat → ClassId) (sz : Nat) (a_0 : Nat) (k_0 : Int32) (a_1 : Nat) (a_2 : Nat) (a_3 : Nat) (a_4 : Nat) (a_5 : Nat) (k_1 : Int32) (k_2 : Int32) (k_3 : Int32) (k_4 : Int32) (k_5 : Int32) (k_6 : Int64) (k_7 : Int32) (k_8 : Int32) (k_9 : Int32) (k_10 : Int32) (a_6 : Nat) (a_7 : Nat) (a_8 : Nat) (a_9 : Nat) (a_10 : Nat) (a_11 : Nat) (a_12 : Nat) (a_13 : Nat) (a_14 : Nat) (a_15 : Nat) (a_16 : Nat) (a_17 : Nat) (a_18 : Nat) (k_11 : Int32) (k_12 : Int32) (k_13 : Int32) (k_14 : Int32) (k_15 : Int32) (k_16 : Int32) (a_19 : Nat) (k_17 : Int32) (a_20 : Nat)   : mm_CI l yX12_isBook (mm_ws yX12_isBook cX12_isBook 1 (some .boolean)) ({ frames := 0, cells := 0, slots := 0, locals := 0 } : Room) G cy sz [(a_0, .inr (12, [.int k_0, .ref a_1, .ref a_2, .ref a_3, .ref a_4, .ref a_5, .int k_1, .int k_2, .int k_3, .int k_4, .int k_5, .long k_6, .int k_7, .int k_8, .int k_9, .int k_10, .ref a_6, .ref a_7, .ref a_8, .ref a_9, .ref a_10, .ref a_11, .ref a_12, .ref a_13, .ref a_14, .ref a_15, .ref a_16, .ref a_17, .ref a_18, .int k_11, .int k_12, .int k_13, .int k_14, .int k_15, .int k_16, .ref a_19, .int k_17, .ref a_20])), (a_6, .inl (cy 1, 5, .inl (fun _ => 0)))] [.ref a_0] (fun u : Unit => [(a_0, .inr (12, [.int k_0, .ref a_1, .ref a_2, .ref a_3, .ref a_4, .ref a_5, .int k_1, .int k_2, .int k_3, .int k_4, .int k_5, .long k_6, .int k_7, .int k_8, .int k_9, .int k_10, .ref a_6, .ref a_7, .ref a_8, .ref a_9, .ref a_10, .ref a_11, .ref a_12, .ref a_13, .ref a_14, .ref a_15, .ref a_16, .ref a_17, .ref a_18, .int k_11, .int k_12, .int k_13, .int k_14, .int k_15, .int k_16, .ref a_19, .int k_17, .ref a_20])), (a_6, .inl (cy 1, 5, .inl (fun _ => 0)))]) (fun (r : Int32) (u : Unit) => 0 = r) 0 0 := by
  refine mm_begin (lv := [(0, .ref a_0)]) (by decide) (Nat.le_of_ble_eq_true rfl) rfl ?_
  intro p e s m below meth c A ls R args Q H locs hRe hQ hAe hx hb hr hlocks hml hown hnm hts hsz hA hS hP hK hD hl
  have hRf : R.frames = 0 := by rw [hRe]
  have hRl : R.locals = 0 := by rw [hRe]
  have hRc : R.cells = 0 := by rw [hRe]
  have hRs : R.slots = 0 := by rw [hRe]
  refine lv_aload_n hx hb dX12_isBook_0 rfl (lv_at hl 0 rfl) ?_
  refine va_get (D := G) (ci := 12) (v := .ref a_6) (C := RX12) (T := TX12) (N := 38) hx hb hts (mm_i inlX12) hown hK.1 hP 0 rfl rfl 16 (by decide) (mm_h hts mm_w148) (fun _ h9 => h9) rfl dX12_isBook_1 ?_
  refine lv_iconst (v := 0) hx hb dX12_isBook_4 (by decide) ?_
  refine va_iald hx hb hK.1 hP 1 1 rfl rfl (mm_in mm_k0 (by decide)) dX12_isBook_5 ?_
  refine lv_topi (fun v1 ev1 => ?_)
  obtain rfl : v1 = 0 := ev1
  refine lv_if_le (tgt := 13) hx hb dX12_isBook_6 (by decide) (fun c2 => ?_) (fun c2 => ?_)
  · refine lv_iconst (v := 0) hx hb dX12_isBook_13 (by decide) ?_
    subst hAe
    rw [hQ]
    exact W.zret (v := 0) hx hb hr rfl (fun t ht hW => ⟨⟨0, (), rfl, rfl, by rw [ht]; exact hP, hK.warm hW, hD⟩, hS.F ht⟩) hS.2.2 dX12_isBook_14
  · have q3 := mm_ltL (h := (-1)) (mm_nle c2) mm_k0 mm_k0 (by decide)
    exact mm_no q3 (by decide)

set_option maxHeartbeats 4000000 in
set_option maxRecDepth 100000 in
theorem K232_X12_isBook (l : Launch) (G : va_G) (cy : Nat → ClassId) (sz : Nat) (a_0 : Nat) (k_0 : Int32) (a_1 : Nat) (a_2 : Nat) (a_3 : Nat) (a_4 : Nat) (a_5 : Nat) (i_0 : Int32) (i_1 : Int32) (i_2 : Int32) (i_3 : Int32) (i_4 : Int32) (j_0 : Int64) (i_5 : Int32) (i_6 : Int32) (i_7 : Int32) (i_8 : Int32) (a_6 : Nat) (a_7 : Nat) (a_8 : Nat) (a_9 : Nat) (a_10 : Nat) (a_11 : Nat) (a_12 : Nat) (a_13 : Nat) (a_14 : Nat) (a_15 : Nat) (a_16 : Nat) (a_17 : Nat) (a_18 : Nat) (i_9 : Int32) (i_10 : Int32) (i_11 : Int32) (i_12 : Int32) (i_13 : Int32) (i_14 : Int32) (a_19 : Nat) (i_15 : Int32) (a_20 : Nat)   : mm_CI l yX12_isBook (mm_ws yX12_isBook cX12_isBook 1 (some .boolean)) ({ frames := 0, cells := 0, slots := 0, locals := 0 } : Room) G cy sz [(a_0, .inr (12, [.int k_0, .ref a_1, .ref a_2, .ref a_3, .ref a_4, .ref a_5, .int i_0, .int i_1, .int i_2, .int i_3, .int i_4, .long j_0, .int i_5, .int i_6, .int i_7, .int i_8, .ref a_6, .ref a_7, .ref a_8, .ref a_9, .ref a_10, .ref a_11, .ref a_12, .ref a_13, .ref a_14, .ref a_15, .ref a_16, .ref a_17, .ref a_18, .int i_9, .int i_10, .int i_11, .int i_12, .int i_13, .int i_14, .ref a_19, .int i_15, .ref a_20])), (a_6, .inl (cy 1, 5, .inl (fun _ => 0)))] [.ref a_0] (fun u : Unit => [(a_0, .inr (12, [.int k_0, .ref a_1, .ref a_2, .ref a_3, .ref a_4, .ref a_5, .int i_0, .int i_1, .int i_2, .int i_3, .int i_4, .long j_0, .int i_5, .int i_6, .int i_7, .int i_8, .ref a_6, .ref a_7, .ref a_8, .ref a_9, .ref a_10, .ref a_11, .ref a_12, .ref a_13, .ref a_14, .ref a_15, .ref a_16, .ref a_17, .ref a_18, .int i_9, .int i_10, .int i_11, .int i_12, .int i_13, .int i_14, .ref a_19, .int i_15, .ref a_20])), (a_6, .inl (cy 1, 5, .inl (fun _ => 0)))]) (fun (r : Int32) (u : Unit) => 0 = r) 0 0 := by
  refine mm_begin (lv := [(0, .ref a_0)]) (by decide) (Nat.le_of_ble_eq_true rfl) rfl ?_
  intro p e s m below meth c A ls R args Q H locs hRe hQ hAe hx hb hr hlocks hml hown hnm hts hsz hA hS hP hK hD hl
  have hRf : R.frames = 0 := by rw [hRe]
  have hRl : R.locals = 0 := by rw [hRe]
  have hRc : R.cells = 0 := by rw [hRe]
  have hRs : R.slots = 0 := by rw [hRe]
  refine lv_aload_n hx hb dX12_isBook_0 rfl (lv_at hl 0 rfl) ?_
  refine va_get (D := G) (ci := 12) (v := .ref a_6) (C := RX12) (T := TX12) (N := 38) hx hb hts (mm_i inlX12) hown hK.1 hP 0 rfl rfl 16 (by decide) (mm_h hts mm_w148) (fun _ h9 => h9) rfl dX12_isBook_1 ?_
  refine lv_iconst (v := 0) hx hb dX12_isBook_4 (by decide) ?_
  refine va_iald hx hb hK.1 hP 1 1 rfl rfl (mm_in mm_k0 (by decide)) dX12_isBook_5 ?_
  refine lv_topi (fun v1 ev1 => ?_)
  obtain rfl : v1 = 0 := ev1
  refine lv_if_le (tgt := 13) hx hb dX12_isBook_6 (by decide) (fun c2 => ?_) (fun c2 => ?_)
  · refine lv_iconst (v := 0) hx hb dX12_isBook_13 (by decide) ?_
    subst hAe
    rw [hQ]
    exact W.zret (v := 0) hx hb hr rfl (fun t ht hW => ⟨⟨0, (), rfl, rfl, by rw [ht]; exact hP, hK.warm hW, hD⟩, hS.F ht⟩) hS.2.2 dX12_isBook_14
  · have q3 := mm_ltL (h := (-1)) (mm_nle c2) mm_k0 mm_k0 (by decide)
    exact mm_no q3 (by decide)

set_option maxHeartbeats 4000000 in
set_option maxRecDepth 100000 in
theorem K231_X12_lands (l : Launch) (G : va_G) (cy : Nat → ClassId) (sz : Nat) (a_0 : Nat) (i_0 : Int32) (i_1 : Int32) (a_1 : Nat) (a_2 : Nat) (a_3 : Nat) (a_4 : Nat) (a_5 : Nat) (k_0 : Int32) (k_1 : Int32) (k_2 : Int32) (k_3 : Int32) (k_4 : Int32) (k_5 : Int64) (k_6 : Int32) (k_7 : Int32) (k_8 : Int32) (k_9 : Int32) (a_6 : Nat) (a_7 : Nat) (a_8 : Nat) (a_9 : Nat) (a_10 : Nat) (a_11 : Nat) (a_12 : Nat) (a_13 : Nat) (a_14 : Nat) (a_15 : Nat) (a_16 : Nat) (a_17 : Nat) (a_18 : Nat) (k_10 : Int32) (k_11 : Int32) (k_12 : Int32) (k_13 : Int32) (k_14 : Int32) (k_15 : Int32) (a_19 : Nat) (k_16 : Int32) (a_20 : Nat)   : mm_CI l yX12_lands (mm_ws yX12_lands cX12_lands 6 (some .int)) ({ frames := 3, cells := 0, slots := 0, locals := 68 } : Room) G cy sz [(a_0, .inr (12, [.int 0, .ref a_1, .ref a_2, .ref a_3, .ref a_4, .ref a_5, .int k_0, .int k_1, .int k_2, .int k_3, .int k_4, .long k_5, .int k_6, .int k_7, .int k_8, .int k_9, .ref a_6, .ref a_7, .ref a_8, .ref a_9, .ref a_10, .ref a_11, .ref a_12, .ref a_13, .ref a_14, .ref a_15, .ref a_16, .ref a_17, .ref a_18, .int k_10, .int k_11, .int k_12, .int k_13, .int k_14, .int k_15, .ref a_19, .int k_16, .ref a_20])), (a_6, .inl (cy 1, 5, .inl (fun _ => 0)))] [.ref a_0, .int i_0, .int i_1] (fun u : Unit => [(a_0, .inr (12, [.int 0, .ref a_1, .ref a_2, .ref a_3, .ref a_4, .ref a_5, .int k_0, .int k_1, .int k_2, .int k_3, .int k_4, .long k_5, .int k_6, .int k_7, .int k_8, .int k_9, .ref a_6, .ref a_7, .ref a_8, .ref a_9, .ref a_10, .ref a_11, .ref a_12, .ref a_13, .ref a_14, .ref a_15, .ref a_16, .ref a_17, .ref a_18, .int k_10, .int k_11, .int k_12, .int k_13, .int k_14, .int k_15, .ref a_19, .int k_16, .ref a_20])), (a_6, .inl (cy 1, 5, .inl (fun _ => 0)))]) (fun (r : Int32) (u : Unit) => (-2) = r) 0 0 := by
  refine mm_begin (lv := [(0, .ref a_0), (1, .int i_0), (2, .int i_1)]) (by decide) (Nat.le_of_ble_eq_true rfl) rfl ?_
  intro p e s m below meth c A ls R args Q H locs hRe hQ hAe hx hb hr hlocks hml hown hnm hts hsz hA hS hP hK hD hl
  have hRf : R.frames = 3 := by rw [hRe]
  have hRl : R.locals = 68 := by rw [hRe]
  have hRc : R.cells = 0 := by rw [hRe]
  have hRs : R.slots = 0 := by rw [hRe]
  refine lv_aload_n hx hb dX12_lands_0 rfl (lv_at hl 0 rfl) ?_
  refine lv_iconst (v := 0) hx hb dX12_lands_1 (by decide) ?_
  refine va_put (D := G) (ci := 12) (v := .int 0) (ty := tyX12 0) (C := RX12) (T := TX12) (N := 38) hx hb hts (mm_i inlX12) tyX12 tyX12_ok nmX12 hown hK.1 hP hD hS 0 rfl rfl 0 (by decide) (mm_h hts mm_w177) (fun _ h9 => h9) rfl (tyX12_ok 0 (by decide)) rfl rfl (Nat.le_of_ble_eq_true rfl) dX12_lands_2 ?_
  clear hP hD hS
  clear H locs
  intro H locs (hP : va_P G vwCl [(a_0, .inr (12, [.int 0, .ref a_1, .ref a_2, .ref a_3, .ref a_4, .ref a_5, .int k_0, .int k_1, .int k_2, .int k_3, .int k_4, .long k_5, .int k_6, .int k_7, .int k_8, .int k_9, .ref a_6, .ref a_7, .ref a_8, .ref a_9, .ref a_10, .ref a_11, .ref a_12, .ref a_13, .ref a_14, .ref a_15, .ref a_16, .ref a_17, .ref a_18, .int k_10, .int k_11, .int k_12, .int k_13, .int k_14, .int k_15, .ref a_19, .int k_16, .ref a_20])), (a_6, .inl (cy 1, 5, .inl (fun _ => 0)))] H) (hD : va_D A [(a_0, .inr (12, [.int 0, .ref a_1, .ref a_2, .ref a_3, .ref a_4, .ref a_5, .int k_0, .int k_1, .int k_2, .int k_3, .int k_4, .long k_5, .int k_6, .int k_7, .int k_8, .int k_9, .ref a_6, .ref a_7, .ref a_8, .ref a_9, .ref a_10, .ref a_11, .ref a_12, .ref a_13, .ref a_14, .ref a_15, .ref a_16, .ref a_17, .ref a_18, .int k_10, .int k_11, .int k_12, .int k_13, .int k_14, .int k_15, .ref a_19, .int k_16, .ref a_20])), (a_6, .inl (cy 1, 5, .inl (fun _ => 0)))]) hS
  refine lv_aload_n hx hb dX12_lands_5 rfl (lv_at hl 0 rfl) ?_
  refine lv_iload_n hx hb dX12_lands_6 rfl (lv_at hl 1 rfl) ?_
  refine lv_aload_n hx hb dX12_lands_7 rfl (lv_at hl 0 rfl) ?_
  refine mm_finir (va_runV (As := []) (rest := [.int i_0, .ref a_0]) ⟨hx, hb, hml, hown, hts⟩ (K232_X12_isBook l G cy H.size a_0 0 a_1 a_2 a_3 a_4 a_5 k_0 k_1 k_2 k_3 k_4 k_5 k_6 k_7 k_8 k_9 a_6 a_7 a_8 a_9 a_10 a_11 a_12 a_13 a_14 a_15 a_16 a_17 a_18 k_10 k_11 k_12 k_13 k_14 k_15 a_19 k_16 a_20 ) (cwV 0 hts (mm_gV mm_w653 mm_w654 mm_w655 mm_w5 mm_w656) rfl rfl rfl hd_X12_isBook ⟨by rw [hRf]; exact Nat.le_of_ble_eq_true rfl, by rw [hRl]; exact Nat.le_of_ble_eq_true rfl⟩) (mm_preV hK hP hD [0, 1] rfl rfl 0 rfl rfl rfl) rfl rfl hl.1 rfl (lv_room (Nat.le_of_ble_eq_true rfl)) dX12_lands_8 ⟨by rw [hRc]; exact Nat.le_of_ble_eq_true rfl, by rw [hRs]; exact Nat.le_of_ble_eq_true rfl⟩) hP hD hS hA [0, 1] rfl (fun _ => rfl) ?_
  clear hP hD hS
  clear H locs
  intro v1 _u H locs hw hP hD hS
  subst hw
  refine lv_if_eq (tgt := 25) hx hb dX12_lands_11 (by decide) (fun c2 => ?_) (fun c2 => ?_)
  · refine lv_iconst (v := 0) hx hb dX12_lands_25 (by decide) ?_
    refine mm_finir (va_runV (As := [.int i_0, .int 0]) (rest := []) ⟨hx, hb, hml, hown, hts⟩ (K218_X12_whyNot l G cy H.size a_0 i_0 ) (cwV 2 hts (mm_gV mm_w1265 mm_w1266 mm_w1267 mm_w5 mm_w1268) rfl rfl rfl hd_X12_whyNot ⟨by rw [hRf]; exact Nat.le_of_ble_eq_true rfl, by rw [hRl]; exact Nat.le_of_ble_eq_true rfl⟩) (mm_preV hK hP hD [] rfl rfl 0 rfl rfl rfl) rfl rfl hl.1 rfl (lv_room (Nat.le_of_ble_eq_true rfl)) dX12_lands_26 ⟨by rw [hRc]; exact Nat.le_of_ble_eq_true rfl, by rw [hRs]; exact Nat.le_of_ble_eq_true rfl⟩) hP hD hS hA [] rfl (fun _ => rfl) ?_
    clear hP hD hS
    clear H locs
    intro v3 _u H locs hw hP hD hS
    subst hw
    refine lv_istore_n (lv' := [(3, .int (-2)), (0, .ref a_0), (1, .int i_0), (2, .int i_1)]) hx hb dX12_lands_29 rfl hl (by decide) rfl ?_
    clear hl
    clear ls
    intro ls hl
    refine lv_iload_n hx hb dX12_lands_30 rfl (lv_at hl 0 rfl) ?_
    refine lv_if_eq (tgt := 36) hx hb dX12_lands_31 (by decide) (fun c4 => ?_) (fun c4 => ?_)
    · exact mm_eqN c4 mm_km2 mm_k0 (by decide)
    · refine lv_iload_n hx hb dX12_lands_34 rfl (lv_at hl 0 rfl) ?_
      subst hAe
      rw [hQ]
      exact W.iret (v := (-2)) hx hb hr (fun t ht hW => ⟨⟨(-2), (), rfl, rfl, by rw [ht]; exact hP, hK.warm hW, hD⟩, hS.F ht⟩) hS.2.2 dX12_lands_35
  · have q5 := mm_neL (lo := 1) (mm_ne c2) mm_k0 mm_k0 (by decide) (by decide)
    exact mm_no q5 (by decide)

set_option maxHeartbeats 4000000 in
set_option maxRecDepth 100000 in
theorem K233_X11_isTask (l : Launch) (G : va_G) (cy : Nat → ClassId) (sz : Nat) (a_0 : Nat) (i_0 : Int32) (i_1 : Int32) (i_2 : Int32) (i_3 : Int32) (a_1 : Nat) (a_2 : Nat) (a_3 : Nat) (a_4 : Nat) (a_5 : Nat) (a_6 : Nat) (a_7 : Nat) (a_8 : Nat) (a_9 : Nat) (a_10 : Nat) (a_11 : Nat) (a_24 : Nat) (a_25 : Nat) (k_0 : Int32) (k_1 : Int32) (k_2 : Int32) (k_3 : Int32) (k_4 : Int32) (k_5 : Int32) (k_6 : Int32) (a_26 : Nat) (a_27 : Nat) (a_28 : Nat) (a_29 : Nat) (a_30 : Nat) (a_31 : Nat) (a_32 : Nat) (a_33 : Nat) (a_34 : Nat) (a_35 : Nat)   : mm_CI l yX11_isTask (mm_ws yX11_isTask cX11_isTask 5 (some .boolean)) ({ frames := 1, cells := 0, slots := 0, locals := 21 } : Room) G cy sz [(a_0, .inr (11, [.ref a_1, .ref a_2, .ref a_3, .ref a_4, .ref a_5, .ref a_6, .ref a_7, .ref a_8, .ref a_9, .ref a_10, .ref a_11])), (a_3, .inr (10, [.ref a_24, .ref a_25])), (a_24, .inr (0, [.int k_0, .int k_1, .int k_2, .int k_3, .int k_4, .int 0, .int k_5, .int k_6, .ref a_26, .ref a_27, .ref a_28, .ref a_29, .ref a_30, .ref a_31, .ref a_32, .ref a_33, .ref a_34, .ref a_35]))] [.ref a_0, .int i_0, .int i_1, .int i_2, .int i_3] (fun u : Unit => [(a_0, .inr (11, [.ref a_1, .ref a_2, .ref a_3, .ref a_4, .ref a_5, .ref a_6, .ref a_7, .ref a_8, .ref a_9, .ref a_10, .ref a_11])), (a_3, .inr (10, [.ref a_24, .ref a_25])), (a_24, .inr (0, [.int k_0, .int k_1, .int k_2, .int k_3, .int k_4, .int 0, .int k_5, .int k_6, .ref a_26, .ref a_27, .ref a_28, .ref a_29, .ref a_30, .ref a_31, .ref a_32, .ref a_33, .ref a_34, .ref a_35]))]) (fun (r : Int32) (u : Unit) => 0 = r) 0 0 := by
  refine mm_begin (lv := [(0, .ref a_0), (1, .int i_0), (2, .int i_1), (3, .int i_2), (4, .int i_3)]) (by decide) (Nat.le_of_ble_eq_true rfl) rfl ?_
  intro p e s m below meth c A ls R args Q H locs hRe hQ hAe hx hb hr hlocks hml hown hnm hts hsz hA hS hP hK hD hl
  have hRf : R.frames = 1 := by rw [hRe]
  have hRl : R.locals = 21 := by rw [hRe]
  have hRc : R.cells = 0 := by rw [hRe]
  have hRs : R.slots = 0 := by rw [hRe]
  refine lv_aload_n hx hb dX11_isTask_0 rfl (lv_at hl 0 rfl) ?_
  refine lv_iload_n hx hb dX11_isTask_1 rfl (lv_at hl 1 rfl) ?_
  refine mm_finir (va_runV (As := [.int i_0]) (rest := []) ⟨hx, hb, hml, hown, hts⟩ (K123_X11_isLand l G cy H.size a_0 i_0 a_1 a_2 a_3 a_4 a_5 a_6 a_7 a_8 a_9 a_10 a_11 a_24 a_25 k_0 k_1 k_2 k_3 k_4 k_5 k_6 a_26 a_27 a_28 a_29 a_30 a_31 a_32 a_33 a_34 a_35 ) (cwV 1 hts (mm_gV mm_w626 mm_w627 mm_w628 mm_w2 mm_w629) rfl rfl rfl hd_X11_isLand ⟨by rw [hRf]; exact Nat.le_of_ble_eq_true rfl, by rw [hRl]; exact Nat.le_of_ble_eq_true rfl⟩) (mm_preV hK hP hD [0, 1, 2] rfl rfl 0 rfl rfl rfl) rfl rfl hl.1 rfl (lv_room (Nat.le_of_ble_eq_true rfl)) dX11_isTask_2 ⟨by rw [hRc]; exact Nat.le_of_ble_eq_true rfl, by rw [hRs]; exact Nat.le_of_ble_eq_true rfl⟩) hP hD hS hA [0, 1, 2] rfl (fun _ => rfl) ?_
  clear hP hD hS
  clear H locs
  intro v1 _u H locs hw hP hD hS
  subst hw
  refine lv_if_eq (tgt := 38) hx hb dX11_isTask_5 (by decide) (fun c2 => ?_) (fun c2 => ?_)
  · refine lv_iconst (v := 0) hx hb dX11_isTask_38 (by decide) ?_
    subst hAe
    rw [hQ]
    exact W.zret (v := 0) hx hb hr rfl (fun t ht hW => ⟨⟨0, (), rfl, rfl, by rw [ht]; exact hP, hK.warm hW, hD⟩, hS.F ht⟩) hS.2.2 dX11_isTask_39
  · have q3 := mm_neL (lo := 1) (mm_ne c2) mm_k0 mm_k0 (by decide) (by decide)
    exact mm_no q3 (by decide)

set_option maxHeartbeats 4000000 in
set_option maxRecDepth 100000 in
theorem K235_X11_isTask (l : Launch) (G : va_G) (cy : Nat → ClassId) (sz : Nat) (a_0 : Nat) (i_0 : Int32) (i_1 : Int32) (i_2 : Int32) (i_3 : Int32) (a_1 : Nat) (a_2 : Nat) (a_3 : Nat) (a_4 : Nat) (a_5 : Nat) (a_6 : Nat) (a_7 : Nat) (a_8 : Nat) (a_9 : Nat) (a_10 : Nat) (a_11 : Nat) (a_12 : Nat) (a_13 : Nat) (i_4 : Int32) (i_5 : Int32) (i_6 : Int32) (i_7 : Int32) (i_8 : Int32) (i_9 : Int32) (i_10 : Int32) (a_14 : Nat) (a_15 : Nat) (a_16 : Nat) (a_17 : Nat) (a_18 : Nat) (a_19 : Nat) (a_20 : Nat) (a_21 : Nat) (a_22 : Nat) (a_23 : Nat)   : mm_CI l yX11_isTask (mm_ws yX11_isTask cX11_isTask 5 (some .boolean)) ({ frames := 1, cells := 0, slots := 0, locals := 21 } : Room) G cy sz [(a_0, .inr (11, [.ref a_1, .ref a_2, .ref a_3, .ref a_4, .ref a_5, .ref a_6, .ref a_7, .ref a_8, .ref a_9, .ref a_10, .ref a_11])), (a_3, .inr (10, [.ref a_12, .ref a_13])), (a_12, .inr (0, [.int i_4, .int i_5, .int i_6, .int i_7, .int i_8, .int 0, .int i_9, .int i_10, .ref a_14, .ref a_15, .ref a_16, .ref a_17, .ref a_18, .ref a_19, .ref a_20, .ref a_21, .ref a_22, .ref a_23]))] [.ref a_0, .int i_0, .int i_1, .int i_2, .int i_3] (fun u : Unit => [(a_0, .inr (11, [.ref a_1, .ref a_2, .ref a_3, .ref a_4, .ref a_5, .ref a_6, .ref a_7, .ref a_8, .ref a_9, .ref a_10, .ref a_11])), (a_3, .inr (10, [.ref a_12, .ref a_13])), (a_12, .inr (0, [.int i_4, .int i_5, .int i_6, .int i_7, .int i_8, .int 0, .int i_9, .int i_10, .ref a_14, .ref a_15, .ref a_16, .ref a_17, .ref a_18, .ref a_19, .ref a_20, .ref a_21, .ref a_22, .ref a_23]))]) (fun (r : Int32) (u : Unit) => 0 = r) 0 0 := by
  refine mm_begin (lv := [(0, .ref a_0), (1, .int i_0), (2, .int i_1), (3, .int i_2), (4, .int i_3)]) (by decide) (Nat.le_of_ble_eq_true rfl) rfl ?_
  intro p e s m below meth c A ls R args Q H locs hRe hQ hAe hx hb hr hlocks hml hown hnm hts hsz hA hS hP hK hD hl
  have hRf : R.frames = 1 := by rw [hRe]
  have hRl : R.locals = 21 := by rw [hRe]
  have hRc : R.cells = 0 := by rw [hRe]
  have hRs : R.slots = 0 := by rw [hRe]
  refine lv_aload_n hx hb dX11_isTask_0 rfl (lv_at hl 0 rfl) ?_
  refine lv_iload_n hx hb dX11_isTask_1 rfl (lv_at hl 1 rfl) ?_
  refine mm_finir (va_runV (As := [.int i_0]) (rest := []) ⟨hx, hb, hml, hown, hts⟩ (K123_X11_isLand l G cy H.size a_0 i_0 a_1 a_2 a_3 a_4 a_5 a_6 a_7 a_8 a_9 a_10 a_11 a_12 a_13 i_4 i_5 i_6 i_7 i_8 i_9 i_10 a_14 a_15 a_16 a_17 a_18 a_19 a_20 a_21 a_22 a_23 ) (cwV 1 hts (mm_gV mm_w626 mm_w627 mm_w628 mm_w2 mm_w629) rfl rfl rfl hd_X11_isLand ⟨by rw [hRf]; exact Nat.le_of_ble_eq_true rfl, by rw [hRl]; exact Nat.le_of_ble_eq_true rfl⟩) (mm_preV hK hP hD [0, 1, 2] rfl rfl 0 rfl rfl rfl) rfl rfl hl.1 rfl (lv_room (Nat.le_of_ble_eq_true rfl)) dX11_isTask_2 ⟨by rw [hRc]; exact Nat.le_of_ble_eq_true rfl, by rw [hRs]; exact Nat.le_of_ble_eq_true rfl⟩) hP hD hS hA [0, 1, 2] rfl (fun _ => rfl) ?_
  clear hP hD hS
  clear H locs
  intro v1 _u H locs hw hP hD hS
  subst hw
  refine lv_if_eq (tgt := 38) hx hb dX11_isTask_5 (by decide) (fun c2 => ?_) (fun c2 => ?_)
  · refine lv_iconst (v := 0) hx hb dX11_isTask_38 (by decide) ?_
    subst hAe
    rw [hQ]
    exact W.zret (v := 0) hx hb hr rfl (fun t ht hW => ⟨⟨0, (), rfl, rfl, by rw [ht]; exact hP, hK.warm hW, hD⟩, hS.F ht⟩) hS.2.2 dX11_isTask_39
  · have q3 := mm_neL (lo := 1) (mm_ne c2) mm_k0 mm_k0 (by decide) (by decide)
    exact mm_no q3 (by decide)

set_option maxHeartbeats 4000000 in
set_option maxRecDepth 100000 in
theorem K234_X11_wording (l : Launch) (G : va_G) (cy : Nat → ClassId) (sz : Nat) (a_0 : Nat) (i_0 : Int32) (i_1 : Int32) (i_2 : Int32) (i_3 : Int32) (a_1 : Nat) (a_2 : Nat) (a_3 : Nat) (a_4 : Nat) (a_5 : Nat) (a_6 : Nat) (a_7 : Nat) (a_8 : Nat) (a_9 : Nat) (a_10 : Nat) (a_11 : Nat) (a_24 : Nat) (a_25 : Nat) (k_0 : Int32) (k_1 : Int32) (k_2 : Int32) (k_3 : Int32) (k_4 : Int32) (k_5 : Int32) (k_6 : Int32) (a_26 : Nat) (a_27 : Nat) (a_28 : Nat) (a_29 : Nat) (a_30 : Nat) (a_31 : Nat) (a_32 : Nat) (a_33 : Nat) (a_34 : Nat) (a_35 : Nat)   : mm_CI l yX11_wording (mm_ws yX11_wording cX11_wording 5 (some .int)) ({ frames := 2, cells := 0, slots := 0, locals := 45 } : Room) G cy sz [(a_0, .inr (11, [.ref a_1, .ref a_2, .ref a_3, .ref a_4, .ref a_5, .ref a_6, .ref a_7, .ref a_8, .ref a_9, .ref a_10, .ref a_11])), (a_3, .inr (10, [.ref a_24, .ref a_25])), (a_24, .inr (0, [.int k_0, .int k_1, .int k_2, .int k_3, .int k_4, .int 0, .int k_5, .int k_6, .ref a_26, .ref a_27, .ref a_28, .ref a_29, .ref a_30, .ref a_31, .ref a_32, .ref a_33, .ref a_34, .ref a_35]))] [.ref a_0, .int i_0, .int i_1, .int i_2, .int i_3] (fun u : Unit => [(a_0, .inr (11, [.ref a_1, .ref a_2, .ref a_3, .ref a_4, .ref a_5, .ref a_6, .ref a_7, .ref a_8, .ref a_9, .ref a_10, .ref a_11])), (a_3, .inr (10, [.ref a_24, .ref a_25])), (a_24, .inr (0, [.int k_0, .int k_1, .int k_2, .int k_3, .int k_4, .int 0, .int k_5, .int k_6, .ref a_26, .ref a_27, .ref a_28, .ref a_29, .ref a_30, .ref a_31, .ref a_32, .ref a_33, .ref a_34, .ref a_35]))]) (fun (r : Int32) (u : Unit) => (-2) = r) 0 0 := by
  refine mm_begin (lv := [(0, .ref a_0), (1, .int i_0), (2, .int i_1), (3, .int i_2), (4, .int i_3)]) (by decide) (Nat.le_of_ble_eq_true rfl) rfl ?_
  intro p e s m below meth c A ls R args Q H locs hRe hQ hAe hx hb hr hlocks hml hown hnm hts hsz hA hS hP hK hD hl
  have hRf : R.frames = 2 := by rw [hRe]
  have hRl : R.locals = 45 := by rw [hRe]
  have hRc : R.cells = 0 := by rw [hRe]
  have hRs : R.slots = 0 := by rw [hRe]
  refine lv_aload_n hx hb dX11_wording_0 rfl (lv_at hl 0 rfl) ?_
  refine lv_iload_n hx hb dX11_wording_1 rfl (lv_at hl 1 rfl) ?_
  refine lv_iload_n hx hb dX11_wording_2 rfl (lv_at hl 2 rfl) ?_
  refine lv_iload_n hx hb dX11_wording_3 rfl (lv_at hl 3 rfl) ?_
  refine lv_iload hx hb dX11_wording_4 (lv_at hl 4 rfl) ?_
  refine mm_finir (va_runV (As := [.int i_0, .int i_1, .int i_2, .int i_3]) (rest := []) ⟨hx, hb, hml, hown, hts⟩ (K235_X11_isTask l G cy H.size a_0 i_0 i_1 i_2 i_3 a_1 a_2 a_3 a_4 a_5 a_6 a_7 a_8 a_9 a_10 a_11 a_24 a_25 k_0 k_1 k_2 k_3 k_4 k_5 k_6 a_26 a_27 a_28 a_29 a_30 a_31 a_32 a_33 a_34 a_35 ) (cwV 4 hts (mm_gV mm_w1350 mm_w1351 mm_w1352 mm_w2 mm_w1353) rfl rfl rfl hd_X11_isTask ⟨by rw [hRf]; exact Nat.le_of_ble_eq_true rfl, by rw [hRl]; exact Nat.le_of_ble_eq_true rfl⟩) (mm_preV hK hP hD [0, 1, 2] rfl rfl 0 rfl rfl rfl) rfl rfl hl.1 rfl (lv_room (Nat.le_of_ble_eq_true rfl)) dX11_wording_6 ⟨by rw [hRc]; exact Nat.le_of_ble_eq_true rfl, by rw [hRs]; exact Nat.le_of_ble_eq_true rfl⟩) hP hD hS hA [0, 1, 2] rfl (fun _ => rfl) ?_
  clear hP hD hS
  clear H locs
  intro v1 _u H locs hw hP hD hS
  subst hw
  refine lv_if_ne (tgt := 15) hx hb dX11_wording_9 (by decide) (fun c2 => ?_) (fun c2 => ?_)
  · have q3 := mm_neL (lo := 1) (mm_ne c2) mm_k0 mm_k0 (by decide) (by decide)
    exact mm_no q3 (by decide)
  · refine lv_bipush (v := (-2)) hx hb dX11_wording_12 (by decide) ?_
    subst hAe
    rw [hQ]
    exact W.iret (v := (-2)) hx hb hr (fun t ht hW => ⟨⟨(-2), (), rfl, rfl, by rw [ht]; exact hP, hK.warm hW, hD⟩, hS.F ht⟩) hS.2.2 dX11_wording_14

set_option maxHeartbeats 4000000 in
set_option maxRecDepth 100000 in
theorem K237_X12_isThen (l : Launch) (G : va_G) (cy : Nat → ClassId) (sz : Nat) (a_0 : Nat) (i_0 : Int32) (i_1 : Int32) (i_2 : Int32) (a_1 : Nat) (a_2 : Nat) (a_3 : Nat) (a_4 : Nat) (a_5 : Nat) (i_3 : Int32) (i_4 : Int32) (i_5 : Int32) (i_6 : Int32) (i_7 : Int32) (j_0 : Int64) (i_8 : Int32) (i_9 : Int32) (i_10 : Int32) (i_11 : Int32) (a_6 : Nat) (a_7 : Nat) (a_8 : Nat) (a_9 : Nat) (a_10 : Nat) (a_11 : Nat) (a_12 : Nat) (a_13 : Nat) (a_14 : Nat) (a_15 : Nat) (a_16 : Nat) (a_17 : Nat) (a_18 : Nat) (i_12 : Int32) (i_13 : Int32) (i_14 : Int32) (i_15 : Int32) (i_16 : Int32) (i_17 : Int32) (a_19 : Nat) (i_18 : Int32) (a_20 : Nat)   : mm_CI l yX12_isThen (mm_ws yX12_isThen cX12_isThen 3 (some .boolean)) ({ frames := 2, cells := 0, slots := 0, locals := 46 } : Room) G cy sz [(a_0, .inr (12, [.int i_2, .ref a_1, .ref a_2, .ref a_3, .ref a_4, .ref a_5, .int i_3, .int i_4, .int i_5, .int i_6, .int i_7, .long j_0, .int i_8, .int i_9, .int i_10, .int i_11, .ref a_6, .ref a_7, .ref a_8, .ref a_9, .ref a_10, .ref a_11, .ref a_12, .ref a_13, .ref a_14, .ref a_15, .ref a_16, .ref a_17, .ref a_18, .int i_12, .int i_13, .int i_14, .int i_15, .int i_16, .int i_17, .ref a_19, .int i_18, .ref a_20])), (a_7, .inl (cy 1, 30, .inl (fun _ => 0)))] [.ref a_0, .int i_0, .int i_1] (fun u : Unit => [(a_0, .inr (12, [.int i_2, .ref a_1, .ref a_2, .ref a_3, .ref a_4, .ref a_5, .int i_3, .int i_4, .int i_5, .int i_6, .int i_7, .long j_0, .int i_8, .int i_9, .int i_10, .int i_11, .ref a_6, .ref a_7, .ref a_8, .ref a_9, .ref a_10, .ref a_11, .ref a_12, .ref a_13, .ref a_14, .ref a_15, .ref a_16, .ref a_17, .ref a_18, .int i_12, .int i_13, .int i_14, .int i_15, .int i_16, .int i_17, .ref a_19, .int i_18, .ref a_20])), (a_7, .inl (cy 1, 30, .inl (fun _ => 0)))]) (fun (r : Int32) (u : Unit) => 0 = r) 0 0 := by
  refine mm_begin (lv := [(0, .ref a_0), (1, .int i_0), (2, .int i_1)]) (by decide) (Nat.le_of_ble_eq_true rfl) rfl ?_
  intro p e s m below meth c A ls R args Q H locs hRe hQ hAe hx hb hr hlocks hml hown hnm hts hsz hA hS hP hK hD hl
  have hRf : R.frames = 2 := by rw [hRe]
  have hRl : R.locals = 46 := by rw [hRe]
  have hRc : R.cells = 0 := by rw [hRe]
  have hRs : R.slots = 0 := by rw [hRe]
  refine lv_aload_n hx hb dX12_isThen_0 rfl (lv_at hl 0 rfl) ?_
  refine lv_iload_n hx hb dX12_isThen_1 rfl (lv_at hl 1 rfl) ?_
  refine mm_finir (va_runV (As := [.int i_0]) (rest := []) ⟨hx, hb, hml, hown, hts⟩ (K129_X12_isLand l G cy H.size a_0 i_0 i_2 a_1 a_2 a_3 a_4 a_5 i_3 i_4 i_5 i_6 i_7 j_0 i_8 i_9 i_10 i_11 a_6 a_7 a_8 a_9 a_10 a_11 a_12 a_13 a_14 a_15 a_16 a_17 a_18 i_12 i_13 i_14 i_15 i_16 i_17 a_19 i_18 a_20 ) (cwV 1 hts (mm_gV mm_w641 mm_w642 mm_w643 mm_w5 mm_w644) rfl rfl rfl hd_X12_isLand ⟨by rw [hRf]; exact Nat.le_of_ble_eq_true rfl, by rw [hRl]; exact Nat.le_of_ble_eq_true rfl⟩) (mm_preV hK hP hD [0, 1] rfl rfl 0 rfl rfl rfl) rfl rfl hl.1 rfl (lv_room (Nat.le_of_ble_eq_true rfl)) dX12_isThen_2 ⟨by rw [hRc]; exact Nat.le_of_ble_eq_true rfl, by rw [hRs]; exact Nat.le_of_ble_eq_true rfl⟩) hP hD hS hA [0, 1] rfl (fun _ => rfl) ?_
  clear hP hD hS
  clear H locs
  intro v1 _u H locs hw hP hD hS
  subst hw
  refine lv_if_eq (tgt := 19) hx hb dX12_isThen_5 (by decide) (fun c2 => ?_) (fun c2 => ?_)
  · refine lv_iconst (v := 0) hx hb dX12_isThen_19 (by decide) ?_
    subst hAe
    rw [hQ]
    exact W.zret (v := 0) hx hb hr rfl (fun t ht hW => ⟨⟨0, (), rfl, rfl, by rw [ht]; exact hP, hK.warm hW, hD⟩, hS.F ht⟩) hS.2.2 dX12_isThen_20
  · have q3 := mm_neL (lo := 1) (mm_ne c2) mm_k0 mm_k0 (by decide) (by decide)
    exact mm_no q3 (by decide)

set_option maxHeartbeats 4000000 in
set_option maxRecDepth 100000 in
theorem K236_X12_isWords (l : Launch) (G : va_G) (cy : Nat → ClassId) (sz : Nat) (a_0 : Nat) (i_0 : Int32) (i_1 : Int32) (i_2 : Int32) (i_3 : Int32) (k_0 : Int32) (a_1 : Nat) (a_2 : Nat) (a_3 : Nat) (a_4 : Nat) (a_5 : Nat) (k_1 : Int32) (k_2 : Int32) (k_3 : Int32) (k_4 : Int32) (k_5 : Int32) (k_6 : Int64) (k_7 : Int32) (k_8 : Int32) (k_9 : Int32) (k_10 : Int32) (a_6 : Nat) (a_7 : Nat) (a_8 : Nat) (a_9 : Nat) (a_10 : Nat) (a_11 : Nat) (a_12 : Nat) (a_13 : Nat) (a_14 : Nat) (a_15 : Nat) (a_16 : Nat) (a_17 : Nat) (a_18 : Nat) (k_11 : Int32) (k_12 : Int32) (k_13 : Int32) (k_14 : Int32) (k_15 : Int32) (k_16 : Int32) (a_19 : Nat) (k_17 : Int32) (a_20 : Nat)   : mm_CI l yX12_isWords (mm_ws yX12_isWords cX12_isWords 5 (some .boolean)) ({ frames := 3, cells := 0, slots := 0, locals := 68 } : Room) G cy sz [(a_0, .inr (12, [.int k_0, .ref a_1, .ref a_2, .ref a_3, .ref a_4, .ref a_5, .int k_1, .int k_2, .int k_3, .int k_4, .int k_5, .long k_6, .int k_7, .int k_8, .int k_9, .int k_10, .ref a_6, .ref a_7, .ref a_8, .ref a_9, .ref a_10, .ref a_11, .ref a_12, .ref a_13, .ref a_14, .ref a_15, .ref a_16, .ref a_17, .ref a_18, .int k_11, .int k_12, .int k_13, .int k_14, .int k_15, .int k_16, .ref a_19, .int k_17, .ref a_20])), (a_7, .inl (cy 1, 30, .inl (fun _ => 0)))] [.ref a_0, .int i_0, .int i_1, .int i_2, .int i_3] (fun u : Unit => [(a_0, .inr (12, [.int k_0, .ref a_1, .ref a_2, .ref a_3, .ref a_4, .ref a_5, .int k_1, .int k_2, .int k_3, .int k_4, .int k_5, .long k_6, .int k_7, .int k_8, .int k_9, .int k_10, .ref a_6, .ref a_7, .ref a_8, .ref a_9, .ref a_10, .ref a_11, .ref a_12, .ref a_13, .ref a_14, .ref a_15, .ref a_16, .ref a_17, .ref a_18, .int k_11, .int k_12, .int k_13, .int k_14, .int k_15, .int k_16, .ref a_19, .int k_17, .ref a_20])), (a_7, .inl (cy 1, 30, .inl (fun _ => 0)))]) (fun (r : Int32) (u : Unit) => 0 = r) 0 0 := by
  refine mm_begin (lv := [(0, .ref a_0), (1, .int i_0), (2, .int i_1), (3, .int i_2), (4, .int i_3)]) (by decide) (Nat.le_of_ble_eq_true rfl) rfl ?_
  intro p e s m below meth c A ls R args Q H locs hRe hQ hAe hx hb hr hlocks hml hown hnm hts hsz hA hS hP hK hD hl
  have hRf : R.frames = 3 := by rw [hRe]
  have hRl : R.locals = 68 := by rw [hRe]
  have hRc : R.cells = 0 := by rw [hRe]
  have hRs : R.slots = 0 := by rw [hRe]
  refine lv_aload_n hx hb dX12_isWords_0 rfl (lv_at hl 0 rfl) ?_
  refine lv_iload_n hx hb dX12_isWords_1 rfl (lv_at hl 1 rfl) ?_
  refine lv_iload_n hx hb dX12_isWords_2 rfl (lv_at hl 2 rfl) ?_
  refine mm_finir (va_runV (As := [.int i_0, .int i_1]) (rest := []) ⟨hx, hb, hml, hown, hts⟩ (K237_X12_isThen l G cy H.size a_0 i_0 i_1 k_0 a_1 a_2 a_3 a_4 a_5 k_1 k_2 k_3 k_4 k_5 k_6 k_7 k_8 k_9 k_10 a_6 a_7 a_8 a_9 a_10 a_11 a_12 a_13 a_14 a_15 a_16 a_17 a_18 k_11 k_12 k_13 k_14 k_15 k_16 a_19 k_17 a_20 ) (cwV 2 hts (mm_gV mm_w678 mm_w679 mm_w680 mm_w5 mm_w681) rfl rfl rfl hd_X12_isThen ⟨by rw [hRf]; exact Nat.le_of_ble_eq_true rfl, by rw [hRl]; exact Nat.le_of_ble_eq_true rfl⟩) (mm_preV hK hP hD [0, 1] rfl rfl 0 rfl rfl rfl) rfl rfl hl.1 rfl (lv_room (Nat.le_of_ble_eq_true rfl)) dX12_isWords_3 ⟨by rw [hRc]; exact Nat.le_of_ble_eq_true rfl, by rw [hRs]; exact Nat.le_of_ble_eq_true rfl⟩) hP hD hS hA [0, 1] rfl (fun _ => rfl) ?_
  clear hP hD hS
  clear H locs
  intro v1 _u H locs hw hP hD hS
  subst hw
  refine lv_if_eq (tgt := 34) hx hb dX12_isWords_6 (by decide) (fun c2 => ?_) (fun c2 => ?_)
  · refine lv_iconst (v := 0) hx hb dX12_isWords_34 (by decide) ?_
    subst hAe
    rw [hQ]
    exact W.zret (v := 0) hx hb hr rfl (fun t ht hW => ⟨⟨0, (), rfl, rfl, by rw [ht]; exact hP, hK.warm hW, hD⟩, hS.F ht⟩) hS.2.2 dX12_isWords_35
  · have q3 := mm_neL (lo := 1) (mm_ne c2) mm_k0 mm_k0 (by decide) (by decide)
    exact mm_no q3 (by decide)

set_option maxHeartbeats 4000000 in
set_option maxRecDepth 100000 in
theorem K239_X12_isWords (l : Launch) (G : va_G) (cy : Nat → ClassId) (sz : Nat) (a_0 : Nat) (i_0 : Int32) (i_1 : Int32) (i_2 : Int32) (i_3 : Int32) (k_0 : Int32) (a_1 : Nat) (a_2 : Nat) (a_3 : Nat) (a_4 : Nat) (a_5 : Nat) (i_4 : Int32) (i_5 : Int32) (i_6 : Int32) (i_7 : Int32) (i_8 : Int32) (j_0 : Int64) (i_9 : Int32) (i_10 : Int32) (i_11 : Int32) (i_12 : Int32) (a_6 : Nat) (a_7 : Nat) (a_8 : Nat) (a_9 : Nat) (a_10 : Nat) (a_11 : Nat) (a_12 : Nat) (a_13 : Nat) (a_14 : Nat) (a_15 : Nat) (a_16 : Nat) (a_17 : Nat) (a_18 : Nat) (i_13 : Int32) (i_14 : Int32) (i_15 : Int32) (i_16 : Int32) (i_17 : Int32) (i_18 : Int32) (a_19 : Nat) (i_19 : Int32) (a_20 : Nat)   : mm_CI l yX12_isWords (mm_ws yX12_isWords cX12_isWords 5 (some .boolean)) ({ frames := 3, cells := 0, slots := 0, locals := 68 } : Room) G cy sz [(a_0, .inr (12, [.int k_0, .ref a_1, .ref a_2, .ref a_3, .ref a_4, .ref a_5, .int i_4, .int i_5, .int i_6, .int i_7, .int i_8, .long j_0, .int i_9, .int i_10, .int i_11, .int i_12, .ref a_6, .ref a_7, .ref a_8, .ref a_9, .ref a_10, .ref a_11, .ref a_12, .ref a_13, .ref a_14, .ref a_15, .ref a_16, .ref a_17, .ref a_18, .int i_13, .int i_14, .int i_15, .int i_16, .int i_17, .int i_18, .ref a_19, .int i_19, .ref a_20])), (a_7, .inl (cy 1, 30, .inl (fun _ => 0)))] [.ref a_0, .int i_0, .int i_1, .int i_2, .int i_3] (fun u : Unit => [(a_0, .inr (12, [.int k_0, .ref a_1, .ref a_2, .ref a_3, .ref a_4, .ref a_5, .int i_4, .int i_5, .int i_6, .int i_7, .int i_8, .long j_0, .int i_9, .int i_10, .int i_11, .int i_12, .ref a_6, .ref a_7, .ref a_8, .ref a_9, .ref a_10, .ref a_11, .ref a_12, .ref a_13, .ref a_14, .ref a_15, .ref a_16, .ref a_17, .ref a_18, .int i_13, .int i_14, .int i_15, .int i_16, .int i_17, .int i_18, .ref a_19, .int i_19, .ref a_20])), (a_7, .inl (cy 1, 30, .inl (fun _ => 0)))]) (fun (r : Int32) (u : Unit) => 0 = r) 0 0 := by
  refine mm_begin (lv := [(0, .ref a_0), (1, .int i_0), (2, .int i_1), (3, .int i_2), (4, .int i_3)]) (by decide) (Nat.le_of_ble_eq_true rfl) rfl ?_
  intro p e s m below meth c A ls R args Q H locs hRe hQ hAe hx hb hr hlocks hml hown hnm hts hsz hA hS hP hK hD hl
  have hRf : R.frames = 3 := by rw [hRe]
  have hRl : R.locals = 68 := by rw [hRe]
  have hRc : R.cells = 0 := by rw [hRe]
  have hRs : R.slots = 0 := by rw [hRe]
  refine lv_aload_n hx hb dX12_isWords_0 rfl (lv_at hl 0 rfl) ?_
  refine lv_iload_n hx hb dX12_isWords_1 rfl (lv_at hl 1 rfl) ?_
  refine lv_iload_n hx hb dX12_isWords_2 rfl (lv_at hl 2 rfl) ?_
  refine mm_finir (va_runV (As := [.int i_0, .int i_1]) (rest := []) ⟨hx, hb, hml, hown, hts⟩ (K237_X12_isThen l G cy H.size a_0 i_0 i_1 k_0 a_1 a_2 a_3 a_4 a_5 i_4 i_5 i_6 i_7 i_8 j_0 i_9 i_10 i_11 i_12 a_6 a_7 a_8 a_9 a_10 a_11 a_12 a_13 a_14 a_15 a_16 a_17 a_18 i_13 i_14 i_15 i_16 i_17 i_18 a_19 i_19 a_20 ) (cwV 2 hts (mm_gV mm_w678 mm_w679 mm_w680 mm_w5 mm_w681) rfl rfl rfl hd_X12_isThen ⟨by rw [hRf]; exact Nat.le_of_ble_eq_true rfl, by rw [hRl]; exact Nat.le_of_ble_eq_true rfl⟩) (mm_preV hK hP hD [0, 1] rfl rfl 0 rfl rfl rfl) rfl rfl hl.1 rfl (lv_room (Nat.le_of_ble_eq_true rfl)) dX12_isWords_3 ⟨by rw [hRc]; exact Nat.le_of_ble_eq_true rfl, by rw [hRs]; exact Nat.le_of_ble_eq_true rfl⟩) hP hD hS hA [0, 1] rfl (fun _ => rfl) ?_
  clear hP hD hS
  clear H locs
  intro v1 _u H locs hw hP hD hS
  subst hw
  refine lv_if_eq (tgt := 34) hx hb dX12_isWords_6 (by decide) (fun c2 => ?_) (fun c2 => ?_)
  · refine lv_iconst (v := 0) hx hb dX12_isWords_34 (by decide) ?_
    subst hAe
    rw [hQ]
    exact W.zret (v := 0) hx hb hr rfl (fun t ht hW => ⟨⟨0, (), rfl, rfl, by rw [ht]; exact hP, hK.warm hW, hD⟩, hS.F ht⟩) hS.2.2 dX12_isWords_35
  · have q3 := mm_neL (lo := 1) (mm_ne c2) mm_k0 mm_k0 (by decide) (by decide)
    exact mm_no q3 (by decide)

set_option maxHeartbeats 4000000 in
set_option maxRecDepth 100000 in
theorem K238_X12_wording (l : Launch) (G : va_G) (cy : Nat → ClassId) (sz : Nat) (a_0 : Nat) (i_0 : Int32) (i_1 : Int32) (i_2 : Int32) (i_3 : Int32) (a_1 : Nat) (a_2 : Nat) (a_3 : Nat) (a_4 : Nat) (a_5 : Nat) (k_0 : Int32) (k_1 : Int32) (k_2 : Int32) (k_3 : Int32) (k_4 : Int32) (k_5 : Int64) (k_6 : Int32) (k_7 : Int32) (k_8 : Int32) (k_9 : Int32) (a_6 : Nat) (a_7 : Nat) (a_8 : Nat) (a_9 : Nat) (a_10 : Nat) (a_11 : Nat) (a_12 : Nat) (a_13 : Nat) (a_14 : Nat) (a_15 : Nat) (a_16 : Nat) (a_17 : Nat) (a_18 : Nat) (k_10 : Int32) (k_11 : Int32) (k_12 : Int32) (k_13 : Int32) (k_14 : Int32) (k_15 : Int32) (a_19 : Nat) (k_16 : Int32) (a_20 : Nat)   : mm_CI l yX12_wording (mm_ws yX12_wording cX12_wording 6 (some .int)) ({ frames := 4, cells := 0, slots := 0, locals := 92 } : Room) G cy sz [(a_0, .inr (12, [.int 0, .ref a_1, .ref a_2, .ref a_3, .ref a_4, .ref a_5, .int k_0, .int k_1, .int k_2, .int k_3, .int k_4, .long k_5, .int k_6, .int k_7, .int k_8, .int k_9, .ref a_6, .ref a_7, .ref a_8, .ref a_9, .ref a_10, .ref a_11, .ref a_12, .ref a_13, .ref a_14, .ref a_15, .ref a_16, .ref a_17, .ref a_18, .int k_10, .int k_11, .int k_12, .int k_13, .int k_14, .int k_15, .ref a_19, .int k_16, .ref a_20])), (a_7, .inl (cy 1, 30, .inl (fun _ => 0)))] [.ref a_0, .int i_0, .int i_1, .int i_2, .int i_3] (fun u : Unit => [(a_0, .inr (12, [.int 0, .ref a_1, .ref a_2, .ref a_3, .ref a_4, .ref a_5, .int k_0, .int k_1, .int k_2, .int k_3, .int k_4, .long k_5, .int k_6, .int k_7, .int k_8, .int k_9, .ref a_6, .ref a_7, .ref a_8, .ref a_9, .ref a_10, .ref a_11, .ref a_12, .ref a_13, .ref a_14, .ref a_15, .ref a_16, .ref a_17, .ref a_18, .int k_10, .int k_11, .int k_12, .int k_13, .int k_14, .int k_15, .ref a_19, .int k_16, .ref a_20])), (a_7, .inl (cy 1, 30, .inl (fun _ => 0)))]) (fun (r : Int32) (u : Unit) => (-2) = r) 0 0 := by
  refine mm_begin (lv := [(0, .ref a_0), (1, .int i_0), (2, .int i_1), (3, .int i_2), (4, .int i_3)]) (by decide) (Nat.le_of_ble_eq_true rfl) rfl ?_
  intro p e s m below meth c A ls R args Q H locs hRe hQ hAe hx hb hr hlocks hml hown hnm hts hsz hA hS hP hK hD hl
  have hRf : R.frames = 4 := by rw [hRe]
  have hRl : R.locals = 92 := by rw [hRe]
  have hRc : R.cells = 0 := by rw [hRe]
  have hRs : R.slots = 0 := by rw [hRe]
  refine lv_aload_n hx hb dX12_wording_0 rfl (lv_at hl 0 rfl) ?_
  refine lv_iconst (v := 0) hx hb dX12_wording_1 (by decide) ?_
  refine va_put (D := G) (ci := 12) (v := .int 0) (ty := tyX12 0) (C := RX12) (T := TX12) (N := 38) hx hb hts (mm_i inlX12) tyX12 tyX12_ok nmX12 hown hK.1 hP hD hS 0 rfl rfl 0 (by decide) (mm_h hts mm_w177) (fun _ h9 => h9) rfl (tyX12_ok 0 (by decide)) rfl rfl (Nat.le_of_ble_eq_true rfl) dX12_wording_2 ?_
  clear hP hD hS
  clear H locs
  intro H locs (hP : va_P G vwCl [(a_0, .inr (12, [.int 0, .ref a_1, .ref a_2, .ref a_3, .ref a_4, .ref a_5, .int k_0, .int k_1, .int k_2, .int k_3, .int k_4, .long k_5, .int k_6, .int k_7, .int k_8, .int k_9, .ref a_6, .ref a_7, .ref a_8, .ref a_9, .ref a_10, .ref a_11, .ref a_12, .ref a_13, .ref a_14, .ref a_15, .ref a_16, .ref a_17, .ref a_18, .int k_10, .int k_11, .int k_12, .int k_13, .int k_14, .int k_15, .ref a_19, .int k_16, .ref a_20])), (a_7, .inl (cy 1, 30, .inl (fun _ => 0)))] H) (hD : va_D A [(a_0, .inr (12, [.int 0, .ref a_1, .ref a_2, .ref a_3, .ref a_4, .ref a_5, .int k_0, .int k_1, .int k_2, .int k_3, .int k_4, .long k_5, .int k_6, .int k_7, .int k_8, .int k_9, .ref a_6, .ref a_7, .ref a_8, .ref a_9, .ref a_10, .ref a_11, .ref a_12, .ref a_13, .ref a_14, .ref a_15, .ref a_16, .ref a_17, .ref a_18, .int k_10, .int k_11, .int k_12, .int k_13, .int k_14, .int k_15, .ref a_19, .int k_16, .ref a_20])), (a_7, .inl (cy 1, 30, .inl (fun _ => 0)))]) hS
  refine lv_aload_n hx hb dX12_wording_5 rfl (lv_at hl 0 rfl) ?_
  refine lv_iload_n hx hb dX12_wording_6 rfl (lv_at hl 1 rfl) ?_
  refine lv_iload_n hx hb dX12_wording_7 rfl (lv_at hl 2 rfl) ?_
  refine lv_iload_n hx hb dX12_wording_8 rfl (lv_at hl 3 rfl) ?_
  refine lv_iload hx hb dX12_wording_9 (lv_at hl 4 rfl) ?_
  refine mm_finir (va_runV (As := [.int i_0, .int i_1, .int i_2, .int i_3]) (rest := []) ⟨hx, hb, hml, hown, hts⟩ (K239_X12_isWords l G cy H.size a_0 i_0 i_1 i_2 i_3 0 a_1 a_2 a_3 a_4 a_5 k_0 k_1 k_2 k_3 k_4 k_5 k_6 k_7 k_8 k_9 a_6 a_7 a_8 a_9 a_10 a_11 a_12 a_13 a_14 a_15 a_16 a_17 a_18 k_10 k_11 k_12 k_13 k_14 k_15 a_19 k_16 a_20 ) (cwV 4 hts (mm_gV mm_w1395 mm_w1396 mm_w1397 mm_w5 mm_w1398) rfl rfl rfl hd_X12_isWords ⟨by rw [hRf]; exact Nat.le_of_ble_eq_true rfl, by rw [hRl]; exact Nat.le_of_ble_eq_true rfl⟩) (mm_preV hK hP hD [0, 1] rfl rfl 0 rfl rfl rfl) rfl rfl hl.1 rfl (lv_room (Nat.le_of_ble_eq_true rfl)) dX12_wording_11 ⟨by rw [hRc]; exact Nat.le_of_ble_eq_true rfl, by rw [hRs]; exact Nat.le_of_ble_eq_true rfl⟩) hP hD hS hA [0, 1] rfl (fun _ => rfl) ?_
  clear hP hD hS
  clear H locs
  intro v1 _u H locs hw hP hD hS
  subst hw
  refine lv_if_ne (tgt := 20) hx hb dX12_wording_14 (by decide) (fun c2 => ?_) (fun c2 => ?_)
  · have q3 := mm_neL (lo := 1) (mm_ne c2) mm_k0 mm_k0 (by decide) (by decide)
    exact mm_no q3 (by decide)
  · refine lv_bipush (v := (-2)) hx hb dX12_wording_17 (by decide) ?_
    subst hAe
    rw [hQ]
    exact W.iret (v := (-2)) hx hb hr (fun t ht hW => ⟨⟨(-2), (), rfl, rfl, by rw [ht]; exact hP, hK.warm hW, hD⟩, hS.F ht⟩) hS.2.2 dX12_wording_19

set_option maxHeartbeats 4000000 in
set_option maxRecDepth 100000 in
theorem K240_X11_worded (l : Launch) (G : va_G) (cy : Nat → ClassId) (sz : Nat) (a_0 : Nat) (i_0 : Int32) (i_1 : Int32) (i_2 : Int32) (i_3 : Int32) (i_4 : Int32) (a_1 : Nat) (a_2 : Nat) (a_3 : Nat) (a_4 : Nat) (a_5 : Nat) (a_6 : Nat) (a_7 : Nat) (a_8 : Nat) (a_9 : Nat) (a_10 : Nat) (a_11 : Nat) (a_24 : Nat) (a_25 : Nat) (k_0 : Int32) (k_1 : Int32) (k_2 : Int32) (k_3 : Int32) (k_4 : Int32) (k_5 : Int32) (k_6 : Int32) (a_26 : Nat) (a_27 : Nat) (a_28 : Nat) (a_29 : Nat) (a_30 : Nat) (a_31 : Nat) (a_32 : Nat) (a_33 : Nat) (a_34 : Nat) (a_35 : Nat)   : mm_CI l yX11_worded (mm_ws yX11_worded cX11_worded 6 (some .int)) ({ frames := 2, cells := 0, slots := 0, locals := 45 } : Room) G cy sz [(a_0, .inr (11, [.ref a_1, .ref a_2, .ref a_3, .ref a_4, .ref a_5, .ref a_6, .ref a_7, .ref a_8, .ref a_9, .ref a_10, .ref a_11])), (a_3, .inr (10, [.ref a_24, .ref a_25])), (a_24, .inr (0, [.int k_0, .int k_1, .int k_2, .int k_3, .int k_4, .int 0, .int k_5, .int k_6, .ref a_26, .ref a_27, .ref a_28, .ref a_29, .ref a_30, .ref a_31, .ref a_32, .ref a_33, .ref a_34, .ref a_35]))] [.ref a_0, .int i_0, .int i_1, .int i_2, .int i_3, .int i_4] (fun u : Unit => [(a_0, .inr (11, [.ref a_1, .ref a_2, .ref a_3, .ref a_4, .ref a_5, .ref a_6, .ref a_7, .ref a_8, .ref a_9, .ref a_10, .ref a_11])), (a_3, .inr (10, [.ref a_24, .ref a_25])), (a_24, .inr (0, [.int k_0, .int k_1, .int k_2, .int k_3, .int k_4, .int 0, .int k_5, .int k_6, .ref a_26, .ref a_27, .ref a_28, .ref a_29, .ref a_30, .ref a_31, .ref a_32, .ref a_33, .ref a_34, .ref a_35]))]) (fun (r : Int32) (u : Unit) => (-2) = r) 0 0 := by
  refine mm_begin (lv := [(0, .ref a_0), (1, .int i_0), (2, .int i_1), (3, .int i_2), (4, .int i_3), (5, .int i_4)]) (by decide) (Nat.le_of_ble_eq_true rfl) rfl ?_
  intro p e s m below meth c A ls R args Q H locs hRe hQ hAe hx hb hr hlocks hml hown hnm hts hsz hA hS hP hK hD hl
  have hRf : R.frames = 2 := by rw [hRe]
  have hRl : R.locals = 45 := by rw [hRe]
  have hRc : R.cells = 0 := by rw [hRe]
  have hRs : R.slots = 0 := by rw [hRe]
  refine lv_aload_n hx hb dX11_worded_0 rfl (lv_at hl 0 rfl) ?_
  refine lv_iload_n hx hb dX11_worded_1 rfl (lv_at hl 1 rfl) ?_
  refine lv_iload_n hx hb dX11_worded_2 rfl (lv_at hl 2 rfl) ?_
  refine lv_iload_n hx hb dX11_worded_3 rfl (lv_at hl 3 rfl) ?_
  refine lv_iload hx hb dX11_worded_4 (lv_at hl 4 rfl) ?_
  refine mm_finir (va_runV (As := [.int i_0, .int i_1, .int i_2, .int i_3]) (rest := []) ⟨hx, hb, hml, hown, hts⟩ (K235_X11_isTask l G cy H.size a_0 i_0 i_1 i_2 i_3 a_1 a_2 a_3 a_4 a_5 a_6 a_7 a_8 a_9 a_10 a_11 a_24 a_25 k_0 k_1 k_2 k_3 k_4 k_5 k_6 a_26 a_27 a_28 a_29 a_30 a_31 a_32 a_33 a_34 a_35 ) (cwV 4 hts (mm_gV mm_w1350 mm_w1351 mm_w1352 mm_w2 mm_w1353) rfl rfl rfl hd_X11_isTask ⟨by rw [hRf]; exact Nat.le_of_ble_eq_true rfl, by rw [hRl]; exact Nat.le_of_ble_eq_true rfl⟩) (mm_preV hK hP hD [0, 1, 2] rfl rfl 0 rfl rfl rfl) rfl rfl hl.1 rfl (lv_room (Nat.le_of_ble_eq_true rfl)) dX11_worded_6 ⟨by rw [hRc]; exact Nat.le_of_ble_eq_true rfl, by rw [hRs]; exact Nat.le_of_ble_eq_true rfl⟩) hP hD hS hA [0, 1, 2] rfl (fun _ => rfl) ?_
  clear hP hD hS
  clear H locs
  intro v1 _u H locs hw hP hD hS
  subst hw
  refine lv_if_eq (tgt := 17) hx hb dX11_worded_9 (by decide) (fun c2 => ?_) (fun c2 => ?_)
  · refine lv_bipush (v := (-2)) hx hb dX11_worded_17 (by decide) ?_
    subst hAe
    rw [hQ]
    exact W.iret (v := (-2)) hx hb hr (fun t ht hW => ⟨⟨(-2), (), rfl, rfl, by rw [ht]; exact hP, hK.warm hW, hD⟩, hS.F ht⟩) hS.2.2 dX11_worded_19
  · have q3 := mm_neL (lo := 1) (mm_ne c2) mm_k0 mm_k0 (by decide) (by decide)
    exact mm_no q3 (by decide)

set_option maxHeartbeats 4000000 in
set_option maxRecDepth 100000 in
theorem K241_X12_worded (l : Launch) (G : va_G) (cy : Nat → ClassId) (sz : Nat) (a_0 : Nat) (i_0 : Int32) (i_1 : Int32) (i_2 : Int32) (i_3 : Int32) (i_4 : Int32) (a_1 : Nat) (a_2 : Nat) (a_3 : Nat) (a_4 : Nat) (a_5 : Nat) (k_0 : Int32) (k_1 : Int32) (k_2 : Int32) (k_3 : Int32) (k_4 : Int32) (k_5 : Int64) (k_6 : Int32) (k_7 : Int32) (k_8 : Int32) (k_9 : Int32) (a_6 : Nat) (a_7 : Nat) (a_8 : Nat) (a_9 : Nat) (a_10 : Nat) (a_11 : Nat) (a_12 : Nat) (a_13 : Nat) (a_14 : Nat) (a_15 : Nat) (a_16 : Nat) (a_17 : Nat) (a_18 : Nat) (k_10 : Int32) (k_11 : Int32) (k_12 : Int32) (k_13 : Int32) (k_14 : Int32) (k_15 : Int32) (a_19 : Nat) (k_16 : Int32) (a_20 : Nat)   : mm_CI l yX12_worded (mm_ws yX12_worded cX12_worded 6 (some .int)) ({ frames := 4, cells := 0, slots := 0, locals := 92 } : Room) G cy sz [(a_0, .inr (12, [.int 0, .ref a_1, .ref a_2, .ref a_3, .ref a_4, .ref a_5, .int k_0, .int k_1, .int k_2, .int k_3, .int k_4, .long k_5, .int k_6, .int k_7, .int k_8, .int k_9, .ref a_6, .ref a_7, .ref a_8, .ref a_9, .ref a_10, .ref a_11, .ref a_12, .ref a_13, .ref a_14, .ref a_15, .ref a_16, .ref a_17, .ref a_18, .int k_10, .int k_11, .int k_12, .int k_13, .int k_14, .int k_15, .ref a_19, .int k_16, .ref a_20])), (a_7, .inl (cy 1, 30, .inl (fun _ => 0)))] [.ref a_0, .int i_0, .int i_1, .int i_2, .int i_3, .int i_4] (fun u : Unit => [(a_0, .inr (12, [.int 0, .ref a_1, .ref a_2, .ref a_3, .ref a_4, .ref a_5, .int k_0, .int k_1, .int k_2, .int k_3, .int k_4, .long k_5, .int k_6, .int k_7, .int k_8, .int k_9, .ref a_6, .ref a_7, .ref a_8, .ref a_9, .ref a_10, .ref a_11, .ref a_12, .ref a_13, .ref a_14, .ref a_15, .ref a_16, .ref a_17, .ref a_18, .int k_10, .int k_11, .int k_12, .int k_13, .int k_14, .int k_15, .ref a_19, .int k_16, .ref a_20])), (a_7, .inl (cy 1, 30, .inl (fun _ => 0)))]) (fun (r : Int32) (u : Unit) => (-2) = r) 0 0 := by
  refine mm_begin (lv := [(0, .ref a_0), (1, .int i_0), (2, .int i_1), (3, .int i_2), (4, .int i_3), (5, .int i_4)]) (by decide) (Nat.le_of_ble_eq_true rfl) rfl ?_
  intro p e s m below meth c A ls R args Q H locs hRe hQ hAe hx hb hr hlocks hml hown hnm hts hsz hA hS hP hK hD hl
  have hRf : R.frames = 4 := by rw [hRe]
  have hRl : R.locals = 92 := by rw [hRe]
  have hRc : R.cells = 0 := by rw [hRe]
  have hRs : R.slots = 0 := by rw [hRe]
  refine lv_aload_n hx hb dX12_worded_0 rfl (lv_at hl 0 rfl) ?_
  refine lv_iconst (v := 0) hx hb dX12_worded_1 (by decide) ?_
  refine va_put (D := G) (ci := 12) (v := .int 0) (ty := tyX12 0) (C := RX12) (T := TX12) (N := 38) hx hb hts (mm_i inlX12) tyX12 tyX12_ok nmX12 hown hK.1 hP hD hS 0 rfl rfl 0 (by decide) (mm_h hts mm_w177) (fun _ h9 => h9) rfl (tyX12_ok 0 (by decide)) rfl rfl (Nat.le_of_ble_eq_true rfl) dX12_worded_2 ?_
  clear hP hD hS
  clear H locs
  intro H locs (hP : va_P G vwCl [(a_0, .inr (12, [.int 0, .ref a_1, .ref a_2, .ref a_3, .ref a_4, .ref a_5, .int k_0, .int k_1, .int k_2, .int k_3, .int k_4, .long k_5, .int k_6, .int k_7, .int k_8, .int k_9, .ref a_6, .ref a_7, .ref a_8, .ref a_9, .ref a_10, .ref a_11, .ref a_12, .ref a_13, .ref a_14, .ref a_15, .ref a_16, .ref a_17, .ref a_18, .int k_10, .int k_11, .int k_12, .int k_13, .int k_14, .int k_15, .ref a_19, .int k_16, .ref a_20])), (a_7, .inl (cy 1, 30, .inl (fun _ => 0)))] H) (hD : va_D A [(a_0, .inr (12, [.int 0, .ref a_1, .ref a_2, .ref a_3, .ref a_4, .ref a_5, .int k_0, .int k_1, .int k_2, .int k_3, .int k_4, .long k_5, .int k_6, .int k_7, .int k_8, .int k_9, .ref a_6, .ref a_7, .ref a_8, .ref a_9, .ref a_10, .ref a_11, .ref a_12, .ref a_13, .ref a_14, .ref a_15, .ref a_16, .ref a_17, .ref a_18, .int k_10, .int k_11, .int k_12, .int k_13, .int k_14, .int k_15, .ref a_19, .int k_16, .ref a_20])), (a_7, .inl (cy 1, 30, .inl (fun _ => 0)))]) hS
  refine lv_aload_n hx hb dX12_worded_5 rfl (lv_at hl 0 rfl) ?_
  refine lv_iload_n hx hb dX12_worded_6 rfl (lv_at hl 1 rfl) ?_
  refine lv_iload_n hx hb dX12_worded_7 rfl (lv_at hl 2 rfl) ?_
  refine lv_iload_n hx hb dX12_worded_8 rfl (lv_at hl 3 rfl) ?_
  refine lv_iload hx hb dX12_worded_9 (lv_at hl 4 rfl) ?_
  refine mm_finir (va_runV (As := [.int i_0, .int i_1, .int i_2, .int i_3]) (rest := []) ⟨hx, hb, hml, hown, hts⟩ (K239_X12_isWords l G cy H.size a_0 i_0 i_1 i_2 i_3 0 a_1 a_2 a_3 a_4 a_5 k_0 k_1 k_2 k_3 k_4 k_5 k_6 k_7 k_8 k_9 a_6 a_7 a_8 a_9 a_10 a_11 a_12 a_13 a_14 a_15 a_16 a_17 a_18 k_10 k_11 k_12 k_13 k_14 k_15 a_19 k_16 a_20 ) (cwV 4 hts (mm_gV mm_w1395 mm_w1396 mm_w1397 mm_w5 mm_w1398) rfl rfl rfl hd_X12_isWords ⟨by rw [hRf]; exact Nat.le_of_ble_eq_true rfl, by rw [hRl]; exact Nat.le_of_ble_eq_true rfl⟩) (mm_preV hK hP hD [0, 1] rfl rfl 0 rfl rfl rfl) rfl rfl hl.1 rfl (lv_room (Nat.le_of_ble_eq_true rfl)) dX12_worded_11 ⟨by rw [hRc]; exact Nat.le_of_ble_eq_true rfl, by rw [hRs]; exact Nat.le_of_ble_eq_true rfl⟩) hP hD hS hA [0, 1] rfl (fun _ => rfl) ?_
  clear hP hD hS
  clear H locs
  intro v1 _u H locs hw hP hD hS
  subst hw
  refine lv_if_eq (tgt := 22) hx hb dX12_worded_14 (by decide) (fun c2 => ?_) (fun c2 => ?_)
  · refine lv_bipush (v := (-2)) hx hb dX12_worded_22 (by decide) ?_
    subst hAe
    rw [hQ]
    exact W.iret (v := (-2)) hx hb hr (fun t ht hW => ⟨⟨(-2), (), rfl, rfl, by rw [ht]; exact hP, hK.warm hW, hD⟩, hS.F ht⟩) hS.2.2 dX12_worded_24
  · have q3 := mm_neL (lo := 1) (mm_ne c2) mm_k0 mm_k0 (by decide) (by decide)
    exact mm_no q3 (by decide)

