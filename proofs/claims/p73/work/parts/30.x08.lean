theorem dJ7_fill_d0a16_0 : decode cJ7_fill_d0a16 0 = .ok (.iconst 0, 1) := by decide +kernel
theorem dJ7_fill_d0a16_1 : decode cJ7_fill_d0a16 1 = .ok (.istore_n 3, 1) := by decide +kernel
theorem dJ7_fill_d0a16_2 : decode cJ7_fill_d0a16 2 = .ok (.aload_n 0, 1) := by decide +kernel
theorem dJ7_fill_d0a16_3 : decode cJ7_fill_d0a16 3 = .ok (.arraylength, 1) := by decide +kernel
theorem dJ7_fill_d0a16_4 : decode cJ7_fill_d0a16 4 = .ok (.istore 4, 2) := by decide +kernel
theorem dJ7_fill_d0a16_6 : decode cJ7_fill_d0a16 6 = .ok (.iload_n 3, 1) := by decide +kernel
theorem dJ7_fill_d0a16_7 : decode cJ7_fill_d0a16 7 = .ok (.iload 4, 2) := by decide +kernel
theorem dJ7_fill_d0a16_9 : decode cJ7_fill_d0a16 9 = .ok (.if_icmp .ge 13, 3) := by decide +kernel
theorem dJ7_fill_d0a16_12 : decode cJ7_fill_d0a16 12 = .ok (.aload_n 0, 1) := by decide +kernel
theorem dJ7_fill_d0a16_13 : decode cJ7_fill_d0a16 13 = .ok (.iload_n 3, 1) := by decide +kernel
theorem dJ7_fill_d0a16_14 : decode cJ7_fill_d0a16 14 = .ok (.lload_n 1, 1) := by decide +kernel
theorem dJ7_fill_d0a16_15 : decode cJ7_fill_d0a16 15 = .ok (.lastore, 1) := by decide +kernel
theorem dJ7_fill_d0a16_16 : decode cJ7_fill_d0a16 16 = .ok (.iinc 3 1, 3) := by decide +kernel
theorem dJ7_fill_d0a16_19 : decode cJ7_fill_d0a16 19 = .ok (.goto (-13), 3) := by decide +kernel
theorem dJ7_fill_d0a16_22 : decode cJ7_fill_d0a16 22 = .ok (.return_, 1) := by decide +kernel
theorem dX0_noteAct_0 : decode cX0_noteAct 0 = .ok (.aload_n 0, 1) := by decide +kernel
theorem dX0_noteAct_1 : decode cX0_noteAct 1 = .ok (.getfield 64, 3) := by decide +kernel
theorem dX0_noteAct_4 : decode cX0_noteAct 4 = .ok (.bipush 30, 2) := by decide +kernel
theorem dX0_noteAct_6 : decode cX0_noteAct 6 = .ok (.if_icmp .ge 43, 3) := by decide +kernel
theorem dX0_noteAct_9 : decode cX0_noteAct 9 = .ok (.aload_n 0, 1) := by decide +kernel
theorem dX0_noteAct_10 : decode cX0_noteAct 10 = .ok (.getfield 33, 3) := by decide +kernel
theorem dX0_noteAct_13 : decode cX0_noteAct 13 = .ok (.aload_n 0, 1) := by decide +kernel
theorem dX0_noteAct_14 : decode cX0_noteAct 14 = .ok (.getfield 64, 3) := by decide +kernel
theorem dX0_noteAct_17 : decode cX0_noteAct 17 = .ok (.iload_n 1, 1) := by decide +kernel
theorem dX0_noteAct_18 : decode cX0_noteAct 18 = .ok (.iastore, 1) := by decide +kernel
theorem dX0_noteAct_19 : decode cX0_noteAct 19 = .ok (.aload_n 0, 1) := by decide +kernel
theorem dX0_noteAct_20 : decode cX0_noteAct 20 = .ok (.getfield 36, 3) := by decide +kernel
theorem dX0_noteAct_23 : decode cX0_noteAct 23 = .ok (.aload_n 0, 1) := by decide +kernel
theorem dX0_noteAct_24 : decode cX0_noteAct 24 = .ok (.getfield 64, 3) := by decide +kernel
theorem dX0_noteAct_27 : decode cX0_noteAct 27 = .ok (.iload_n 2, 1) := by decide +kernel
theorem dX0_noteAct_28 : decode cX0_noteAct 28 = .ok (.iastore, 1) := by decide +kernel
theorem dX0_noteAct_29 : decode cX0_noteAct 29 = .ok (.aload_n 0, 1) := by decide +kernel
theorem dX0_noteAct_30 : decode cX0_noteAct 30 = .ok (.getfield 39, 3) := by decide +kernel
theorem dX0_noteAct_33 : decode cX0_noteAct 33 = .ok (.aload_n 0, 1) := by decide +kernel
theorem dX0_noteAct_34 : decode cX0_noteAct 34 = .ok (.getfield 64, 3) := by decide +kernel
theorem dX0_noteAct_37 : decode cX0_noteAct 37 = .ok (.iload_n 3, 1) := by decide +kernel
theorem dX0_noteAct_38 : decode cX0_noteAct 38 = .ok (.iastore, 1) := by decide +kernel
theorem dX0_noteAct_39 : decode cX0_noteAct 39 = .ok (.aload_n 0, 1) := by decide +kernel
theorem dX0_noteAct_40 : decode cX0_noteAct 40 = .ok (.dup, 1) := by decide +kernel
theorem dX0_noteAct_41 : decode cX0_noteAct 41 = .ok (.getfield 64, 3) := by decide +kernel
theorem dX0_noteAct_44 : decode cX0_noteAct 44 = .ok (.iconst 1, 1) := by decide +kernel
theorem dX0_noteAct_45 : decode cX0_noteAct 45 = .ok (.iadd, 1) := by decide +kernel
theorem dX0_noteAct_46 : decode cX0_noteAct 46 = .ok (.putfield 64, 3) := by decide +kernel
theorem dX0_noteAct_49 : decode cX0_noteAct 49 = .ok (.return_, 1) := by decide +kernel
theorem dX0_swapStart_0 : decode cX0_swapStart 0 = .ok (.aload_n 0, 1) := by decide +kernel
theorem dX0_swapStart_1 : decode cX0_swapStart 1 = .ok (.getfield 30, 3) := by decide +kernel
theorem dX0_swapStart_4 : decode cX0_swapStart 4 = .ok (.iload_n 1, 1) := by decide +kernel
theorem dX0_swapStart_5 : decode cX0_swapStart 5 = .ok (.bipush 10, 2) := by decide +kernel
theorem dX0_swapStart_7 : decode cX0_swapStart 7 = .ok (.imul, 1) := by decide +kernel
theorem dX0_swapStart_8 : decode cX0_swapStart 8 = .ok (.iload_n 2, 1) := by decide +kernel
theorem dX0_swapStart_9 : decode cX0_swapStart 9 = .ok (.iadd, 1) := by decide +kernel
theorem dX0_swapStart_10 : decode cX0_swapStart 10 = .ok (.iaload, 1) := by decide +kernel
theorem dX0_swapStart_11 : decode cX0_swapStart 11 = .ok (.istore 4, 2) := by decide +kernel
theorem dX0_swapStart_13 : decode cX0_swapStart 13 = .ok (.aload_n 0, 1) := by decide +kernel
theorem dX0_swapStart_14 : decode cX0_swapStart 14 = .ok (.getfield 30, 3) := by decide +kernel
theorem dX0_swapStart_17 : decode cX0_swapStart 17 = .ok (.iload_n 1, 1) := by decide +kernel
theorem dX0_swapStart_18 : decode cX0_swapStart 18 = .ok (.bipush 10, 2) := by decide +kernel
theorem dX0_swapStart_20 : decode cX0_swapStart 20 = .ok (.imul, 1) := by decide +kernel
theorem dX0_swapStart_21 : decode cX0_swapStart 21 = .ok (.iload_n 2, 1) := by decide +kernel
theorem dX0_swapStart_22 : decode cX0_swapStart 22 = .ok (.iadd, 1) := by decide +kernel
theorem dX0_swapStart_23 : decode cX0_swapStart 23 = .ok (.aload_n 0, 1) := by decide +kernel
theorem dX0_swapStart_24 : decode cX0_swapStart 24 = .ok (.getfield 30, 3) := by decide +kernel
theorem dX0_swapStart_27 : decode cX0_swapStart 27 = .ok (.iload_n 1, 1) := by decide +kernel
theorem dX0_swapStart_28 : decode cX0_swapStart 28 = .ok (.bipush 10, 2) := by decide +kernel
theorem dX0_swapStart_30 : decode cX0_swapStart 30 = .ok (.imul, 1) := by decide +kernel
theorem dX0_swapStart_31 : decode cX0_swapStart 31 = .ok (.iload_n 3, 1) := by decide +kernel
theorem dX0_swapStart_32 : decode cX0_swapStart 32 = .ok (.iadd, 1) := by decide +kernel
theorem dX0_swapStart_33 : decode cX0_swapStart 33 = .ok (.iaload, 1) := by decide +kernel
theorem dX0_swapStart_34 : decode cX0_swapStart 34 = .ok (.iastore, 1) := by decide +kernel
theorem dX0_swapStart_35 : decode cX0_swapStart 35 = .ok (.aload_n 0, 1) := by decide +kernel
theorem dX0_swapStart_36 : decode cX0_swapStart 36 = .ok (.getfield 30, 3) := by decide +kernel
theorem dX0_swapStart_39 : decode cX0_swapStart 39 = .ok (.iload_n 1, 1) := by decide +kernel
theorem dX0_swapStart_40 : decode cX0_swapStart 40 = .ok (.bipush 10, 2) := by decide +kernel
theorem dX0_swapStart_42 : decode cX0_swapStart 42 = .ok (.imul, 1) := by decide +kernel
theorem dX0_swapStart_43 : decode cX0_swapStart 43 = .ok (.iload_n 3, 1) := by decide +kernel
theorem dX0_swapStart_44 : decode cX0_swapStart 44 = .ok (.iadd, 1) := by decide +kernel
theorem dX0_swapStart_45 : decode cX0_swapStart 45 = .ok (.iload 4, 2) := by decide +kernel
theorem dX0_swapStart_47 : decode cX0_swapStart 47 = .ok (.iastore, 1) := by decide +kernel
theorem dX0_swapStart_48 : decode cX0_swapStart 48 = .ok (.return_, 1) := by decide +kernel
theorem dX11_chance_0 : decode cX11_chance 0 = .ok (.aload_n 0, 1) := by decide +kernel
theorem dX11_chance_1 : decode cX11_chance 1 = .ok (.iload_n 1, 1) := by decide +kernel
theorem dX11_chance_2 : decode cX11_chance 2 = .ok (.iload_n 2, 1) := by decide +kernel
theorem dX11_chance_3 : decode cX11_chance 3 = .ok (.iload_n 3, 1) := by decide +kernel
theorem dX11_chance_4 : decode cX11_chance 4 = .ok (.invokevirtual 191, 3) := by decide +kernel
theorem dX11_chance_7 : decode cX11_chance 7 = .ok (.ifCond .eq 19, 3) := by decide +kernel
theorem dX11_chance_10 : decode cX11_chance 10 = .ok (.iload 4, 2) := by decide +kernel
theorem dX11_chance_12 : decode cX11_chance 12 = .ok (.invokestatic 341, 3) := by decide +kernel
theorem dX11_chance_15 : decode cX11_chance 15 = .ok (.ifCond .eq 11, 3) := by decide +kernel
theorem dX11_chance_18 : decode cX11_chance 18 = .ok (.iload 5, 2) := by decide +kernel
theorem dX11_chance_20 : decode cX11_chance 20 = .ok (.invokestatic 125, 3) := by decide +kernel
theorem dX11_chance_23 : decode cX11_chance 23 = .ok (.ifCond .ne 6, 3) := by decide +kernel
theorem dX11_chance_26 : decode cX11_chance 26 = .ok (.bipush (-2), 2) := by decide +kernel
theorem dX11_chance_28 : decode cX11_chance 28 = .ok (.ireturn, 1) := by decide +kernel
theorem dX11_chance_29 : decode cX11_chance 29 = .ok (.aload_n 0, 1) := by decide +kernel
theorem dX11_chance_30 : decode cX11_chance 30 = .ok (.getfield 85, 3) := by decide +kernel
theorem dX11_chance_33 : decode cX11_chance 33 = .ok (.iload 4, 2) := by decide +kernel
theorem dX11_chance_35 : decode cX11_chance 35 = .ok (.invokevirtual 344, 3) := by decide +kernel
theorem dX11_chance_38 : decode cX11_chance 38 = .ok (.lstore 6, 2) := by decide +kernel
theorem dX11_chance_40 : decode cX11_chance 40 = .ok (.lconst 0, 1) := by decide +kernel
theorem dX11_chance_41 : decode cX11_chance 41 = .ok (.lstore 8, 2) := by decide +kernel
theorem dX11_chance_43 : decode cX11_chance 43 = .ok (.iconst 0, 1) := by decide +kernel
theorem dX11_chance_44 : decode cX11_chance 44 = .ok (.istore 10, 2) := by decide +kernel
theorem dX11_chance_46 : decode cX11_chance 46 = .ok (.iload 10, 2) := by decide +kernel
theorem dX11_chance_48 : decode cX11_chance 48 = .ok (.iload 4, 2) := by decide +kernel
theorem dX11_chance_50 : decode cX11_chance 50 = .ok (.if_icmp .gt 40, 3) := by decide +kernel
theorem dX11_chance_53 : decode cX11_chance 53 = .ok (.aload_n 0, 1) := by decide +kernel
theorem dX11_chance_54 : decode cX11_chance 54 = .ok (.getfield 28, 3) := by decide +kernel
theorem dX11_chance_57 : decode cX11_chance 57 = .ok (.iload_n 1, 1) := by decide +kernel
theorem dX11_chance_58 : decode cX11_chance 58 = .ok (.iload_n 2, 1) := by decide +kernel
theorem dX11_chance_59 : decode cX11_chance 59 = .ok (.iload 10, 2) := by decide +kernel
theorem dX11_chance_61 : decode cX11_chance 61 = .ok (.iadd, 1) := by decide +kernel
theorem dX11_chance_62 : decode cX11_chance 62 = .ok (.iload_n 3, 1) := by decide +kernel
theorem dX11_chance_63 : decode cX11_chance 63 = .ok (.invokevirtual 230, 3) := by decide +kernel
theorem dX11_chance_66 : decode cX11_chance 66 = .ok (.ifCond .eq 18, 3) := by decide +kernel
theorem dX11_chance_69 : decode cX11_chance 69 = .ok (.lload 8, 2) := by decide +kernel
theorem dX11_chance_71 : decode cX11_chance 71 = .ok (.aload_n 0, 1) := by decide +kernel
theorem dX11_chance_72 : decode cX11_chance 72 = .ok (.getfield 85, 3) := by decide +kernel
theorem dX11_chance_75 : decode cX11_chance 75 = .ok (.getfield 348, 3) := by decide +kernel
theorem dX11_chance_78 : decode cX11_chance 78 = .ok (.iload 10, 2) := by decide +kernel
theorem dX11_chance_80 : decode cX11_chance 80 = .ok (.laload, 1) := by decide +kernel
theorem dX11_chance_81 : decode cX11_chance 81 = .ok (.ladd, 1) := by decide +kernel
theorem dX11_chance_82 : decode cX11_chance 82 = .ok (.lstore 8, 2) := by decide +kernel
theorem dX11_chance_84 : decode cX11_chance 84 = .ok (.iinc 10 1, 3) := by decide +kernel
theorem dX11_chance_87 : decode cX11_chance 87 = .ok (.goto (-41), 3) := by decide +kernel
theorem dX11_chance_90 : decode cX11_chance 90 = .ok (.lload 8, 2) := by decide +kernel
theorem dX11_chance_92 : decode cX11_chance 92 = .ok (.lload 6, 2) := by decide +kernel
theorem dX11_chance_94 : decode cX11_chance 94 = .ok (.iload 5, 2) := by decide +kernel
theorem dX11_chance_96 : decode cX11_chance 96 = .ok (.invokestatic 238, 3) := by decide +kernel
theorem dX11_chance_99 : decode cX11_chance 99 = .ok (.l2i, 1) := by decide +kernel
theorem dX11_chance_100 : decode cX11_chance 100 = .ok (.ireturn, 1) := by decide +kernel
theorem dX11_greedy_0 : decode cX11_greedy 0 = .ok (.aload_n 0, 1) := by decide +kernel
theorem dX11_greedy_1 : decode cX11_greedy 1 = .ok (.iload_n 1, 1) := by decide +kernel
theorem dX11_greedy_2 : decode cX11_greedy 2 = .ok (.invokevirtual 145, 3) := by decide +kernel
theorem dX11_greedy_5 : decode cX11_greedy 5 = .ok (.ifCond .eq 10, 3) := by decide +kernel
theorem dX11_greedy_8 : decode cX11_greedy 8 = .ok (.iload_n 2, 1) := by decide +kernel
theorem dX11_greedy_9 : decode cX11_greedy 9 = .ok (.invokestatic 158, 3) := by decide +kernel
theorem dX11_greedy_12 : decode cX11_greedy 12 = .ok (.ifCond .ne 7, 3) := by decide +kernel
theorem dX11_greedy_15 : decode cX11_greedy 15 = .ok (.ldc_w 331, 3) := by decide +kernel
theorem dX11_greedy_18 : decode cX11_greedy 18 = .ok (.ireturn, 1) := by decide +kernel
theorem dX11_greedy_19 : decode cX11_greedy 19 = .ok (.aload_n 0, 1) := by decide +kernel
theorem dX11_greedy_20 : decode cX11_greedy 20 = .ok (.getfield 78, 3) := by decide +kernel
theorem dX11_greedy_23 : decode cX11_greedy 23 = .ok (.iload_n 1, 1) := by decide +kernel
theorem dX11_greedy_24 : decode cX11_greedy 24 = .ok (.iload_n 2, 1) := by decide +kernel
theorem dX11_greedy_25 : decode cX11_greedy 25 = .ok (.invokevirtual 338, 3) := by decide +kernel
theorem dX11_greedy_28 : decode cX11_greedy 28 = .ok (.ireturn, 1) := by decide +kernel
theorem dX11_heirs_0 : decode cX11_heirs 0 = .ok (.aload_n 0, 1) := by decide +kernel
theorem dX11_heirs_1 : decode cX11_heirs 1 = .ok (.iload_n 1, 1) := by decide +kernel
theorem dX11_heirs_2 : decode cX11_heirs 2 = .ok (.invokevirtual 145, 3) := by decide +kernel
theorem dX11_heirs_5 : decode cX11_heirs 5 = .ok (.ifCond .eq 10, 3) := by decide +kernel
theorem dX11_heirs_8 : decode cX11_heirs 8 = .ok (.iload_n 2, 1) := by decide +kernel
theorem dX11_heirs_9 : decode cX11_heirs 9 = .ok (.invokestatic 158, 3) := by decide +kernel
theorem dX11_heirs_12 : decode cX11_heirs 12 = .ok (.ifCond .ne 7, 3) := by decide +kernel
theorem dX11_heirs_15 : decode cX11_heirs 15 = .ok (.ldc_w 331, 3) := by decide +kernel
theorem dX11_heirs_18 : decode cX11_heirs 18 = .ok (.ireturn, 1) := by decide +kernel
theorem dX11_heirs_19 : decode cX11_heirs 19 = .ok (.aload_n 0, 1) := by decide +kernel
theorem dX11_heirs_20 : decode cX11_heirs 20 = .ok (.getfield 78, 3) := by decide +kernel
theorem dX11_heirs_23 : decode cX11_heirs 23 = .ok (.iload_n 1, 1) := by decide +kernel
theorem dX11_heirs_24 : decode cX11_heirs 24 = .ok (.iload_n 2, 1) := by decide +kernel
theorem dX11_heirs_25 : decode cX11_heirs 25 = .ok (.invokevirtual 332, 3) := by decide +kernel
theorem dX11_heirs_28 : decode cX11_heirs 28 = .ok (.ireturn, 1) := by decide +kernel
theorem dX11_isNights_0 : decode cX11_isNights 0 = .ok (.iload_n 0, 1) := by decide +kernel
theorem dX11_isNights_1 : decode cX11_isNights 1 = .ok (.ifCond .lt 13, 3) := by decide +kernel
theorem dX11_isNights_4 : decode cX11_isNights 4 = .ok (.iload_n 0, 1) := by decide +kernel
theorem dX11_isNights_5 : decode cX11_isNights 5 = .ok (.bipush 7, 2) := by decide +kernel
theorem dX11_isNights_7 : decode cX11_isNights 7 = .ok (.if_icmp .gt 7, 3) := by decide +kernel
theorem dX11_isNights_10 : decode cX11_isNights 10 = .ok (.iconst 1, 1) := by decide +kernel
theorem dX11_isNights_11 : decode cX11_isNights 11 = .ok (.goto 4, 3) := by decide +kernel
theorem dX11_isNights_14 : decode cX11_isNights 14 = .ok (.iconst 0, 1) := by decide +kernel
theorem dX11_isNights_15 : decode cX11_isNights 15 = .ok (.ireturn, 1) := by decide +kernel
theorem dX11_mean_0 : decode cX11_mean 0 = .ok (.aload_n 0, 1) := by decide +kernel
theorem dX11_mean_1 : decode cX11_mean 1 = .ok (.iload_n 1, 1) := by decide +kernel
theorem dX11_mean_2 : decode cX11_mean 2 = .ok (.iload_n 2, 1) := by decide +kernel
theorem dX11_mean_3 : decode cX11_mean 3 = .ok (.iload_n 3, 1) := by decide +kernel
theorem dX11_mean_4 : decode cX11_mean 4 = .ok (.invokevirtual 191, 3) := by decide +kernel
theorem dX11_mean_7 : decode cX11_mean 7 = .ok (.ifCond .eq 19, 3) := by decide +kernel
theorem dX11_mean_10 : decode cX11_mean 10 = .ok (.iload 4, 2) := by decide +kernel
theorem dX11_mean_12 : decode cX11_mean 12 = .ok (.invokestatic 341, 3) := by decide +kernel
theorem dX11_mean_15 : decode cX11_mean 15 = .ok (.ifCond .eq 11, 3) := by decide +kernel
theorem dX11_mean_18 : decode cX11_mean 18 = .ok (.iload 5, 2) := by decide +kernel
theorem dX11_mean_20 : decode cX11_mean 20 = .ok (.invokestatic 125, 3) := by decide +kernel
theorem dX11_mean_23 : decode cX11_mean 23 = .ok (.ifCond .ne 7, 3) := by decide +kernel
theorem dX11_mean_26 : decode cX11_mean 26 = .ok (.ldc2_w 352, 3) := by decide +kernel
theorem dX11_mean_29 : decode cX11_mean 29 = .ok (.lreturn, 1) := by decide +kernel
theorem dX11_mean_30 : decode cX11_mean 30 = .ok (.aload_n 0, 1) := by decide +kernel
theorem dX11_mean_31 : decode cX11_mean 31 = .ok (.getfield 85, 3) := by decide +kernel
theorem dX11_mean_34 : decode cX11_mean 34 = .ok (.iload 4, 2) := by decide +kernel
theorem dX11_mean_36 : decode cX11_mean 36 = .ok (.invokevirtual 344, 3) := by decide +kernel
theorem dX11_mean_39 : decode cX11_mean 39 = .ok (.lstore 6, 2) := by decide +kernel
theorem dX11_mean_41 : decode cX11_mean 41 = .ok (.lconst 0, 1) := by decide +kernel
theorem dX11_mean_42 : decode cX11_mean 42 = .ok (.lstore 8, 2) := by decide +kernel
theorem dX11_mean_44 : decode cX11_mean 44 = .ok (.iconst 0, 1) := by decide +kernel
theorem dX11_mean_45 : decode cX11_mean 45 = .ok (.istore 10, 2) := by decide +kernel
theorem dX11_mean_47 : decode cX11_mean 47 = .ok (.iload 10, 2) := by decide +kernel
theorem dX11_mean_49 : decode cX11_mean 49 = .ok (.iload 4, 2) := by decide +kernel
theorem dX11_mean_51 : decode cX11_mean 51 = .ok (.if_icmp .gt 39, 3) := by decide +kernel
theorem dX11_mean_54 : decode cX11_mean 54 = .ok (.lload 8, 2) := by decide +kernel
theorem dX11_mean_56 : decode cX11_mean 56 = .ok (.aload_n 0, 1) := by decide +kernel
theorem dX11_mean_57 : decode cX11_mean 57 = .ok (.getfield 85, 3) := by decide +kernel
theorem dX11_mean_60 : decode cX11_mean 60 = .ok (.getfield 348, 3) := by decide +kernel
theorem dX11_mean_63 : decode cX11_mean 63 = .ok (.iload 10, 2) := by decide +kernel
theorem dX11_mean_65 : decode cX11_mean 65 = .ok (.laload, 1) := by decide +kernel
theorem dX11_mean_66 : decode cX11_mean 66 = .ok (.aload_n 0, 1) := by decide +kernel
theorem dX11_mean_67 : decode cX11_mean 67 = .ok (.getfield 28, 3) := by decide +kernel
theorem dX11_mean_70 : decode cX11_mean 70 = .ok (.iload_n 1, 1) := by decide +kernel
theorem dX11_mean_71 : decode cX11_mean 71 = .ok (.iload_n 2, 1) := by decide +kernel
theorem dX11_mean_72 : decode cX11_mean 72 = .ok (.iload 10, 2) := by decide +kernel
theorem dX11_mean_74 : decode cX11_mean 74 = .ok (.iadd, 1) := by decide +kernel
theorem dX11_mean_75 : decode cX11_mean 75 = .ok (.iload_n 3, 1) := by decide +kernel
theorem dX11_mean_76 : decode cX11_mean 76 = .ok (.invokevirtual 195, 3) := by decide +kernel
theorem dX11_mean_79 : decode cX11_mean 79 = .ok (.i2l, 1) := by decide +kernel
theorem dX11_mean_80 : decode cX11_mean 80 = .ok (.lmul, 1) := by decide +kernel
theorem dX11_mean_81 : decode cX11_mean 81 = .ok (.ladd, 1) := by decide +kernel
theorem dX11_mean_82 : decode cX11_mean 82 = .ok (.lstore 8, 2) := by decide +kernel
theorem dX11_mean_84 : decode cX11_mean 84 = .ok (.iinc 10 1, 3) := by decide +kernel
theorem dX11_mean_87 : decode cX11_mean 87 = .ok (.goto (-40), 3) := by decide +kernel
theorem dX11_mean_90 : decode cX11_mean 90 = .ok (.lload 8, 2) := by decide +kernel
theorem dX11_mean_92 : decode cX11_mean 92 = .ok (.lload 6, 2) := by decide +kernel
theorem dX11_mean_94 : decode cX11_mean 94 = .ok (.iload 5, 2) := by decide +kernel
theorem dX11_mean_96 : decode cX11_mean 96 = .ok (.invokestatic 238, 3) := by decide +kernel
theorem dX11_mean_99 : decode cX11_mean 99 = .ok (.lreturn, 1) := by decide +kernel
theorem dX11_swaps_0 : decode cX11_swaps 0 = .ok (.aload_n 0, 1) := by decide +kernel
theorem dX11_swaps_1 : decode cX11_swaps 1 = .ok (.iload_n 1, 1) := by decide +kernel
theorem dX11_swaps_2 : decode cX11_swaps 2 = .ok (.invokevirtual 145, 3) := by decide +kernel
theorem dX11_swaps_5 : decode cX11_swaps 5 = .ok (.ifCond .eq 24, 3) := by decide +kernel
theorem dX11_swaps_8 : decode cX11_swaps 8 = .ok (.aload_n 0, 1) := by decide +kernel
theorem dX11_swaps_9 : decode cX11_swaps 9 = .ok (.iload_n 2, 1) := by decide +kernel
theorem dX11_swaps_10 : decode cX11_swaps 10 = .ok (.invokevirtual 148, 3) := by decide +kernel
theorem dX11_swaps_13 : decode cX11_swaps 13 = .ok (.ifCond .eq 16, 3) := by decide +kernel
theorem dX11_swaps_16 : decode cX11_swaps 16 = .ok (.aload_n 0, 1) := by decide +kernel
theorem dX11_swaps_17 : decode cX11_swaps 17 = .ok (.iload_n 3, 1) := by decide +kernel
theorem dX11_swaps_18 : decode cX11_swaps 18 = .ok (.invokevirtual 148, 3) := by decide +kernel
theorem dX11_swaps_21 : decode cX11_swaps 21 = .ok (.ifCond .eq 8, 3) := by decide +kernel
theorem dX11_swaps_24 : decode cX11_swaps 24 = .ok (.iload_n 2, 1) := by decide +kernel
theorem dX11_swaps_25 : decode cX11_swaps 25 = .ok (.iload_n 3, 1) := by decide +kernel
theorem dX11_swaps_26 : decode cX11_swaps 26 = .ok (.if_icmp .ne 6, 3) := by decide +kernel
theorem dX11_swaps_29 : decode cX11_swaps 29 = .ok (.bipush (-2), 2) := by decide +kernel
theorem dX11_swaps_31 : decode cX11_swaps 31 = .ok (.ireturn, 1) := by decide +kernel
theorem dX11_swaps_32 : decode cX11_swaps 32 = .ok (.aload_n 0, 1) := by decide +kernel
theorem dX11_swaps_33 : decode cX11_swaps 33 = .ok (.getfield 28, 3) := by decide +kernel
theorem dX11_swaps_36 : decode cX11_swaps 36 = .ok (.getfield 109, 3) := by decide +kernel
theorem dX11_swaps_39 : decode cX11_swaps 39 = .ok (.getfield 354, 3) := by decide +kernel
theorem dX11_swaps_42 : decode cX11_swaps 42 = .ok (.bipush 30, 2) := by decide +kernel
theorem dX11_swaps_44 : decode cX11_swaps 44 = .ok (.if_icmp .lt 6, 3) := by decide +kernel
theorem dX11_swaps_47 : decode cX11_swaps 47 = .ok (.bipush (-5), 2) := by decide +kernel
theorem dX11_swaps_49 : decode cX11_swaps 49 = .ok (.ireturn, 1) := by decide +kernel
theorem dX11_swaps_50 : decode cX11_swaps 50 = .ok (.aload_n 0, 1) := by decide +kernel
theorem dX11_swaps_51 : decode cX11_swaps 51 = .ok (.getfield 28, 3) := by decide +kernel
theorem dX11_swaps_54 : decode cX11_swaps 54 = .ok (.getfield 109, 3) := by decide +kernel
theorem dX11_swaps_57 : decode cX11_swaps 57 = .ok (.getfield 357, 3) := by decide +kernel
theorem dX11_swaps_60 : decode cX11_swaps 60 = .ok (.iload_n 1, 1) := by decide +kernel
theorem dX11_swaps_61 : decode cX11_swaps 61 = .ok (.bipush 10, 2) := by decide +kernel
theorem dX11_swaps_63 : decode cX11_swaps 63 = .ok (.imul, 1) := by decide +kernel
theorem dX11_swaps_64 : decode cX11_swaps 64 = .ok (.iload_n 2, 1) := by decide +kernel
theorem dX11_swaps_65 : decode cX11_swaps 65 = .ok (.iadd, 1) := by decide +kernel
theorem dX11_swaps_66 : decode cX11_swaps 66 = .ok (.iaload, 1) := by decide +kernel
theorem dX11_swaps_67 : decode cX11_swaps 67 = .ok (.istore 4, 2) := by decide +kernel
theorem dX11_swaps_69 : decode cX11_swaps 69 = .ok (.aload_n 0, 1) := by decide +kernel
theorem dX11_swaps_70 : decode cX11_swaps 70 = .ok (.getfield 28, 3) := by decide +kernel
theorem dX11_swaps_73 : decode cX11_swaps 73 = .ok (.getfield 109, 3) := by decide +kernel
theorem dX11_swaps_76 : decode cX11_swaps 76 = .ok (.iload_n 1, 1) := by decide +kernel
theorem dX11_swaps_77 : decode cX11_swaps 77 = .ok (.iload_n 2, 1) := by decide +kernel
theorem dX11_swaps_78 : decode cX11_swaps 78 = .ok (.iload_n 3, 1) := by decide +kernel
theorem dX11_swaps_79 : decode cX11_swaps 79 = .ok (.invokevirtual 360, 3) := by decide +kernel
theorem dX11_swaps_82 : decode cX11_swaps 82 = .ok (.aload_n 0, 1) := by decide +kernel
theorem dX11_swaps_83 : decode cX11_swaps 83 = .ok (.getfield 28, 3) := by decide +kernel
theorem dX11_swaps_86 : decode cX11_swaps 86 = .ok (.getfield 109, 3) := by decide +kernel
theorem dX11_swaps_89 : decode cX11_swaps 89 = .ok (.iload_n 1, 1) := by decide +kernel
theorem dX11_swaps_90 : decode cX11_swaps 90 = .ok (.iload_n 2, 1) := by decide +kernel
theorem dX11_swaps_91 : decode cX11_swaps 91 = .ok (.iload_n 3, 1) := by decide +kernel
theorem dX11_swaps_92 : decode cX11_swaps 92 = .ok (.invokevirtual 364, 3) := by decide +kernel
theorem dX11_swaps_95 : decode cX11_swaps 95 = .ok (.iload 4, 2) := by decide +kernel
theorem dX11_swaps_97 : decode cX11_swaps 97 = .ok (.ireturn, 1) := by decide +kernel
theorem dX11_takes_0 : decode cX11_takes 0 = .ok (.aload_n 0, 1) := by decide +kernel
theorem dX11_takes_1 : decode cX11_takes 1 = .ok (.iload_n 1, 1) := by decide +kernel
theorem dX11_takes_2 : decode cX11_takes 2 = .ok (.invokevirtual 145, 3) := by decide +kernel
theorem dX11_takes_5 : decode cX11_takes 5 = .ok (.ifCond .eq 10, 3) := by decide +kernel
theorem dX11_takes_8 : decode cX11_takes 8 = .ok (.iload_n 2, 1) := by decide +kernel
theorem dX11_takes_9 : decode cX11_takes 9 = .ok (.invokestatic 158, 3) := by decide +kernel
theorem dX11_takes_12 : decode cX11_takes 12 = .ok (.ifCond .ne 6, 3) := by decide +kernel
theorem dX11_takes_15 : decode cX11_takes 15 = .ok (.bipush (-2), 2) := by decide +kernel
theorem dX11_takes_17 : decode cX11_takes 17 = .ok (.ireturn, 1) := by decide +kernel
theorem dX11_takes_18 : decode cX11_takes 18 = .ok (.aload_n 0, 1) := by decide +kernel
theorem dX11_takes_19 : decode cX11_takes 19 = .ok (.getfield 78, 3) := by decide +kernel
theorem dX11_takes_22 : decode cX11_takes 22 = .ok (.iload_n 1, 1) := by decide +kernel
theorem dX11_takes_23 : decode cX11_takes 23 = .ok (.iload_n 2, 1) := by decide +kernel
theorem dX11_takes_24 : decode cX11_takes 24 = .ok (.invokevirtual 332, 3) := by decide +kernel
theorem dX11_takes_27 : decode cX11_takes 27 = .ok (.pop, 1) := by decide +kernel
theorem dX11_takes_28 : decode cX11_takes 28 = .ok (.aload_n 0, 1) := by decide +kernel
theorem dX11_takes_29 : decode cX11_takes 29 = .ok (.getfield 78, 3) := by decide +kernel
theorem dX11_takes_32 : decode cX11_takes 32 = .ok (.invokevirtual 335, 3) := by decide +kernel
theorem dX11_takes_35 : decode cX11_takes 35 = .ok (.ireturn, 1) := by decide +kernel
theorem dX11_worded_0 : decode cX11_worded 0 = .ok (.aload_n 0, 1) := by decide +kernel
theorem dX11_worded_1 : decode cX11_worded 1 = .ok (.iload_n 1, 1) := by decide +kernel
theorem dX11_worded_2 : decode cX11_worded 2 = .ok (.iload_n 2, 1) := by decide +kernel
theorem dX11_worded_3 : decode cX11_worded 3 = .ok (.iload_n 3, 1) := by decide +kernel
theorem dX11_worded_4 : decode cX11_worded 4 = .ok (.iload 4, 2) := by decide +kernel
theorem dX11_worded_6 : decode cX11_worded 6 = .ok (.invokevirtual 316, 3) := by decide +kernel
theorem dX11_worded_9 : decode cX11_worded 9 = .ok (.ifCond .eq 8, 3) := by decide +kernel
theorem dX11_worded_12 : decode cX11_worded 12 = .ok (.iload 5, 2) := by decide +kernel
theorem dX11_worded_14 : decode cX11_worded 14 = .ok (.ifCond .ge 6, 3) := by decide +kernel
theorem dX11_worded_17 : decode cX11_worded 17 = .ok (.bipush (-2), 2) := by decide +kernel
theorem dX11_worded_19 : decode cX11_worded 19 = .ok (.ireturn, 1) := by decide +kernel
theorem dX11_worded_20 : decode cX11_worded 20 = .ok (.aload_n 0, 1) := by decide +kernel
theorem dX11_worded_21 : decode cX11_worded 21 = .ok (.getfield 71, 3) := by decide +kernel
theorem dX11_worded_24 : decode cX11_worded 24 = .ok (.iload_n 1, 1) := by decide +kernel
theorem dX11_worded_25 : decode cX11_worded 25 = .ok (.iload_n 2, 1) := by decide +kernel
theorem dX11_worded_26 : decode cX11_worded 26 = .ok (.iload_n 3, 1) := by decide +kernel
theorem dX11_worded_27 : decode cX11_worded 27 = .ok (.iload 4, 2) := by decide +kernel
theorem dX11_worded_29 : decode cX11_worded 29 = .ok (.invokevirtual 320, 3) := by decide +kernel
theorem dX11_worded_32 : decode cX11_worded 32 = .ok (.aload_n 0, 1) := by decide +kernel
theorem dX11_worded_33 : decode cX11_worded 33 = .ok (.getfield 71, 3) := by decide +kernel
theorem dX11_worded_36 : decode cX11_worded 36 = .ok (.getfield 324, 3) := by decide +kernel
theorem dX11_worded_39 : decode cX11_worded 39 = .ok (.ifCond .eq 15, 3) := by decide +kernel
theorem dX11_worded_42 : decode cX11_worded 42 = .ok (.iload 5, 2) := by decide +kernel
theorem dX11_worded_44 : decode cX11_worded 44 = .ok (.aload_n 0, 1) := by decide +kernel
theorem dX11_worded_45 : decode cX11_worded 45 = .ok (.getfield 71, 3) := by decide +kernel
theorem dX11_worded_48 : decode cX11_worded 48 = .ok (.getfield 327, 3) := by decide +kernel
theorem dX11_worded_51 : decode cX11_worded 51 = .ok (.if_icmp .lt 5, 3) := by decide +kernel
theorem dX11_worded_54 : decode cX11_worded 54 = .ok (.iconst (-1), 1) := by decide +kernel
theorem dX11_worded_55 : decode cX11_worded 55 = .ok (.ireturn, 1) := by decide +kernel
theorem dX11_worded_56 : decode cX11_worded 56 = .ok (.aload_n 0, 1) := by decide +kernel
theorem dX11_worded_57 : decode cX11_worded 57 = .ok (.getfield 71, 3) := by decide +kernel
theorem dX11_worded_60 : decode cX11_worded 60 = .ok (.getfield 328, 3) := by decide +kernel
theorem dX11_worded_63 : decode cX11_worded 63 = .ok (.iload 5, 2) := by decide +kernel
theorem dX11_worded_65 : decode cX11_worded 65 = .ok (.iaload, 1) := by decide +kernel
theorem dX11_worded_66 : decode cX11_worded 66 = .ok (.ireturn, 1) := by decide +kernel
theorem dX11_wording_0 : decode cX11_wording 0 = .ok (.aload_n 0, 1) := by decide +kernel
theorem dX11_wording_1 : decode cX11_wording 1 = .ok (.iload_n 1, 1) := by decide +kernel
theorem dX11_wording_2 : decode cX11_wording 2 = .ok (.iload_n 2, 1) := by decide +kernel
theorem dX11_wording_3 : decode cX11_wording 3 = .ok (.iload_n 3, 1) := by decide +kernel
theorem dX11_wording_4 : decode cX11_wording 4 = .ok (.iload 4, 2) := by decide +kernel
theorem dX11_wording_6 : decode cX11_wording 6 = .ok (.invokevirtual 316, 3) := by decide +kernel
theorem dX11_wording_9 : decode cX11_wording 9 = .ok (.ifCond .ne 6, 3) := by decide +kernel
theorem dX11_wording_12 : decode cX11_wording 12 = .ok (.bipush (-2), 2) := by decide +kernel
theorem dX11_wording_14 : decode cX11_wording 14 = .ok (.ireturn, 1) := by decide +kernel
theorem dX11_wording_15 : decode cX11_wording 15 = .ok (.aload_n 0, 1) := by decide +kernel
theorem dX11_wording_16 : decode cX11_wording 16 = .ok (.getfield 71, 3) := by decide +kernel
theorem dX11_wording_19 : decode cX11_wording 19 = .ok (.iload_n 1, 1) := by decide +kernel
theorem dX11_wording_20 : decode cX11_wording 20 = .ok (.iload_n 2, 1) := by decide +kernel
theorem dX11_wording_21 : decode cX11_wording 21 = .ok (.iload_n 3, 1) := by decide +kernel
theorem dX11_wording_22 : decode cX11_wording 22 = .ok (.iload 4, 2) := by decide +kernel
theorem dX11_wording_24 : decode cX11_wording 24 = .ok (.invokevirtual 320, 3) := by decide +kernel
theorem dX11_wording_27 : decode cX11_wording 27 = .ok (.aload_n 0, 1) := by decide +kernel
theorem dX11_wording_28 : decode cX11_wording 28 = .ok (.getfield 71, 3) := by decide +kernel
theorem dX11_wording_31 : decode cX11_wording 31 = .ok (.getfield 324, 3) := by decide +kernel
theorem dX11_wording_34 : decode cX11_wording 34 = .ok (.ifCond .ne 7, 3) := by decide +kernel
theorem dX11_wording_37 : decode cX11_wording 37 = .ok (.iconst (-1), 1) := by decide +kernel
theorem dX11_wording_38 : decode cX11_wording 38 = .ok (.goto 10, 3) := by decide +kernel
theorem dX11_wording_41 : decode cX11_wording 41 = .ok (.aload_n 0, 1) := by decide +kernel
theorem dX11_wording_42 : decode cX11_wording 42 = .ok (.getfield 71, 3) := by decide +kernel
theorem dX11_wording_45 : decode cX11_wording 45 = .ok (.getfield 327, 3) := by decide +kernel
theorem dX11_wording_48 : decode cX11_wording 48 = .ok (.ireturn, 1) := by decide +kernel
theorem dX11_wordings_0 : decode cX11_wordings 0 = .ok (.aload_n 0, 1) := by decide +kernel
theorem dX11_wordings_1 : decode cX11_wordings 1 = .ok (.iload_n 1, 1) := by decide +kernel
theorem dX11_wordings_2 : decode cX11_wordings 2 = .ok (.iload_n 2, 1) := by decide +kernel
theorem dX11_wordings_3 : decode cX11_wordings 3 = .ok (.iload_n 3, 1) := by decide +kernel
theorem dX11_wordings_4 : decode cX11_wordings 4 = .ok (.iload 4, 2) := by decide +kernel
theorem dX11_wordings_6 : decode cX11_wordings 6 = .ok (.invokevirtual 316, 3) := by decide +kernel
theorem dX11_wordings_9 : decode cX11_wordings 9 = .ok (.ifCond .ne 6, 3) := by decide +kernel
theorem dX11_wordings_12 : decode cX11_wordings 12 = .ok (.bipush (-2), 2) := by decide +kernel
theorem dX11_wordings_14 : decode cX11_wordings 14 = .ok (.ireturn, 1) := by decide +kernel
theorem dX11_wordings_15 : decode cX11_wordings 15 = .ok (.aload_n 0, 1) := by decide +kernel
theorem dX11_wordings_16 : decode cX11_wordings 16 = .ok (.getfield 71, 3) := by decide +kernel
theorem dX11_wordings_19 : decode cX11_wordings 19 = .ok (.iload_n 1, 1) := by decide +kernel
theorem dX11_wordings_20 : decode cX11_wordings 20 = .ok (.iload_n 2, 1) := by decide +kernel
theorem dX11_wordings_21 : decode cX11_wordings 21 = .ok (.iload_n 3, 1) := by decide +kernel
theorem dX11_wordings_22 : decode cX11_wordings 22 = .ok (.iload 4, 2) := by decide +kernel
theorem dX11_wordings_24 : decode cX11_wordings 24 = .ok (.invokevirtual 320, 3) := by decide +kernel
theorem dX11_wordings_27 : decode cX11_wordings 27 = .ok (.aload_n 0, 1) := by decide +kernel
theorem dX11_wordings_28 : decode cX11_wordings 28 = .ok (.getfield 71, 3) := by decide +kernel
theorem dX11_wordings_31 : decode cX11_wordings 31 = .ok (.getfield 324, 3) := by decide +kernel
theorem dX11_wordings_34 : decode cX11_wordings 34 = .ok (.ireturn, 1) := by decide +kernel
theorem dX2_bestMove_0 : decode cX2_bestMove 0 = .ok (.iconst (-1), 1) := by decide +kernel
theorem dX2_bestMove_1 : decode cX2_bestMove 1 = .ok (.istore_n 2, 1) := by decide +kernel
theorem dX2_bestMove_2 : decode cX2_bestMove 2 = .ok (.iconst 0, 1) := by decide +kernel
theorem dX2_bestMove_3 : decode cX2_bestMove 3 = .ok (.istore_n 3, 1) := by decide +kernel
theorem dX2_bestMove_4 : decode cX2_bestMove 4 = .ok (.iload_n 3, 1) := by decide +kernel
theorem dX2_bestMove_5 : decode cX2_bestMove 5 = .ok (.aload_n 0, 1) := by decide +kernel
theorem dX2_bestMove_6 : decode cX2_bestMove 6 = .ok (.getfield 18, 3) := by decide +kernel
theorem dX2_bestMove_9 : decode cX2_bestMove 9 = .ok (.getfield 22, 3) := by decide +kernel
theorem dX2_bestMove_12 : decode cX2_bestMove 12 = .ok (.getfield 28, 3) := by decide +kernel
theorem dX2_bestMove_15 : decode cX2_bestMove 15 = .ok (.if_icmp .ge 51, 3) := by decide +kernel
theorem dX2_bestMove_18 : decode cX2_bestMove 18 = .ok (.iload_n 1, 1) := by decide +kernel
theorem dX2_bestMove_19 : decode cX2_bestMove 19 = .ok (.iload_n 3, 1) := by decide +kernel
theorem dX2_bestMove_20 : decode cX2_bestMove 20 = .ok (.ishr, 1) := by decide +kernel
theorem dX2_bestMove_21 : decode cX2_bestMove 21 = .ok (.iconst 1, 1) := by decide +kernel
theorem dX2_bestMove_22 : decode cX2_bestMove 22 = .ok (.iand, 1) := by decide +kernel
theorem dX2_bestMove_23 : decode cX2_bestMove 23 = .ok (.ifCond .ne 7, 3) := by decide +kernel
theorem dX2_bestMove_26 : decode cX2_bestMove 26 = .ok (.iconst 1, 1) := by decide +kernel
theorem dX2_bestMove_27 : decode cX2_bestMove 27 = .ok (.goto 4, 3) := by decide +kernel
theorem dX2_bestMove_30 : decode cX2_bestMove 30 = .ok (.iconst 0, 1) := by decide +kernel
theorem dX2_bestMove_31 : decode cX2_bestMove 31 = .ok (.istore 4, 2) := by decide +kernel
theorem dX2_bestMove_33 : decode cX2_bestMove 33 = .ok (.iload 4, 2) := by decide +kernel
theorem dX2_bestMove_35 : decode cX2_bestMove 35 = .ok (.ifCond .eq 25, 3) := by decide +kernel
theorem dX2_bestMove_38 : decode cX2_bestMove 38 = .ok (.iload_n 2, 1) := by decide +kernel
theorem dX2_bestMove_39 : decode cX2_bestMove 39 = .ok (.iconst (-1), 1) := by decide +kernel
theorem dX2_bestMove_40 : decode cX2_bestMove 40 = .ok (.if_icmp .eq 18, 3) := by decide +kernel
theorem dX2_bestMove_43 : decode cX2_bestMove 43 = .ok (.aload_n 0, 1) := by decide +kernel
theorem dX2_bestMove_44 : decode cX2_bestMove 44 = .ok (.iload_n 1, 1) := by decide +kernel
theorem dX2_bestMove_45 : decode cX2_bestMove 45 = .ok (.iload_n 3, 1) := by decide +kernel
theorem dX2_bestMove_46 : decode cX2_bestMove 46 = .ok (.invokevirtual 42, 3) := by decide +kernel
theorem dX2_bestMove_49 : decode cX2_bestMove 49 = .ok (.aload_n 0, 1) := by decide +kernel
theorem dX2_bestMove_50 : decode cX2_bestMove 50 = .ok (.iload_n 1, 1) := by decide +kernel
theorem dX2_bestMove_51 : decode cX2_bestMove 51 = .ok (.iload_n 2, 1) := by decide +kernel
theorem dX2_bestMove_52 : decode cX2_bestMove 52 = .ok (.invokevirtual 42, 3) := by decide +kernel
theorem dX2_bestMove_55 : decode cX2_bestMove 55 = .ok (.if_icmp .le 5, 3) := by decide +kernel
theorem dX2_bestMove_58 : decode cX2_bestMove 58 = .ok (.iload_n 3, 1) := by decide +kernel
theorem dX2_bestMove_59 : decode cX2_bestMove 59 = .ok (.istore_n 2, 1) := by decide +kernel
theorem dX2_bestMove_60 : decode cX2_bestMove 60 = .ok (.iinc 3 1, 3) := by decide +kernel
theorem dX2_bestMove_63 : decode cX2_bestMove 63 = .ok (.goto (-59), 3) := by decide +kernel
theorem dX2_bestMove_66 : decode cX2_bestMove 66 = .ok (.iload_n 2, 1) := by decide +kernel
theorem dX2_bestMove_67 : decode cX2_bestMove 67 = .ok (.ireturn, 1) := by decide +kernel
theorem dX2_opening_0 : decode cX2_opening 0 = .ok (.aload_n 0, 1) := by decide +kernel
theorem dX2_opening_1 : decode cX2_opening 1 = .ok (.iconst 0, 1) := by decide +kernel
theorem dX2_opening_2 : decode cX2_opening 2 = .ok (.invokevirtual 38, 3) := by decide +kernel
theorem dX2_opening_5 : decode cX2_opening 5 = .ok (.ireturn, 1) := by decide +kernel
theorem dX2_play_0 : decode cX2_play 0 = .ok (.aload_n 0, 1) := by decide +kernel
theorem dX2_play_1 : decode cX2_play 1 = .ok (.getfield 18, 3) := by decide +kernel
theorem dX2_play_4 : decode cX2_play 4 = .ok (.getfield 22, 3) := by decide +kernel
theorem dX2_play_7 : decode cX2_play 7 = .ok (.getfield 28, 3) := by decide +kernel
theorem dX2_play_10 : decode cX2_play 10 = .ok (.istore_n 3, 1) := by decide +kernel
theorem dX2_play_11 : decode cX2_play 11 = .ok (.iconst 0, 1) := by decide +kernel
theorem dX2_play_12 : decode cX2_play 12 = .ok (.istore 4, 2) := by decide +kernel
theorem dX2_play_14 : decode cX2_play 14 = .ok (.iload 4, 2) := by decide +kernel
theorem dX2_play_16 : decode cX2_play 16 = .ok (.iload_n 3, 1) := by decide +kernel
theorem dX2_play_17 : decode cX2_play 17 = .ok (.if_icmp .ge 51, 3) := by decide +kernel
theorem dX2_play_20 : decode cX2_play 20 = .ok (.iconst 0, 1) := by decide +kernel
theorem dX2_play_21 : decode cX2_play 21 = .ok (.istore 5, 2) := by decide +kernel
theorem dX2_play_23 : decode cX2_play 23 = .ok (.iload 5, 2) := by decide +kernel
theorem dX2_play_25 : decode cX2_play 25 = .ok (.iload_n 3, 1) := by decide +kernel
theorem dX2_play_26 : decode cX2_play 26 = .ok (.if_icmp .ge 36, 3) := by decide +kernel
theorem dX2_play_29 : decode cX2_play 29 = .ok (.aload_n 0, 1) := by decide +kernel
theorem dX2_play_30 : decode cX2_play 30 = .ok (.getfield 9, 3) := by decide +kernel
theorem dX2_play_33 : decode cX2_play 33 = .ok (.iload 4, 2) := by decide +kernel
theorem dX2_play_35 : decode cX2_play 35 = .ok (.bipush 6, 2) := by decide +kernel
theorem dX2_play_37 : decode cX2_play 37 = .ok (.imul, 1) := by decide +kernel
theorem dX2_play_38 : decode cX2_play 38 = .ok (.iload 5, 2) := by decide +kernel
theorem dX2_play_40 : decode cX2_play 40 = .ok (.iadd, 1) := by decide +kernel
theorem dX2_play_41 : decode cX2_play 41 = .ok (.aload_n 0, 1) := by decide +kernel
theorem dX2_play_42 : decode cX2_play 42 = .ok (.getfield 18, 3) := by decide +kernel
theorem dX2_play_45 : decode cX2_play 45 = .ok (.iload_n 1, 1) := by decide +kernel
theorem dX2_play_46 : decode cX2_play 46 = .ok (.iload_n 2, 1) := by decide +kernel
theorem dX2_play_47 : decode cX2_play 47 = .ok (.iload 4, 2) := by decide +kernel
theorem dX2_play_49 : decode cX2_play 49 = .ok (.iadd, 1) := by decide +kernel
theorem dX2_play_50 : decode cX2_play 50 = .ok (.iload 5, 2) := by decide +kernel
theorem dX2_play_52 : decode cX2_play 52 = .ok (.invokevirtual 34, 3) := by decide +kernel
theorem dX2_play_55 : decode cX2_play 55 = .ok (.iastore, 1) := by decide +kernel
theorem dX2_play_56 : decode cX2_play 56 = .ok (.iinc 5 1, 3) := by decide +kernel
theorem dX2_play_59 : decode cX2_play 59 = .ok (.goto (-36), 3) := by decide +kernel
theorem dX2_play_62 : decode cX2_play 62 = .ok (.iinc 4 1, 3) := by decide +kernel
theorem dX2_play_65 : decode cX2_play 65 = .ok (.goto (-51), 3) := by decide +kernel
theorem dX2_play_68 : decode cX2_play 68 = .ok (.iconst 1, 1) := by decide +kernel
theorem dX2_play_69 : decode cX2_play 69 = .ok (.iload_n 3, 1) := by decide +kernel
theorem dX2_play_70 : decode cX2_play 70 = .ok (.ishl, 1) := by decide +kernel
theorem dX2_play_71 : decode cX2_play 71 = .ok (.iconst 1, 1) := by decide +kernel
theorem dX2_play_72 : decode cX2_play 72 = .ok (.isub, 1) := by decide +kernel
theorem dX2_play_73 : decode cX2_play 73 = .ok (.istore 4, 2) := by decide +kernel
theorem dX2_play_75 : decode cX2_play 75 = .ok (.aload_n 0, 1) := by decide +kernel
theorem dX2_play_76 : decode cX2_play 76 = .ok (.getfield 15, 3) := by decide +kernel
theorem dX2_play_79 : decode cX2_play 79 = .ok (.iload 4, 2) := by decide +kernel
theorem dX2_play_81 : decode cX2_play 81 = .ok (.iconst 0, 1) := by decide +kernel
theorem dX2_play_82 : decode cX2_play 82 = .ok (.iastore, 1) := by decide +kernel
theorem dX2_play_83 : decode cX2_play 83 = .ok (.iload 4, 2) := by decide +kernel
theorem dX2_play_85 : decode cX2_play 85 = .ok (.iconst 1, 1) := by decide +kernel
theorem dX2_play_86 : decode cX2_play 86 = .ok (.isub, 1) := by decide +kernel
theorem dX2_play_87 : decode cX2_play 87 = .ok (.istore 5, 2) := by decide +kernel
theorem dX2_play_89 : decode cX2_play 89 = .ok (.iload 5, 2) := by decide +kernel
theorem dX2_play_91 : decode cX2_play 91 = .ok (.ifCond .lt 28, 3) := by decide +kernel
theorem dX2_play_94 : decode cX2_play 94 = .ok (.aload_n 0, 1) := by decide +kernel
theorem dX2_play_95 : decode cX2_play 95 = .ok (.getfield 15, 3) := by decide +kernel
theorem dX2_play_98 : decode cX2_play 98 = .ok (.iload 5, 2) := by decide +kernel
theorem dX2_play_100 : decode cX2_play 100 = .ok (.aload_n 0, 1) := by decide +kernel
theorem dX2_play_101 : decode cX2_play 101 = .ok (.iload 5, 2) := by decide +kernel
theorem dX2_play_103 : decode cX2_play 103 = .ok (.aload_n 0, 1) := by decide +kernel
theorem dX2_play_104 : decode cX2_play 104 = .ok (.iload 5, 2) := by decide +kernel
theorem dX2_play_106 : decode cX2_play 106 = .ok (.invokevirtual 38, 3) := by decide +kernel
theorem dX2_play_109 : decode cX2_play 109 = .ok (.invokevirtual 42, 3) := by decide +kernel
theorem dX2_play_112 : decode cX2_play 112 = .ok (.iastore, 1) := by decide +kernel
theorem dX2_play_113 : decode cX2_play 113 = .ok (.iinc 5 (-1), 3) := by decide +kernel
theorem dX2_play_116 : decode cX2_play 116 = .ok (.goto (-27), 3) := by decide +kernel
theorem dX2_play_119 : decode cX2_play 119 = .ok (.aload_n 0, 1) := by decide +kernel
theorem dX2_play_120 : decode cX2_play 120 = .ok (.getfield 15, 3) := by decide +kernel
theorem dX2_play_123 : decode cX2_play 123 = .ok (.iconst 0, 1) := by decide +kernel
theorem dX2_play_124 : decode cX2_play 124 = .ok (.iaload, 1) := by decide +kernel
theorem dX2_play_125 : decode cX2_play 125 = .ok (.ireturn, 1) := by decide +kernel
theorem dX2_playGreedily_0 : decode cX2_playGreedily 0 = .ok (.iconst 0, 1) := by decide +kernel
theorem dX2_playGreedily_1 : decode cX2_playGreedily 1 = .ok (.istore_n 3, 1) := by decide +kernel
theorem dX2_playGreedily_2 : decode cX2_playGreedily 2 = .ok (.iconst 1, 1) := by decide +kernel
theorem dX2_playGreedily_3 : decode cX2_playGreedily 3 = .ok (.istore 4, 2) := by decide +kernel
theorem dX2_playGreedily_5 : decode cX2_playGreedily 5 = .ok (.iconst 0, 1) := by decide +kernel
theorem dX2_playGreedily_6 : decode cX2_playGreedily 6 = .ok (.istore 5, 2) := by decide +kernel
theorem dX2_playGreedily_8 : decode cX2_playGreedily 8 = .ok (.iconst 0, 1) := by decide +kernel
theorem dX2_playGreedily_9 : decode cX2_playGreedily 9 = .ok (.istore 6, 2) := by decide +kernel
theorem dX2_playGreedily_11 : decode cX2_playGreedily 11 = .ok (.iload 6, 2) := by decide +kernel
theorem dX2_playGreedily_13 : decode cX2_playGreedily 13 = .ok (.aload_n 0, 1) := by decide +kernel
theorem dX2_playGreedily_14 : decode cX2_playGreedily 14 = .ok (.getfield 18, 3) := by decide +kernel
theorem dX2_playGreedily_17 : decode cX2_playGreedily 17 = .ok (.getfield 22, 3) := by decide +kernel
theorem dX2_playGreedily_20 : decode cX2_playGreedily 20 = .ok (.getfield 28, 3) := by decide +kernel
theorem dX2_playGreedily_23 : decode cX2_playGreedily 23 = .ok (.if_icmp .ge 65, 3) := by decide +kernel
theorem dX2_playGreedily_26 : decode cX2_playGreedily 26 = .ok (.aload_n 0, 1) := by decide +kernel
theorem dX2_playGreedily_27 : decode cX2_playGreedily 27 = .ok (.getfield 18, 3) := by decide +kernel
theorem dX2_playGreedily_30 : decode cX2_playGreedily 30 = .ok (.iload_n 1, 1) := by decide +kernel
theorem dX2_playGreedily_31 : decode cX2_playGreedily 31 = .ok (.iload_n 2, 1) := by decide +kernel
theorem dX2_playGreedily_32 : decode cX2_playGreedily 32 = .ok (.iload 6, 2) := by decide +kernel
theorem dX2_playGreedily_34 : decode cX2_playGreedily 34 = .ok (.iadd, 1) := by decide +kernel
theorem dX2_playGreedily_35 : decode cX2_playGreedily 35 = .ok (.iload 5, 2) := by decide +kernel
theorem dX2_playGreedily_37 : decode cX2_playGreedily 37 = .ok (.invokevirtual 51, 3) := by decide +kernel
theorem dX2_playGreedily_40 : decode cX2_playGreedily 40 = .ok (.istore 7, 2) := by decide +kernel
theorem dX2_playGreedily_42 : decode cX2_playGreedily 42 = .ok (.iload 7, 2) := by decide +kernel
theorem dX2_playGreedily_44 : decode cX2_playGreedily 44 = .ok (.iconst (-1), 1) := by decide +kernel
theorem dX2_playGreedily_45 : decode cX2_playGreedily 45 = .ok (.if_icmp .eq 32, 3) := by decide +kernel
theorem dX2_playGreedily_48 : decode cX2_playGreedily 48 = .ok (.iload_n 3, 1) := by decide +kernel
theorem dX2_playGreedily_49 : decode cX2_playGreedily 49 = .ok (.iload 4, 2) := by decide +kernel
theorem dX2_playGreedily_51 : decode cX2_playGreedily 51 = .ok (.aload_n 0, 1) := by decide +kernel
theorem dX2_playGreedily_52 : decode cX2_playGreedily 52 = .ok (.getfield 18, 3) := by decide +kernel
theorem dX2_playGreedily_55 : decode cX2_playGreedily 55 = .ok (.iload_n 1, 1) := by decide +kernel
theorem dX2_playGreedily_56 : decode cX2_playGreedily 56 = .ok (.iload_n 2, 1) := by decide +kernel
theorem dX2_playGreedily_57 : decode cX2_playGreedily 57 = .ok (.iload 6, 2) := by decide +kernel
theorem dX2_playGreedily_59 : decode cX2_playGreedily 59 = .ok (.iadd, 1) := by decide +kernel
theorem dX2_playGreedily_60 : decode cX2_playGreedily 60 = .ok (.iload 7, 2) := by decide +kernel
theorem dX2_playGreedily_62 : decode cX2_playGreedily 62 = .ok (.invokevirtual 34, 3) := by decide +kernel
theorem dX2_playGreedily_65 : decode cX2_playGreedily 65 = .ok (.imul, 1) := by decide +kernel
theorem dX2_playGreedily_66 : decode cX2_playGreedily 66 = .ok (.iadd, 1) := by decide +kernel
theorem dX2_playGreedily_67 : decode cX2_playGreedily 67 = .ok (.istore_n 3, 1) := by decide +kernel
theorem dX2_playGreedily_68 : decode cX2_playGreedily 68 = .ok (.iload 5, 2) := by decide +kernel
theorem dX2_playGreedily_70 : decode cX2_playGreedily 70 = .ok (.iconst 1, 1) := by decide +kernel
theorem dX2_playGreedily_71 : decode cX2_playGreedily 71 = .ok (.iload 7, 2) := by decide +kernel
theorem dX2_playGreedily_73 : decode cX2_playGreedily 73 = .ok (.ishl, 1) := by decide +kernel
theorem dX2_playGreedily_74 : decode cX2_playGreedily 74 = .ok (.ior, 1) := by decide +kernel
theorem dX2_playGreedily_75 : decode cX2_playGreedily 75 = .ok (.istore 5, 2) := by decide +kernel
theorem dX2_playGreedily_77 : decode cX2_playGreedily 77 = .ok (.iload 4, 2) := by decide +kernel
theorem dX2_playGreedily_79 : decode cX2_playGreedily 79 = .ok (.ineg, 1) := by decide +kernel
theorem dX2_playGreedily_80 : decode cX2_playGreedily 80 = .ok (.istore 4, 2) := by decide +kernel
theorem dX2_playGreedily_82 : decode cX2_playGreedily 82 = .ok (.iinc 6 1, 3) := by decide +kernel
theorem dX2_playGreedily_85 : decode cX2_playGreedily 85 = .ok (.goto (-74), 3) := by decide +kernel
theorem dX2_playGreedily_88 : decode cX2_playGreedily 88 = .ok (.iload_n 3, 1) := by decide +kernel
theorem dX2_playGreedily_89 : decode cX2_playGreedily 89 = .ok (.ireturn, 1) := by decide +kernel
theorem dX2_worthOf_0 : decode cX2_worthOf 0 = .ok (.iload_n 2, 1) := by decide +kernel
theorem dX2_worthOf_1 : decode cX2_worthOf 1 = .ok (.ifCond .ge 5, 3) := by decide +kernel
theorem dX2_worthOf_4 : decode cX2_worthOf 4 = .ok (.iconst 0, 1) := by decide +kernel
theorem dX2_worthOf_5 : decode cX2_worthOf 5 = .ok (.ireturn, 1) := by decide +kernel
theorem dX2_worthOf_6 : decode cX2_worthOf 6 = .ok (.iload_n 1, 1) := by decide +kernel
theorem dX2_worthOf_7 : decode cX2_worthOf 7 = .ok (.invokestatic 46, 3) := by decide +kernel
theorem dX2_worthOf_10 : decode cX2_worthOf 10 = .ok (.istore_n 3, 1) := by decide +kernel
theorem dX2_worthOf_11 : decode cX2_worthOf 11 = .ok (.aload_n 0, 1) := by decide +kernel
theorem dX2_worthOf_12 : decode cX2_worthOf 12 = .ok (.getfield 9, 3) := by decide +kernel
theorem dX2_worthOf_15 : decode cX2_worthOf 15 = .ok (.iload_n 3, 1) := by decide +kernel
theorem dX2_worthOf_16 : decode cX2_worthOf 16 = .ok (.bipush 6, 2) := by decide +kernel
theorem dX2_worthOf_18 : decode cX2_worthOf 18 = .ok (.imul, 1) := by decide +kernel
theorem dX2_worthOf_19 : decode cX2_worthOf 19 = .ok (.iload_n 2, 1) := by decide +kernel
theorem dX2_worthOf_20 : decode cX2_worthOf 20 = .ok (.iadd, 1) := by decide +kernel
theorem dX2_worthOf_21 : decode cX2_worthOf 21 = .ok (.iaload, 1) := by decide +kernel
theorem dX2_worthOf_22 : decode cX2_worthOf 22 = .ok (.aload_n 0, 1) := by decide +kernel
theorem dX2_worthOf_23 : decode cX2_worthOf 23 = .ok (.getfield 15, 3) := by decide +kernel
theorem dX2_worthOf_26 : decode cX2_worthOf 26 = .ok (.iload_n 1, 1) := by decide +kernel
theorem dX2_worthOf_27 : decode cX2_worthOf 27 = .ok (.iconst 1, 1) := by decide +kernel
theorem dX2_worthOf_28 : decode cX2_worthOf 28 = .ok (.iload_n 2, 1) := by decide +kernel
theorem dX2_worthOf_29 : decode cX2_worthOf 29 = .ok (.ishl, 1) := by decide +kernel
theorem dX2_worthOf_30 : decode cX2_worthOf 30 = .ok (.ior, 1) := by decide +kernel
theorem dX2_worthOf_31 : decode cX2_worthOf 31 = .ok (.iaload, 1) := by decide +kernel
theorem dX2_worthOf_32 : decode cX2_worthOf 32 = .ok (.isub, 1) := by decide +kernel
theorem dX2_worthOf_33 : decode cX2_worthOf 33 = .ok (.ireturn, 1) := by decide +kernel
theorem dX4_keep_0 : decode cX4_keep 0 = .ok (.aload_n 0, 1) := by decide +kernel
theorem dX4_keep_1 : decode cX4_keep 1 = .ok (.getfield 41, 3) := by decide +kernel
theorem dX4_keep_4 : decode cX4_keep 4 = .ok (.ifCond .ne 29, 3) := by decide +kernel
theorem dX4_keep_7 : decode cX4_keep 7 = .ok (.aload_n 0, 1) := by decide +kernel
theorem dX4_keep_8 : decode cX4_keep 8 = .ok (.getfield 18, 3) := by decide +kernel
theorem dX4_keep_11 : decode cX4_keep 11 = .ok (.iconst 0, 1) := by decide +kernel
theorem dX4_keep_12 : decode cX4_keep 12 = .ok (.aload_n 0, 1) := by decide +kernel
theorem dX4_keep_13 : decode cX4_keep 13 = .ok (.getfield 21, 3) := by decide +kernel
theorem dX4_keep_16 : decode cX4_keep 16 = .ok (.iconst 0, 1) := by decide +kernel
theorem dX4_keep_17 : decode cX4_keep 17 = .ok (.iconst 4, 1) := by decide +kernel
theorem dX4_keep_18 : decode cX4_keep 18 = .ok (.invokestatic 92, 3) := by decide +kernel
theorem dX4_keep_21 : decode cX4_keep 21 = .ok (.aload_n 0, 1) := by decide +kernel
theorem dX4_keep_22 : decode cX4_keep 22 = .ok (.getfield 21, 3) := by decide +kernel
theorem dX4_keep_25 : decode cX4_keep 25 = .ok (.aload_n 0, 1) := by decide +kernel
theorem dX4_keep_26 : decode cX4_keep 26 = .ok (.getfield 44, 3) := by decide +kernel
theorem dX4_keep_29 : decode cX4_keep 29 = .ok (.iconst 1, 1) := by decide +kernel
theorem dX4_keep_30 : decode cX4_keep 30 = .ok (.isub, 1) := by decide +kernel
theorem dX4_keep_31 : decode cX4_keep 31 = .ok (.iload_n 1, 1) := by decide +kernel
theorem dX4_keep_32 : decode cX4_keep 32 = .ok (.iastore, 1) := by decide +kernel
theorem dX4_keep_33 : decode cX4_keep 33 = .ok (.aload_n 0, 1) := by decide +kernel
theorem dX4_keep_34 : decode cX4_keep 34 = .ok (.dup, 1) := by decide +kernel
theorem dX4_keep_35 : decode cX4_keep 35 = .ok (.getfield 41, 3) := by decide +kernel
theorem dX4_keep_38 : decode cX4_keep 38 = .ok (.iconst 1, 1) := by decide +kernel
theorem dX4_keep_39 : decode cX4_keep 39 = .ok (.iadd, 1) := by decide +kernel
theorem dX4_keep_40 : decode cX4_keep 40 = .ok (.putfield 41, 3) := by decide +kernel
theorem dX4_keep_43 : decode cX4_keep 43 = .ok (.return_, 1) := by decide +kernel
theorem dX4_seek_0 : decode cX4_seek 0 = .ok (.aload_n 0, 1) := by decide +kernel
theorem dX4_seek_1 : decode cX4_seek 1 = .ok (.iload_n 3, 1) := by decide +kernel
theorem dX4_seek_2 : decode cX4_seek 2 = .ok (.bipush 7, 2) := by decide +kernel
theorem dX4_seek_4 : decode cX4_seek 4 = .ok (.invokestatic 28, 3) := by decide +kernel
theorem dX4_seek_7 : decode cX4_seek 7 = .ok (.putfield 34, 3) := by decide +kernel
theorem dX4_seek_10 : decode cX4_seek 10 = .ok (.aload_n 0, 1) := by decide +kernel
theorem dX4_seek_11 : decode cX4_seek 11 = .ok (.iload 4, 2) := by decide +kernel
theorem dX4_seek_13 : decode cX4_seek 13 = .ok (.putfield 38, 3) := by decide +kernel
theorem dX4_seek_16 : decode cX4_seek 16 = .ok (.aload_n 0, 1) := by decide +kernel
theorem dX4_seek_17 : decode cX4_seek 17 = .ok (.iconst 0, 1) := by decide +kernel
theorem dX4_seek_18 : decode cX4_seek 18 = .ok (.putfield 41, 3) := by decide +kernel
theorem dX4_seek_21 : decode cX4_seek 21 = .ok (.aload_n 0, 1) := by decide +kernel
theorem dX4_seek_22 : decode cX4_seek 22 = .ok (.iconst 0, 1) := by decide +kernel
theorem dX4_seek_23 : decode cX4_seek 23 = .ok (.putfield 44, 3) := by decide +kernel
theorem dX4_seek_26 : decode cX4_seek 26 = .ok (.iconst 0, 1) := by decide +kernel
theorem dX4_seek_27 : decode cX4_seek 27 = .ok (.istore 5, 2) := by decide +kernel
theorem dX4_seek_29 : decode cX4_seek 29 = .ok (.iload 5, 2) := by decide +kernel
theorem dX4_seek_31 : decode cX4_seek 31 = .ok (.aload_n 0, 1) := by decide +kernel
theorem dX4_seek_32 : decode cX4_seek 32 = .ok (.getfield 34, 3) := by decide +kernel
theorem dX4_seek_35 : decode cX4_seek 35 = .ok (.if_icmp .ge 60, 3) := by decide +kernel
theorem dX4_seek_38 : decode cX4_seek 38 = .ok (.iconst 0, 1) := by decide +kernel
theorem dX4_seek_39 : decode cX4_seek 39 = .ok (.istore 6, 2) := by decide +kernel
theorem dX4_seek_41 : decode cX4_seek 41 = .ok (.iload 6, 2) := by decide +kernel
theorem dX4_seek_43 : decode cX4_seek 43 = .ok (.aload_n 0, 1) := by decide +kernel
theorem dX4_seek_44 : decode cX4_seek 44 = .ok (.getfield 24, 3) := by decide +kernel
theorem dX4_seek_47 : decode cX4_seek 47 = .ok (.getfield 47, 3) := by decide +kernel
theorem dX4_seek_50 : decode cX4_seek 50 = .ok (.getfield 53, 3) := by decide +kernel
theorem dX4_seek_53 : decode cX4_seek 53 = .ok (.if_icmp .gt 36, 3) := by decide +kernel
theorem dX4_seek_56 : decode cX4_seek 56 = .ok (.aload_n 0, 1) := by decide +kernel
theorem dX4_seek_57 : decode cX4_seek 57 = .ok (.getfield 11, 3) := by decide +kernel
theorem dX4_seek_60 : decode cX4_seek 60 = .ok (.iload 5, 2) := by decide +kernel
theorem dX4_seek_62 : decode cX4_seek 62 = .ok (.bipush 10, 2) := by decide +kernel
theorem dX4_seek_64 : decode cX4_seek 64 = .ok (.imul, 1) := by decide +kernel
theorem dX4_seek_65 : decode cX4_seek 65 = .ok (.iload 6, 2) := by decide +kernel
theorem dX4_seek_67 : decode cX4_seek 67 = .ok (.iadd, 1) := by decide +kernel
theorem dX4_seek_68 : decode cX4_seek 68 = .ok (.aload_n 0, 1) := by decide +kernel
theorem dX4_seek_69 : decode cX4_seek 69 = .ok (.getfield 24, 3) := by decide +kernel
theorem dX4_seek_72 : decode cX4_seek 72 = .ok (.iload_n 1, 1) := by decide +kernel
theorem dX4_seek_73 : decode cX4_seek 73 = .ok (.iload_n 2, 1) := by decide +kernel
theorem dX4_seek_74 : decode cX4_seek 74 = .ok (.iload 5, 2) := by decide +kernel
theorem dX4_seek_76 : decode cX4_seek 76 = .ok (.iadd, 1) := by decide +kernel
theorem dX4_seek_77 : decode cX4_seek 77 = .ok (.iload 6, 2) := by decide +kernel
theorem dX4_seek_79 : decode cX4_seek 79 = .ok (.invokevirtual 58, 3) := by decide +kernel
theorem dX4_seek_82 : decode cX4_seek 82 = .ok (.iastore, 1) := by decide +kernel
theorem dX4_seek_83 : decode cX4_seek 83 = .ok (.iinc 6 1, 3) := by decide +kernel
theorem dX4_seek_86 : decode cX4_seek 86 = .ok (.goto (-45), 3) := by decide +kernel
theorem dX4_seek_89 : decode cX4_seek 89 = .ok (.iinc 5 1, 3) := by decide +kernel
theorem dX4_seek_92 : decode cX4_seek 92 = .ok (.goto (-63), 3) := by decide +kernel
theorem dX4_seek_95 : decode cX4_seek 95 = .ok (.iconst 1, 1) := by decide +kernel
theorem dX4_seek_96 : decode cX4_seek 96 = .ok (.istore 5, 2) := by decide +kernel
theorem dX4_seek_98 : decode cX4_seek 98 = .ok (.iload 5, 2) := by decide +kernel
theorem dX4_seek_100 : decode cX4_seek 100 = .ok (.iconst 4, 1) := by decide +kernel
theorem dX4_seek_101 : decode cX4_seek 101 = .ok (.if_icmp .gt 26, 3) := by decide +kernel
theorem dX4_seek_104 : decode cX4_seek 104 = .ok (.aload_n 0, 1) := by decide +kernel
theorem dX4_seek_105 : decode cX4_seek 105 = .ok (.getfield 41, 3) := by decide +kernel
theorem dX4_seek_108 : decode cX4_seek 108 = .ok (.ifCond .ne 19, 3) := by decide +kernel
theorem dX4_seek_111 : decode cX4_seek 111 = .ok (.aload_n 0, 1) := by decide +kernel
theorem dX4_seek_112 : decode cX4_seek 112 = .ok (.iload 5, 2) := by decide +kernel
theorem dX4_seek_114 : decode cX4_seek 114 = .ok (.putfield 44, 3) := by decide +kernel
theorem dX4_seek_117 : decode cX4_seek 117 = .ok (.aload_n 0, 1) := by decide +kernel
theorem dX4_seek_118 : decode cX4_seek 118 = .ok (.invokevirtual 62, 3) := by decide +kernel
theorem dX4_seek_121 : decode cX4_seek 121 = .ok (.iinc 5 1, 3) := by decide +kernel
theorem dX4_seek_124 : decode cX4_seek 124 = .ok (.goto (-26), 3) := by decide +kernel
theorem dX4_seek_127 : decode cX4_seek 127 = .ok (.return_, 1) := by decide +kernel
theorem dX4_tryAll_0 : decode cX4_tryAll 0 = .ok (.iconst 1, 1) := by decide +kernel
theorem dX4_tryAll_1 : decode cX4_tryAll 1 = .ok (.istore_n 1, 1) := by decide +kernel
theorem dX4_tryAll_2 : decode cX4_tryAll 2 = .ok (.iconst 1, 1) := by decide +kernel
theorem dX4_tryAll_3 : decode cX4_tryAll 3 = .ok (.istore_n 2, 1) := by decide +kernel
theorem dX4_tryAll_4 : decode cX4_tryAll 4 = .ok (.iload_n 2, 1) := by decide +kernel
theorem dX4_tryAll_5 : decode cX4_tryAll 5 = .ok (.aload_n 0, 1) := by decide +kernel
theorem dX4_tryAll_6 : decode cX4_tryAll 6 = .ok (.getfield 44, 3) := by decide +kernel
theorem dX4_tryAll_9 : decode cX4_tryAll 9 = .ok (.if_icmp .ge 22, 3) := by decide +kernel
theorem dX4_tryAll_12 : decode cX4_tryAll 12 = .ok (.iload_n 1, 1) := by decide +kernel
theorem dX4_tryAll_13 : decode cX4_tryAll 13 = .ok (.aload_n 0, 1) := by decide +kernel
theorem dX4_tryAll_14 : decode cX4_tryAll 14 = .ok (.getfield 24, 3) := by decide +kernel
theorem dX4_tryAll_17 : decode cX4_tryAll 17 = .ok (.getfield 47, 3) := by decide +kernel
theorem dX4_tryAll_20 : decode cX4_tryAll 20 = .ok (.invokevirtual 65, 3) := by decide +kernel
theorem dX4_tryAll_23 : decode cX4_tryAll 23 = .ok (.imul, 1) := by decide +kernel
theorem dX4_tryAll_24 : decode cX4_tryAll 24 = .ok (.istore_n 1, 1) := by decide +kernel
theorem dX4_tryAll_25 : decode cX4_tryAll 25 = .ok (.iinc 2 1, 3) := by decide +kernel
theorem dX4_tryAll_28 : decode cX4_tryAll 28 = .ok (.goto (-24), 3) := by decide +kernel
theorem dX4_tryAll_31 : decode cX4_tryAll 31 = .ok (.iconst 0, 1) := by decide +kernel
theorem dX4_tryAll_32 : decode cX4_tryAll 32 = .ok (.istore_n 2, 1) := by decide +kernel
theorem dX4_tryAll_33 : decode cX4_tryAll 33 = .ok (.iload_n 2, 1) := by decide +kernel
theorem dX4_tryAll_34 : decode cX4_tryAll 34 = .ok (.iload_n 1, 1) := by decide +kernel
theorem dX4_tryAll_35 : decode cX4_tryAll 35 = .ok (.if_icmp .ge 53, 3) := by decide +kernel
theorem dX4_tryAll_38 : decode cX4_tryAll 38 = .ok (.aload_n 0, 1) := by decide +kernel
theorem dX4_tryAll_39 : decode cX4_tryAll 39 = .ok (.iload_n 2, 1) := by decide +kernel
theorem dX4_tryAll_40 : decode cX4_tryAll 40 = .ok (.invokevirtual 69, 3) := by decide +kernel
theorem dX4_tryAll_43 : decode cX4_tryAll 43 = .ok (.aload_n 0, 1) := by decide +kernel
theorem dX4_tryAll_44 : decode cX4_tryAll 44 = .ok (.invokevirtual 73, 3) := by decide +kernel
theorem dX4_tryAll_47 : decode cX4_tryAll 47 = .ok (.iconst 0, 1) := by decide +kernel
theorem dX4_tryAll_48 : decode cX4_tryAll 48 = .ok (.istore_n 3, 1) := by decide +kernel
theorem dX4_tryAll_49 : decode cX4_tryAll 49 = .ok (.iload_n 3, 1) := by decide +kernel
theorem dX4_tryAll_50 : decode cX4_tryAll 50 = .ok (.aload_n 0, 1) := by decide +kernel
theorem dX4_tryAll_51 : decode cX4_tryAll 51 = .ok (.getfield 24, 3) := by decide +kernel
theorem dX4_tryAll_54 : decode cX4_tryAll 54 = .ok (.getfield 47, 3) := by decide +kernel
theorem dX4_tryAll_57 : decode cX4_tryAll 57 = .ok (.getfield 53, 3) := by decide +kernel
theorem dX4_tryAll_60 : decode cX4_tryAll 60 = .ok (.if_icmp .gt 22, 3) := by decide +kernel
theorem dX4_tryAll_63 : decode cX4_tryAll 63 = .ok (.aload_n 0, 1) := by decide +kernel
theorem dX4_tryAll_64 : decode cX4_tryAll 64 = .ok (.iload_n 3, 1) := by decide +kernel
theorem dX4_tryAll_65 : decode cX4_tryAll 65 = .ok (.invokevirtual 76, 3) := by decide +kernel
theorem dX4_tryAll_68 : decode cX4_tryAll 68 = .ok (.ifCond .eq 8, 3) := by decide +kernel
theorem dX4_tryAll_71 : decode cX4_tryAll 71 = .ok (.aload_n 0, 1) := by decide +kernel
theorem dX4_tryAll_72 : decode cX4_tryAll 72 = .ok (.iload_n 3, 1) := by decide +kernel
theorem dX4_tryAll_73 : decode cX4_tryAll 73 = .ok (.invokevirtual 80, 3) := by decide +kernel
theorem dX4_tryAll_76 : decode cX4_tryAll 76 = .ok (.iinc 3 1, 3) := by decide +kernel
theorem dX4_tryAll_79 : decode cX4_tryAll 79 = .ok (.goto (-30), 3) := by decide +kernel
theorem dX4_tryAll_82 : decode cX4_tryAll 82 = .ok (.iinc 2 1, 3) := by decide +kernel
theorem dX4_tryAll_85 : decode cX4_tryAll 85 = .ok (.goto (-52), 3) := by decide +kernel
theorem dX4_tryAll_88 : decode cX4_tryAll 88 = .ok (.return_, 1) := by decide +kernel
theorem dX5_weigh_0 : decode cX5_weigh 0 = .ok (.aload_n 0, 1) := by decide +kernel
theorem dX5_weigh_1 : decode cX5_weigh 1 = .ok (.getfield 9, 3) := by decide +kernel
theorem dX5_weigh_4 : decode cX5_weigh 4 = .ok (.lconst 0, 1) := by decide +kernel
theorem dX5_weigh_5 : decode cX5_weigh 5 = .ok (.invokestatic 19, 3) := by decide +kernel
theorem dX5_weigh_8 : decode cX5_weigh 8 = .ok (.aload_n 0, 1) := by decide +kernel
theorem dX5_weigh_9 : decode cX5_weigh 9 = .ok (.getfield 9, 3) := by decide +kernel
theorem dX5_weigh_12 : decode cX5_weigh 12 = .ok (.iconst 0, 1) := by decide +kernel
theorem dX5_weigh_13 : decode cX5_weigh 13 = .ok (.lconst 1, 1) := by decide +kernel
theorem dX5_weigh_14 : decode cX5_weigh 14 = .ok (.lastore, 1) := by decide +kernel
theorem dX5_weigh_15 : decode cX5_weigh 15 = .ok (.lconst 1, 1) := by decide +kernel
theorem dX5_weigh_16 : decode cX5_weigh 16 = .ok (.lstore_n 2, 1) := by decide +kernel
theorem dX5_weigh_17 : decode cX5_weigh 17 = .ok (.iconst 0, 1) := by decide +kernel
theorem dX5_weigh_18 : decode cX5_weigh 18 = .ok (.istore 4, 2) := by decide +kernel
theorem dX5_weigh_20 : decode cX5_weigh 20 = .ok (.iload 4, 2) := by decide +kernel
theorem dX5_weigh_22 : decode cX5_weigh 22 = .ok (.iload_n 1, 1) := by decide +kernel
theorem dX5_weigh_23 : decode cX5_weigh 23 = .ok (.if_icmp .ge 114, 3) := by decide +kernel
theorem dX5_weigh_26 : decode cX5_weigh 26 = .ok (.iload 4, 2) := by decide +kernel
theorem dX5_weigh_28 : decode cX5_weigh 28 = .ok (.bipush 7, 2) := by decide +kernel
theorem dX5_weigh_30 : decode cX5_weigh 30 = .ok (.if_icmp .ge 107, 3) := by decide +kernel
theorem dX5_weigh_33 : decode cX5_weigh 33 = .ok (.iload 4, 2) := by decide +kernel
theorem dX5_weigh_35 : decode cX5_weigh 35 = .ok (.iconst 1, 1) := by decide +kernel
theorem dX5_weigh_36 : decode cX5_weigh 36 = .ok (.iadd, 1) := by decide +kernel
theorem dX5_weigh_37 : decode cX5_weigh 37 = .ok (.istore 5, 2) := by decide +kernel
theorem dX5_weigh_39 : decode cX5_weigh 39 = .ok (.iload 5, 2) := by decide +kernel
theorem dX5_weigh_41 : decode cX5_weigh 41 = .ok (.iconst 1, 1) := by decide +kernel
theorem dX5_weigh_42 : decode cX5_weigh 42 = .ok (.if_icmp .lt 60, 3) := by decide +kernel
theorem dX5_weigh_45 : decode cX5_weigh 45 = .ok (.aload_n 0, 1) := by decide +kernel
theorem dX5_weigh_46 : decode cX5_weigh 46 = .ok (.getfield 9, 3) := by decide +kernel
theorem dX5_weigh_49 : decode cX5_weigh 49 = .ok (.iload 5, 2) := by decide +kernel
theorem dX5_weigh_51 : decode cX5_weigh 51 = .ok (.aload_n 0, 1) := by decide +kernel
theorem dX5_weigh_52 : decode cX5_weigh 52 = .ok (.getfield 9, 3) := by decide +kernel
theorem dX5_weigh_55 : decode cX5_weigh 55 = .ok (.iload 5, 2) := by decide +kernel
theorem dX5_weigh_57 : decode cX5_weigh 57 = .ok (.laload, 1) := by decide +kernel
theorem dX5_weigh_58 : decode cX5_weigh 58 = .ok (.bipush 10, 2) := by decide +kernel
theorem dX5_weigh_60 : decode cX5_weigh 60 = .ok (.aload_n 0, 1) := by decide +kernel
theorem dX5_weigh_61 : decode cX5_weigh 61 = .ok (.getfield 15, 3) := by decide +kernel
theorem dX5_weigh_64 : decode cX5_weigh 64 = .ok (.getfield 25, 3) := by decide +kernel
theorem dX5_weigh_67 : decode cX5_weigh 67 = .ok (.getfield 31, 3) := by decide +kernel
theorem dX5_weigh_70 : decode cX5_weigh 70 = .ok (.isub, 1) := by decide +kernel
theorem dX5_weigh_71 : decode cX5_weigh 71 = .ok (.i2l, 1) := by decide +kernel
theorem dX5_weigh_72 : decode cX5_weigh 72 = .ok (.lmul, 1) := by decide +kernel
theorem dX5_weigh_73 : decode cX5_weigh 73 = .ok (.aload_n 0, 1) := by decide +kernel
theorem dX5_weigh_74 : decode cX5_weigh 74 = .ok (.getfield 9, 3) := by decide +kernel
theorem dX5_weigh_77 : decode cX5_weigh 77 = .ok (.iload 5, 2) := by decide +kernel
theorem dX5_weigh_79 : decode cX5_weigh 79 = .ok (.iconst 1, 1) := by decide +kernel
theorem dX5_weigh_80 : decode cX5_weigh 80 = .ok (.isub, 1) := by decide +kernel
theorem dX5_weigh_81 : decode cX5_weigh 81 = .ok (.laload, 1) := by decide +kernel
theorem dX5_weigh_82 : decode cX5_weigh 82 = .ok (.aload_n 0, 1) := by decide +kernel
theorem dX5_weigh_83 : decode cX5_weigh 83 = .ok (.getfield 15, 3) := by decide +kernel
theorem dX5_weigh_86 : decode cX5_weigh 86 = .ok (.getfield 25, 3) := by decide +kernel
theorem dX5_weigh_89 : decode cX5_weigh 89 = .ok (.getfield 31, 3) := by decide +kernel
theorem dX5_weigh_92 : decode cX5_weigh 92 = .ok (.i2l, 1) := by decide +kernel
theorem dX5_weigh_93 : decode cX5_weigh 93 = .ok (.lmul, 1) := by decide +kernel
theorem dX5_weigh_94 : decode cX5_weigh 94 = .ok (.ladd, 1) := by decide +kernel
theorem dX5_weigh_95 : decode cX5_weigh 95 = .ok (.lastore, 1) := by decide +kernel
theorem dX5_weigh_96 : decode cX5_weigh 96 = .ok (.iinc 5 (-1), 3) := by decide +kernel
theorem dX5_weigh_99 : decode cX5_weigh 99 = .ok (.goto (-60), 3) := by decide +kernel
theorem dX5_weigh_102 : decode cX5_weigh 102 = .ok (.aload_n 0, 1) := by decide +kernel
theorem dX5_weigh_103 : decode cX5_weigh 103 = .ok (.getfield 9, 3) := by decide +kernel
theorem dX5_weigh_106 : decode cX5_weigh 106 = .ok (.iconst 0, 1) := by decide +kernel
theorem dX5_weigh_107 : decode cX5_weigh 107 = .ok (.dup2, 1) := by decide +kernel
theorem dX5_weigh_108 : decode cX5_weigh 108 = .ok (.laload, 1) := by decide +kernel
theorem dX5_weigh_109 : decode cX5_weigh 109 = .ok (.bipush 10, 2) := by decide +kernel
theorem dX5_weigh_111 : decode cX5_weigh 111 = .ok (.aload_n 0, 1) := by decide +kernel
theorem dX5_weigh_112 : decode cX5_weigh 112 = .ok (.getfield 15, 3) := by decide +kernel
theorem dX5_weigh_115 : decode cX5_weigh 115 = .ok (.getfield 25, 3) := by decide +kernel
theorem dX5_weigh_118 : decode cX5_weigh 118 = .ok (.getfield 31, 3) := by decide +kernel
theorem dX5_weigh_121 : decode cX5_weigh 121 = .ok (.isub, 1) := by decide +kernel
theorem dX5_weigh_122 : decode cX5_weigh 122 = .ok (.i2l, 1) := by decide +kernel
theorem dX5_weigh_123 : decode cX5_weigh 123 = .ok (.lmul, 1) := by decide +kernel
theorem dX5_weigh_124 : decode cX5_weigh 124 = .ok (.lastore, 1) := by decide +kernel
theorem dX5_weigh_125 : decode cX5_weigh 125 = .ok (.lload_n 2, 1) := by decide +kernel
theorem dX5_weigh_126 : decode cX5_weigh 126 = .ok (.ldc2_w 37, 3) := by decide +kernel
theorem dX5_weigh_129 : decode cX5_weigh 129 = .ok (.lmul, 1) := by decide +kernel
theorem dX5_weigh_130 : decode cX5_weigh 130 = .ok (.lstore_n 2, 1) := by decide +kernel
theorem dX5_weigh_131 : decode cX5_weigh 131 = .ok (.iinc 4 1, 3) := by decide +kernel
theorem dX5_weigh_134 : decode cX5_weigh 134 = .ok (.goto (-114), 3) := by decide +kernel
theorem dX5_weigh_137 : decode cX5_weigh 137 = .ok (.lload_n 2, 1) := by decide +kernel
theorem dX5_weigh_138 : decode cX5_weigh 138 = .ok (.lreturn, 1) := by decide +kernel
theorem mm_km5 : mm_rg (-5) (-5) (-5) := ⟨by decide, by decide⟩
theorem hd_X0_noteAct : yX0_noteAct.cls = RX0 ∧ yX0_noteAct.cls ≠ "java/lang/invoke/MethodHandle" ∧ yX0_noteAct.cls ≠ "java/lang/invoke/VarHandle" ∧ (parseMethodDescriptor yX0_noteAct.desc).map (fun d => d.parameters.length) = some 3 := by decide +kernel
theorem hd_X0_swapStart : yX0_swapStart.cls = RX0 ∧ yX0_swapStart.cls ≠ "java/lang/invoke/MethodHandle" ∧ yX0_swapStart.cls ≠ "java/lang/invoke/VarHandle" ∧ (parseMethodDescriptor yX0_swapStart.desc).map (fun d => d.parameters.length) = some 3 := by decide +kernel
theorem hd_X11_isTask : yX11_isTask.cls = RX11 ∧ yX11_isTask.cls ≠ "java/lang/invoke/MethodHandle" ∧ yX11_isTask.cls ≠ "java/lang/invoke/VarHandle" ∧ (parseMethodDescriptor yX11_isTask.desc).map (fun d => d.parameters.length) = some 4 := by decide +kernel
theorem hd_X2_bestMove : yX2_bestMove.cls = RX2 ∧ yX2_bestMove.cls ≠ "java/lang/invoke/MethodHandle" ∧ yX2_bestMove.cls ≠ "java/lang/invoke/VarHandle" ∧ (parseMethodDescriptor yX2_bestMove.desc).map (fun d => d.parameters.length) = some 1 := by decide +kernel
theorem hd_X2_opening : yX2_opening.cls = RX2 ∧ yX2_opening.cls ≠ "java/lang/invoke/MethodHandle" ∧ yX2_opening.cls ≠ "java/lang/invoke/VarHandle" ∧ (parseMethodDescriptor yX2_opening.desc).map (fun d => d.parameters.length) = some 0 := by decide +kernel
theorem hd_X2_play : yX2_play.cls = RX2 ∧ yX2_play.cls ≠ "java/lang/invoke/MethodHandle" ∧ yX2_play.cls ≠ "java/lang/invoke/VarHandle" ∧ (parseMethodDescriptor yX2_play.desc).map (fun d => d.parameters.length) = some 2 := by decide +kernel
theorem hd_X2_playGreedily : yX2_playGreedily.cls = RX2 ∧ yX2_playGreedily.cls ≠ "java/lang/invoke/MethodHandle" ∧ yX2_playGreedily.cls ≠ "java/lang/invoke/VarHandle" ∧ (parseMethodDescriptor yX2_playGreedily.desc).map (fun d => d.parameters.length) = some 2 := by decide +kernel
theorem hd_X2_worthOf : yX2_worthOf.cls = RX2 ∧ yX2_worthOf.cls ≠ "java/lang/invoke/MethodHandle" ∧ yX2_worthOf.cls ≠ "java/lang/invoke/VarHandle" ∧ (parseMethodDescriptor yX2_worthOf.desc).map (fun d => d.parameters.length) = some 2 := by decide +kernel
theorem hd_X4_keep : yX4_keep.cls = RX4 ∧ yX4_keep.cls ≠ "java/lang/invoke/MethodHandle" ∧ yX4_keep.cls ≠ "java/lang/invoke/VarHandle" ∧ (parseMethodDescriptor yX4_keep.desc).map (fun d => d.parameters.length) = some 1 := by decide +kernel
theorem hd_X4_leavesWanted : yX4_leavesWanted.cls = RX4 ∧ yX4_leavesWanted.cls ≠ "java/lang/invoke/MethodHandle" ∧ yX4_leavesWanted.cls ≠ "java/lang/invoke/VarHandle" ∧ (parseMethodDescriptor yX4_leavesWanted.desc).map (fun d => d.parameters.length) = some 1 := by decide +kernel
theorem hd_X4_readBeginning : yX4_readBeginning.cls = RX4 ∧ yX4_readBeginning.cls ≠ "java/lang/invoke/MethodHandle" ∧ yX4_readBeginning.cls ≠ "java/lang/invoke/VarHandle" ∧ (parseMethodDescriptor yX4_readBeginning.desc).map (fun d => d.parameters.length) = some 0 := by decide +kernel
theorem hd_X4_seek : yX4_seek.cls = RX4 ∧ yX4_seek.cls ≠ "java/lang/invoke/MethodHandle" ∧ yX4_seek.cls ≠ "java/lang/invoke/VarHandle" ∧ (parseMethodDescriptor yX4_seek.desc).map (fun d => d.parameters.length) = some 4 := by decide +kernel
theorem hd_X4_spell : yX4_spell.cls = RX4 ∧ yX4_spell.cls ≠ "java/lang/invoke/MethodHandle" ∧ yX4_spell.cls ≠ "java/lang/invoke/VarHandle" ∧ (parseMethodDescriptor yX4_spell.desc).map (fun d => d.parameters.length) = some 1 := by decide +kernel
theorem hd_X4_tryAll : yX4_tryAll.cls = RX4 ∧ yX4_tryAll.cls ≠ "java/lang/invoke/MethodHandle" ∧ yX4_tryAll.cls ≠ "java/lang/invoke/VarHandle" ∧ (parseMethodDescriptor yX4_tryAll.desc).map (fun d => d.parameters.length) = some 0 := by decide +kernel
theorem hd_X5_weigh : yX5_weigh.cls = RX5 ∧ yX5_weigh.cls ≠ "java/lang/invoke/MethodHandle" ∧ yX5_weigh.cls ≠ "java/lang/invoke/VarHandle" ∧ (parseMethodDescriptor yX5_weigh.desc).map (fun d => d.parameters.length) = some 1 := by decide +kernel
theorem hs_J7_fill_d0a16 : yJ7_fill_d0a16.cls ≠ "java/lang/invoke/MethodHandle" ∧ yJ7_fill_d0a16.cls ≠ "java/lang/invoke/VarHandle" ∧ (parseMethodDescriptor yJ7_fill_d0a16.desc).map (fun d => d.parameters.length) = some 2 := by decide +kernel
theorem hs_X11_isNights : yX11_isNights.cls ≠ "java/lang/invoke/MethodHandle" ∧ yX11_isNights.cls ≠ "java/lang/invoke/VarHandle" ∧ (parseMethodDescriptor yX11_isNights.desc).map (fun d => d.parameters.length) = some 1 := by decide +kernel
set_option maxHeartbeats 4000000 in
set_option maxRecDepth 100000 in
theorem K475_X4_keep (l : Launch) (G : va_G) (cy : Nat → ClassId) (sz : Nat) (a_0 : Nat) (i_0 : Int32) (a_1 : Nat) (a_2 : Nat) (a_3 : Nat) (a_4 : Nat) (a_5 : Nat) (i_1 : Int32) (i_2 : Int32) (i_3 : Int32) (i_4 : Int32) (f_0 : Nat → Int32) (f_1 : Nat → Int32) (h0 : mm_rg i_0 0 9) (h1 : mm_rg i_3 1 4) (h2 : mm_ar f_0 0 9)  : mm_CV l yX4_keep (mm_ws yX4_keep cX4_keep 2 (none)) ({ frames := 1, cells := 0, slots := 0, locals := 64 } : Room) G cy sz [(a_0, .inr (4, [.ref a_1, .ref a_2, .ref a_3, .ref a_4, .ref a_5, .int i_1, .int i_2, .int i_3, .int i_4])), (a_4, .inl (cy 1, 4, .inl f_0)), (a_5, .inl (cy 1, 4, .inl f_1))] [.ref a_0, .int i_0] (fun u : Int32 × (Nat → Int32) => [(a_0, .inr (4, [.ref a_1, .ref a_2, .ref a_3, .ref a_4, .ref a_5, .int i_1, .int i_2, .int i_3, .int u.1])), (a_4, .inl (cy 1, 4, .inl f_0)), (a_5, .inl (cy 1, 4, .inl u.2))]) (fun u : Int32 × (Nat → Int32) => True) 0 0 := by
  refine mm_begin (lv := [(0, .ref a_0), (1, .int i_0)]) (by decide) (Nat.le_of_ble_eq_true rfl) rfl ?_
  intro p e s m below meth c A ls R args Q H locs hRe hQ hAe hx hb hr hlocks hml hown hnm hts hsz hA hS hP hK hD hZ hl
  have hRf : R.frames = 1 := by rw [hRe]
  have hRl : R.locals = 64 := by rw [hRe]
  have hRc : R.cells = 0 := by rw [hRe]
  have hRs : R.slots = 0 := by rw [hRe]
  refine lv_aload_n hx hb dX4_keep_0 rfl (lv_at hl 0 rfl) ?_
  refine va_get (D := G) (ci := 4) (v := .int i_4) (C := RX4) (T := TX4) (N := 9) hx hb hts (mm_i inlX4) hown hK.1 hP 0 rfl rfl 8 (by decide) (mm_h hts mm_w1361) (fun _ h9 => h9) rfl dX4_keep_1 ?_
  refine lv_if_ne (tgt := 33) hx hb dX4_keep_4 (by decide) (fun c1 => ?_) (fun c1 => ?_)
  · refine lv_aload_n hx hb dX4_keep_33 rfl (lv_at hl 0 rfl) ?_
    refine lv_dup hx hb dX4_keep_34 rfl ?_
    refine va_get (D := G) (ci := 4) (v := .int i_4) (C := RX4) (T := TX4) (N := 9) hx hb hts (mm_i inlX4) hown hK.1 hP 0 rfl rfl 8 (by decide) (mm_h hts mm_w1361) (fun _ h9 => h9) rfl dX4_keep_35 ?_
    refine lv_iconst (v := 1) hx hb dX4_keep_38 (by decide) ?_
    refine lv_iadd hx hb dX4_keep_39 ?_
    refine lv_topi (fun v2 ev2 => ?_)
    refine va_put (D := G) (ci := 4) (v := .int v2) (ty := tyX4 8) (C := RX4) (T := TX4) (N := 9) hx hb hts (mm_i inlX4) tyX4 tyX4_ok nmX4 hown hK.1 hP hD hS 0 rfl rfl 8 (by decide) (mm_h hts mm_w1361) (fun _ h9 => h9) rfl (tyX4_ok 8 (by decide)) rfl rfl (Nat.le_of_ble_eq_true rfl) dX4_keep_40 ?_
    clear hP hD hS
    clear H locs
    intro H locs (hP : va_P G vwCl [(a_0, .inr (4, [.ref a_1, .ref a_2, .ref a_3, .ref a_4, .ref a_5, .int i_1, .int i_2, .int i_3, .int v2])), (a_4, .inl (cy 1, 4, .inl f_0)), (a_5, .inl (cy 1, 4, .inl f_1))] H) (hD : va_D A [(a_0, .inr (4, [.ref a_1, .ref a_2, .ref a_3, .ref a_4, .ref a_5, .int i_1, .int i_2, .int i_3, .int v2])), (a_4, .inl (cy 1, 4, .inl f_0)), (a_5, .inl (cy 1, 4, .inl f_1))]) hS
    subst hAe
    rw [hQ]
    exact W.vret hx hb hr (fun t ht hW => ⟨⟨(v2, f_1), rfl, trivial, by rw [ht]; exact hP, hK.warm hW, hD⟩, hS.F ht⟩) hS.2.2 dX4_keep_43
  · have q3 := mm_eqI (lo := 0) (hi := 0) c1 (mm_top i_4) mm_k0 (by decide)
    refine lv_aload_n hx hb dX4_keep_7 rfl (lv_at hl 0 rfl) ?_
    refine va_get (D := G) (ci := 4) (v := .ref a_4) (C := RX4) (T := TX4) (N := 9) hx hb hts (mm_i inlX4) hown hK.1 hP 0 rfl rfl 3 (by decide) (mm_h hts mm_w122) (fun _ h9 => h9) rfl dX4_keep_8 ?_
    refine lv_iconst (v := 0) hx hb dX4_keep_11 (by decide) ?_
    refine lv_aload_n hx hb dX4_keep_12 rfl (lv_at hl 0 rfl) ?_
    refine va_get (D := G) (ci := 4) (v := .ref a_5) (C := RX4) (T := TX4) (N := 9) hx hb hts (mm_i inlX4) hown hK.1 hP 0 rfl rfl 4 (by decide) (mm_h hts mm_w123) (fun _ h9 => h9) rfl dX4_keep_13 ?_
    refine lv_iconst (v := 0) hx hb dX4_keep_16 (by decide) ?_
    refine lv_iconst (v := 4) hx hb dX4_keep_17 (by decide) ?_
    refine va_copyi hx hb (by rw [hml]; exact hl.1.symm) hown (mm_h hts mm_w1390) (mm_h hts mm_w388) (mm_h hts mm_w389) (mm_h hts mm_w390) hK.1 hP hD hS 1 2 1 1 rfl rfl rfl rfl rfl (by decide) (by decide) (by decide) (by decide) (by decide) (fun _ _ => rfl) (by rw [hRf]; exact Nat.le_of_ble_eq_true rfl) (by rw [hRl]; exact Nat.le_of_ble_eq_true rfl) dX4_keep_18 ?_
    clear hP hD hS
    clear H locs
    obtain ⟨g4, eg4⟩ : ∃ z : Nat → Int32, z = va_cpy f_0 f_1 (0 : Int32).toNatClampNeg (0 : Int32).toNatClampNeg (4 : Int32).toNatClampNeg := ⟨_, rfl⟩
    rw [← eg4]
    intro H locs (hP : va_P G vwCl [(a_0, .inr (4, [.ref a_1, .ref a_2, .ref a_3, .ref a_4, .ref a_5, .int i_1, .int i_2, .int i_3, .int i_4])), (a_4, .inl (cy 1, 4, .inl f_0)), (a_5, .inl (cy 1, 4, .inl g4))] H) (hD : va_D A [(a_0, .inr (4, [.ref a_1, .ref a_2, .ref a_3, .ref a_4, .ref a_5, .int i_1, .int i_2, .int i_3, .int i_4])), (a_4, .inl (cy 1, 4, .inl f_0)), (a_5, .inl (cy 1, 4, .inl g4))]) hS
    have hq := mm_recont hP hD 2 rfl (g := f_0) (by rw [eg4]; exact mm_cpyF (by decide))
    replace hP := hq.1
    replace hD := hq.2
    clear hq
    replace hP : va_P G vwCl [(a_0, .inr (4, [.ref a_1, .ref a_2, .ref a_3, .ref a_4, .ref a_5, .int i_1, .int i_2, .int i_3, .int i_4])), (a_4, .inl (cy 1, 4, .inl f_0)), (a_5, .inl (cy 1, 4, .inl f_0))] H := hP
    replace hD : va_D A [(a_0, .inr (4, [.ref a_1, .ref a_2, .ref a_3, .ref a_4, .ref a_5, .int i_1, .int i_2, .int i_3, .int i_4])), (a_4, .inl (cy 1, 4, .inl f_0)), (a_5, .inl (cy 1, 4, .inl f_0))] := hD
    refine lv_aload_n hx hb dX4_keep_21 rfl (lv_at hl 0 rfl) ?_
    refine va_get (D := G) (ci := 4) (v := .ref a_5) (C := RX4) (T := TX4) (N := 9) hx hb hts (mm_i inlX4) hown hK.1 hP 0 rfl rfl 4 (by decide) (mm_h hts mm_w123) (fun _ h9 => h9) rfl dX4_keep_22 ?_
    refine lv_aload_n hx hb dX4_keep_25 rfl (lv_at hl 0 rfl) ?_
    refine va_get (D := G) (ci := 4) (v := .int i_3) (C := RX4) (T := TX4) (N := 9) hx hb hts (mm_i inlX4) hown hK.1 hP 0 rfl rfl 7 (by decide) (mm_h hts mm_w1362) (fun _ h9 => h9) rfl dX4_keep_26 ?_
    refine lv_iconst (v := 1) hx hb dX4_keep_29 (by decide) ?_
    refine lv_isub hx hb dX4_keep_30 ?_
    refine lv_topi (fun v5 ev5 => ?_)
    have rv5 : mm_rg v5 0 3 := mm_sub ev5 h1 mm_k1 (by decide) (by decide)
    have tv5 := mm_subEc ev5 h1 mm_k1 (by decide) (k := (-1)) (by decide)
    refine lv_iload_n hx hb dX4_keep_31 rfl (lv_at hl 1 rfl) ?_
    refine va_iast hx hb hK.1 hP hD hS 2 1 rfl rfl (mm_in rv5 (by decide)) dX4_keep_32 ?_
    clear hP hD hS
    clear H locs
    obtain ⟨g6, eg6⟩ : ∃ z : Nat → Int32, z = upd f_0 v5.toNatClampNeg i_0 := ⟨_, rfl⟩
    rw [← eg6]
    intro H locs (hP : va_P G vwCl [(a_0, .inr (4, [.ref a_1, .ref a_2, .ref a_3, .ref a_4, .ref a_5, .int i_1, .int i_2, .int i_3, .int i_4])), (a_4, .inl (cy 1, 4, .inl f_0)), (a_5, .inl (cy 1, 4, .inl g6))] H) (hD : va_D A [(a_0, .inr (4, [.ref a_1, .ref a_2, .ref a_3, .ref a_4, .ref a_5, .int i_1, .int i_2, .int i_3, .int i_4])), (a_4, .inl (cy 1, 4, .inl f_0)), (a_5, .inl (cy 1, 4, .inl g6))]) hS
    have rg6 : mm_ar g6 0 9 := by rw [eg6]; exact mm_ar_upd (mm_ar_wk h2 (by decide)) (mm_wk h0 (by decide)) _
    refine lv_aload_n hx hb dX4_keep_33 rfl (lv_at hl 0 rfl) ?_
    refine lv_dup hx hb dX4_keep_34 rfl ?_
    refine va_get (D := G) (ci := 4) (v := .int i_4) (C := RX4) (T := TX4) (N := 9) hx hb hts (mm_i inlX4) hown hK.1 hP 0 rfl rfl 8 (by decide) (mm_h hts mm_w1361) (fun _ h9 => h9) rfl dX4_keep_35 ?_
    refine lv_iconst (v := 1) hx hb dX4_keep_38 (by decide) ?_
    refine lv_iadd hx hb dX4_keep_39 ?_
    refine lv_topi (fun v7 ev7 => ?_)
    have rv7 : mm_rg v7 1 1 := mm_add ev7 q3 mm_k1 (by decide) (by decide)
    have tv7 := mm_addEc ev7 q3 mm_k1 (by decide) (k := 1) (by decide)
    refine va_put (D := G) (ci := 4) (v := .int v7) (ty := tyX4 8) (C := RX4) (T := TX4) (N := 9) hx hb hts (mm_i inlX4) tyX4 tyX4_ok nmX4 hown hK.1 hP hD hS 0 rfl rfl 8 (by decide) (mm_h hts mm_w1361) (fun _ h9 => h9) rfl (tyX4_ok 8 (by decide)) rfl rfl (Nat.le_of_ble_eq_true rfl) dX4_keep_40 ?_
    clear hP hD hS
    clear H locs
    intro H locs (hP : va_P G vwCl [(a_0, .inr (4, [.ref a_1, .ref a_2, .ref a_3, .ref a_4, .ref a_5, .int i_1, .int i_2, .int i_3, .int v7])), (a_4, .inl (cy 1, 4, .inl f_0)), (a_5, .inl (cy 1, 4, .inl g6))] H) (hD : va_D A [(a_0, .inr (4, [.ref a_1, .ref a_2, .ref a_3, .ref a_4, .ref a_5, .int i_1, .int i_2, .int i_3, .int v7])), (a_4, .inl (cy 1, 4, .inl f_0)), (a_5, .inl (cy 1, 4, .inl g6))]) hS
    subst hAe
    rw [hQ]
    exact W.vret hx hb hr (fun t ht hW => ⟨⟨(v7, g6), rfl, trivial, by rw [ht]; exact hP, hK.warm hW, hD⟩, hS.F ht⟩) hS.2.2 dX4_keep_43

set_option maxHeartbeats 4000000 in
set_option maxRecDepth 100000 in
theorem K476_X4_tryAll (l : Launch) (G : va_G) (cy : Nat → ClassId) (sz : Nat) (a_0 : Nat) (a_1 : Nat) (a_2 : Nat) (a_3 : Nat) (i_0 : Int32) (i_1 : Int32) (i_2 : Int32) (i_3 : Int32) (i_4 : Int32) (i_5 : Int32) (i_6 : Int32) (i_7 : Int32) (a_4 : Nat) (a_5 : Nat) (a_6 : Nat) (a_7 : Nat) (a_8 : Nat) (a_9 : Nat) (a_10 : Nat) (a_11 : Nat) (a_12 : Nat) (a_13 : Nat) (f_0 : Nat → Int32) (f_1 : Nat → Int32) (a_14 : Nat) (a_15 : Nat) (a_16 : Nat) (a_17 : Nat) (i_8 : Int32) (i_9 : Int32) (i_10 : Int32) (i_11 : Int32) (f_2 : Nat → Int32) (f_3 : Nat → Int32) (f_4 : Nat → Int32) (f_5 : Nat → Int32) (h0 : mm_rg i_3 0 99) (h1 : mm_rg i_4 0 9) (h2 : mm_ar f_0 (-1) 4) (h3 : mm_ar f_1 0 99) (h4 : mm_rg i_8 0 7) (h5 : mm_rg i_10 1 4) (h6 : mm_ar f_2 0 9) (h7 : mm_ar f_4 0 9)  : mm_CV l yX4_tryAll (mm_ws yX4_tryAll cX4_tryAll 4 (none)) ({ frames := 3, cells := 0, slots := 0, locals := 85 } : Room) G cy sz [(a_1, .inr (10, [.ref a_2, .ref a_3])), (a_2, .inr (0, [.int i_0, .int i_1, .int i_2, .int i_3, .int i_4, .int i_5, .int i_6, .int i_7, .ref a_4, .ref a_5, .ref a_6, .ref a_7, .ref a_8, .ref a_9, .ref a_10, .ref a_11, .ref a_12, .ref a_13])), (a_4, .inl (cy 1, 9, .inl f_0)), (a_5, .inl (cy 1, 9, .inl f_1)), (a_0, .inr (4, [.ref a_1, .ref a_14, .ref a_15, .ref a_16, .ref a_17, .int i_8, .int i_9, .int i_10, .int i_11])), (a_14, .inl (cy 1, 70, .inl f_2)), (a_15, .inl (cy 1, 7, .inl f_3)), (a_16, .inl (cy 1, 4, .inl f_4)), (a_17, .inl (cy 1, 4, .inl f_5))] [.ref a_0] (fun u : Int32 × (Nat → Int32) × (Nat → Int32) × (Nat → Int32) => [(a_1, .inr (10, [.ref a_2, .ref a_3])), (a_2, .inr (0, [.int i_0, .int i_1, .int i_2, .int i_3, .int i_4, .int i_5, .int i_6, .int i_7, .ref a_4, .ref a_5, .ref a_6, .ref a_7, .ref a_8, .ref a_9, .ref a_10, .ref a_11, .ref a_12, .ref a_13])), (a_4, .inl (cy 1, 9, .inl f_0)), (a_5, .inl (cy 1, 9, .inl f_1)), (a_0, .inr (4, [.ref a_1, .ref a_14, .ref a_15, .ref a_16, .ref a_17, .int i_8, .int i_9, .int i_10, .int u.1])), (a_14, .inl (cy 1, 70, .inl f_2)), (a_15, .inl (cy 1, 7, .inl u.2.1)), (a_16, .inl (cy 1, 4, .inl u.2.2.1)), (a_17, .inl (cy 1, 4, .inl u.2.2.2))]) (fun u : Int32 × (Nat → Int32) × (Nat → Int32) × (Nat → Int32) => mm_ar u.2.2.1 0 9) 0 0 := by
  refine mm_begin (lv := [(0, .ref a_0)]) (by decide) (Nat.le_of_ble_eq_true rfl) rfl ?_
  intro p e s m below meth c A ls R args Q H locs hRe hQ hAe hx hb hr hlocks hml hown hnm hts hsz hA hS hP hK hD hZ hl
  have hRf : R.frames = 3 := by rw [hRe]
  have hRl : R.locals = 85 := by rw [hRe]
  have hRc : R.cells = 0 := by rw [hRe]
  have hRs : R.slots = 0 := by rw [hRe]
  refine lv_iconst (v := 1) hx hb dX4_tryAll_0 (by decide) ?_
  refine lv_istore_n (lv' := [(1, .int 1), (0, .ref a_0)]) hx hb dX4_tryAll_1 rfl hl (by decide) rfl ?_
  clear hl
  clear ls
  intro ls hl
  refine lv_iconst (v := 1) hx hb dX4_tryAll_2 (by decide) ?_
  refine lv_istore_n (lv' := [(2, .int 1), (1, .int 1), (0, .ref a_0)]) hx hb dX4_tryAll_3 rfl hl (by decide) rfl ?_
  clear hl
  clear ls
  intro ls hl
  have L4_18545 : ∀ (n : Nat) (x4_2_18544 : Int32) (x4_1_18545 : Int32), mm_rg x4_2_18544 1 4 → (4 - x4_2_18544.toInt).toNat < n → ∀ (H : Heap) (locs : List Loc), va_P G vwCl [(a_1, .inr (10, [.ref a_2, .ref a_3])), (a_2, .inr (0, [.int i_0, .int i_1, .int i_2, .int i_3, .int i_4, .int i_5, .int i_6, .int i_7, .ref a_4, .ref a_5, .ref a_6, .ref a_7, .ref a_8, .ref a_9, .ref a_10, .ref a_11, .ref a_12, .ref a_13])), (a_4, .inl (cy 1, 9, .inl f_0)), (a_5, .inl (cy 1, 9, .inl f_1)), (a_0, .inr (4, [.ref a_1, .ref a_14, .ref a_15, .ref a_16, .ref a_17, .int i_8, .int i_9, .int i_10, .int i_11])), (a_14, .inl (cy 1, 70, .inl f_2)), (a_15, .inl (cy 1, 7, .inl f_3)), (a_16, .inl (cy 1, 4, .inl f_4)), (a_17, .inl (cy 1, 4, .inl f_5))] H → va_D A [(a_1, .inr (10, [.ref a_2, .ref a_3])), (a_2, .inr (0, [.int i_0, .int i_1, .int i_2, .int i_3, .int i_4, .int i_5, .int i_6, .int i_7, .ref a_4, .ref a_5, .ref a_6, .ref a_7, .ref a_8, .ref a_9, .ref a_10, .ref a_11, .ref a_12, .ref a_13])), (a_4, .inl (cy 1, 9, .inl f_0)), (a_5, .inl (cy 1, 9, .inl f_1)), (a_0, .inr (4, [.ref a_1, .ref a_14, .ref a_15, .ref a_16, .ref a_17, .int i_8, .int i_9, .int i_10, .int i_11])), (a_14, .inl (cy 1, 70, .inl f_2)), (a_15, .inl (cy 1, 7, .inl f_3)), (a_16, .inl (cy 1, 4, .inl f_4)), (a_17, .inl (cy 1, 4, .inl f_5))] → va_S A s.heap H locs → ∀ (ls : Array Slot), lv_has ls 4 [(2, .int x4_2_18544), (1, .int x4_1_18545), (0, .ref a_0)] → W p l e R s m args below meth c H locs 0 0 Q (F0 m 4 ls []) := by
    intro n
    induction n with
    | zero => intro x4_2_18544 x4_1_18545 rx4_2_18544 hm; exact absurd hm (Nat.not_lt_zero _)
    | succ n ih4 =>
      intro x4_2_18544 x4_1_18545 rx4_2_18544 hm4 H locs hP hD hS ls hl
      refine lv_iload_n hx hb dX4_tryAll_4 rfl (lv_at hl 0 rfl) ?_
      refine lv_aload_n hx hb dX4_tryAll_5 rfl (lv_at hl 2 rfl) ?_
      refine va_get (D := G) (ci := 4) (v := .int i_10) (C := RX4) (T := TX4) (N := 9) hx hb hts (mm_i inlX4) hown hK.1 hP 4 rfl rfl 7 (by decide) (mm_h hts mm_w1362) (fun _ h9 => h9) rfl dX4_tryAll_6 ?_
      refine lv_icmp_ge (tgt := 31) hx hb dX4_tryAll_9 (by decide) (fun c18547 => ?_) (fun c18547 => ?_)
      · refine lv_iconst (v := 0) hx hb dX4_tryAll_31 (by decide) ?_
        refine lv_istore_n (lv' := [(2, .int 0), (1, .int x4_1_18545), (0, .ref a_0)]) hx hb dX4_tryAll_32 rfl hl (by decide) rfl ?_
        clear hl
        clear ls
        intro ls hl
        have L33_22061 : ∀ (n : Nat) (x33_2_22057 : Int32) (y33_4_8_22058 : Int32) (z33_6_22059 : Nat → Int32) (z33_7_22060 : Nat → Int32) (z33_8_22061 : Nat → Int32), mm_rg x33_2_22057 0 2147483647 → mm_ar z33_7_22060 0 9 → (2147483647 - x33_2_22057.toInt).toNat < n → ∀ (H : Heap) (locs : List Loc), va_P G vwCl [(a_1, .inr (10, [.ref a_2, .ref a_3])), (a_2, .inr (0, [.int i_0, .int i_1, .int i_2, .int i_3, .int i_4, .int i_5, .int i_6, .int i_7, .ref a_4, .ref a_5, .ref a_6, .ref a_7, .ref a_8, .ref a_9, .ref a_10, .ref a_11, .ref a_12, .ref a_13])), (a_4, .inl (cy 1, 9, .inl f_0)), (a_5, .inl (cy 1, 9, .inl f_1)), (a_0, .inr (4, [.ref a_1, .ref a_14, .ref a_15, .ref a_16, .ref a_17, .int i_8, .int i_9, .int i_10, .int y33_4_8_22058])), (a_14, .inl (cy 1, 70, .inl f_2)), (a_15, .inl (cy 1, 7, .inl z33_6_22059)), (a_16, .inl (cy 1, 4, .inl z33_7_22060)), (a_17, .inl (cy 1, 4, .inl z33_8_22061))] H → va_D A [(a_1, .inr (10, [.ref a_2, .ref a_3])), (a_2, .inr (0, [.int i_0, .int i_1, .int i_2, .int i_3, .int i_4, .int i_5, .int i_6, .int i_7, .ref a_4, .ref a_5, .ref a_6, .ref a_7, .ref a_8, .ref a_9, .ref a_10, .ref a_11, .ref a_12, .ref a_13])), (a_4, .inl (cy 1, 9, .inl f_0)), (a_5, .inl (cy 1, 9, .inl f_1)), (a_0, .inr (4, [.ref a_1, .ref a_14, .ref a_15, .ref a_16, .ref a_17, .int i_8, .int i_9, .int i_10, .int y33_4_8_22058])), (a_14, .inl (cy 1, 70, .inl f_2)), (a_15, .inl (cy 1, 7, .inl z33_6_22059)), (a_16, .inl (cy 1, 4, .inl z33_7_22060)), (a_17, .inl (cy 1, 4, .inl z33_8_22061))] → va_S A s.heap H locs → ∀ (ls : Array Slot), lv_has ls 4 [(2, .int x33_2_22057), (1, .int x4_1_18545), (0, .ref a_0)] → W p l e R s m args below meth c H locs 0 0 Q (F0 m 33 ls []) := by
          intro n
          induction n with
          | zero => intro x33_2_22057 y33_4_8_22058 z33_6_22059 z33_7_22060 z33_8_22061 rx33_2_22057 rz33_7_22060 hm; exact absurd hm (Nat.not_lt_zero _)
          | succ n ih33 =>
            intro x33_2_22057 y33_4_8_22058 z33_6_22059 z33_7_22060 z33_8_22061 rx33_2_22057 rz33_7_22060 hm33 H locs hP hD hS ls hl
            refine lv_iload_n hx hb dX4_tryAll_33 rfl (lv_at hl 0 rfl) ?_
            refine lv_iload_n hx hb dX4_tryAll_34 rfl (lv_at hl 1 rfl) ?_
            refine lv_icmp_ge (tgt := 88) hx hb dX4_tryAll_35 (by decide) (fun c22063 => ?_) (fun c22063 => ?_)
            · subst hAe
              rw [hQ]
              exact W.vret hx hb hr (fun t ht hW => ⟨⟨(y33_4_8_22058, z33_6_22059, z33_7_22060, z33_8_22061), rfl, rz33_7_22060, by rw [ht]; exact hP, hK.warm hW, hD⟩, hS.F ht⟩) hS.2.2 dX4_tryAll_88
            · have q22064 := mm_ltL (h := 2147483646) (mm_nle c22063) rx33_2_22057 (mm_top x4_1_18545) (by decide)
              have q22065 := mm_ltR (lo := 1) (mm_nle c22063) rx33_2_22057 (mm_top x4_1_18545) (by decide)
              refine lv_aload_n hx hb dX4_tryAll_38 rfl (lv_at hl 2 rfl) ?_
              refine lv_iload_n hx hb dX4_tryAll_39 rfl (lv_at hl 0 rfl) ?_
              refine mm_finv (va_runV (As := [.int x33_2_22057]) (rest := []) ⟨hx, hb, hml, hown, hts⟩ (K473_X4_spell l G cy H.size a_0 x33_2_22057 a_1 a_2 a_3 i_0 i_1 i_2 i_3 i_4 i_5 i_6 i_7 a_4 a_5 a_6 a_7 a_8 a_9 a_10 a_11 a_12 a_13 a_14 a_15 a_16 a_17 i_8 i_9 i_10 y33_4_8_22058 z33_7_22060 (mm_wk q22064 (by decide)) h1 h5 rz33_7_22060) (cwV 1 hts (mm_gV mm_w1371 mm_w1372 mm_w1373 mm_w45 mm_w1374) rfl rfl rfl hd_X4_spell ⟨by rw [hRf]; exact Nat.le_of_ble_eq_true rfl, by rw [hRl]; exact Nat.le_of_ble_eq_true rfl⟩) (mm_preV hK hZ hS hA hP hD [0, 1, 4, 7] rfl rfl 4 rfl rfl rfl) rfl rfl hl.1 rfl (lv_room (Nat.le_of_ble_eq_true rfl)) dX4_tryAll_40 ⟨by rw [hRc]; exact Nat.le_of_ble_eq_true rfl, by rw [hRs]; exact Nat.le_of_ble_eq_true rfl⟩) hP hD hS hA (fun u : (Nat → Int32) => [(a_1, .inr (10, [.ref a_2, .ref a_3])), (a_2, .inr (0, [.int i_0, .int i_1, .int i_2, .int i_3, .int i_4, .int i_5, .int i_6, .int i_7, .ref a_4, .ref a_5, .ref a_6, .ref a_7, .ref a_8, .ref a_9, .ref a_10, .ref a_11, .ref a_12, .ref a_13])), (a_4, .inl (cy 1, 9, .inl f_0)), (a_5, .inl (cy 1, 9, .inl f_1)), (a_0, .inr (4, [.ref a_1, .ref a_14, .ref a_15, .ref a_16, .ref a_17, .int i_8, .int i_9, .int i_10, .int y33_4_8_22058])), (a_14, .inl (cy 1, 70, .inl f_2)), (a_15, .inl (cy 1, 7, .inl z33_6_22059)), (a_16, .inl (cy 1, 4, .inl u)), (a_17, .inl (cy 1, 4, .inl z33_8_22061))]) [0, 1, 4, 7] [2, 3, 5, 6, 8] (n := 9) (fun _ => rfl) (by decide +kernel) (by decide +kernel) rfl (fun _ => rfl) (wr := [(a_4, .inl (cy 1, 9, .inl f_0)), (a_5, .inl (cy 1, 9, .inl f_1)), (a_14, .inl (cy 1, 70, .inl f_2)), (a_15, .inl (cy 1, 7, .inl z33_6_22059)), (a_17, .inl (cy 1, 4, .inl z33_8_22061))]) rfl (fun _ => rfl) (fun _ => rfl) ?_
              clear hP hD hS
              clear H locs
              intro n22066 H locs hw (hP : va_P G vwCl [(a_1, .inr (10, [.ref a_2, .ref a_3])), (a_2, .inr (0, [.int i_0, .int i_1, .int i_2, .int i_3, .int i_4, .int i_5, .int i_6, .int i_7, .ref a_4, .ref a_5, .ref a_6, .ref a_7, .ref a_8, .ref a_9, .ref a_10, .ref a_11, .ref a_12, .ref a_13])), (a_4, .inl (cy 1, 9, .inl f_0)), (a_5, .inl (cy 1, 9, .inl f_1)), (a_0, .inr (4, [.ref a_1, .ref a_14, .ref a_15, .ref a_16, .ref a_17, .int i_8, .int i_9, .int i_10, .int y33_4_8_22058])), (a_14, .inl (cy 1, 70, .inl f_2)), (a_15, .inl (cy 1, 7, .inl z33_6_22059)), (a_16, .inl (cy 1, 4, .inl n22066)), (a_17, .inl (cy 1, 4, .inl z33_8_22061))] H) (hD : va_D A [(a_1, .inr (10, [.ref a_2, .ref a_3])), (a_2, .inr (0, [.int i_0, .int i_1, .int i_2, .int i_3, .int i_4, .int i_5, .int i_6, .int i_7, .ref a_4, .ref a_5, .ref a_6, .ref a_7, .ref a_8, .ref a_9, .ref a_10, .ref a_11, .ref a_12, .ref a_13])), (a_4, .inl (cy 1, 9, .inl f_0)), (a_5, .inl (cy 1, 9, .inl f_1)), (a_0, .inr (4, [.ref a_1, .ref a_14, .ref a_15, .ref a_16, .ref a_17, .int i_8, .int i_9, .int i_10, .int y33_4_8_22058])), (a_14, .inl (cy 1, 70, .inl f_2)), (a_15, .inl (cy 1, 7, .inl z33_6_22059)), (a_16, .inl (cy 1, 4, .inl n22066)), (a_17, .inl (cy 1, 4, .inl z33_8_22061))]) hS
              have w22067 := hw
              refine lv_aload_n hx hb dX4_tryAll_43 rfl (lv_at hl 2 rfl) ?_
              refine mm_finv (va_runV (As := []) (rest := []) ⟨hx, hb, hml, hown, hts⟩ (K474_X4_readBeginning l G cy H.size a_0 a_1 a_2 a_3 i_0 i_1 i_2 i_3 i_4 i_5 i_6 i_7 a_4 a_5 a_6 a_7 a_8 a_9 a_10 a_11 a_12 a_13 f_0 f_1 a_14 a_15 a_16 a_17 i_8 i_9 i_10 y33_4_8_22058 f_2 z33_6_22059 n22066 h0 h1 h2 h3 h4 h5 h6 w22067) (cwV 0 hts (mm_gV mm_w1376 mm_w1377 mm_w1378 mm_w45 mm_w1379) rfl rfl rfl hd_X4_readBeginning ⟨by rw [hRf]; exact Nat.le_of_ble_eq_true rfl, by rw [hRl]; exact Nat.le_of_ble_eq_true rfl⟩) (mm_preV hK hZ hS hA hP hD [0, 1, 2, 3, 4, 5, 6, 7] rfl rfl 4 rfl rfl rfl) rfl rfl hl.1 rfl (lv_room (Nat.le_of_ble_eq_true rfl)) dX4_tryAll_44 ⟨by rw [hRc]; exact Nat.le_of_ble_eq_true rfl, by rw [hRs]; exact Nat.le_of_ble_eq_true rfl⟩) hP hD hS hA (fun u : (Nat → Int32) => [(a_1, .inr (10, [.ref a_2, .ref a_3])), (a_2, .inr (0, [.int i_0, .int i_1, .int i_2, .int i_3, .int i_4, .int i_5, .int i_6, .int i_7, .ref a_4, .ref a_5, .ref a_6, .ref a_7, .ref a_8, .ref a_9, .ref a_10, .ref a_11, .ref a_12, .ref a_13])), (a_4, .inl (cy 1, 9, .inl f_0)), (a_5, .inl (cy 1, 9, .inl f_1)), (a_0, .inr (4, [.ref a_1, .ref a_14, .ref a_15, .ref a_16, .ref a_17, .int i_8, .int i_9, .int i_10, .int y33_4_8_22058])), (a_14, .inl (cy 1, 70, .inl f_2)), (a_15, .inl (cy 1, 7, .inl u)), (a_16, .inl (cy 1, 4, .inl n22066)), (a_17, .inl (cy 1, 4, .inl z33_8_22061))]) [0, 1, 2, 3, 4, 5, 6, 7] [8] (n := 9) (fun _ => rfl) (by decide +kernel) (by decide +kernel) rfl (fun _ => rfl) (wr := [(a_17, .inl (cy 1, 4, .inl z33_8_22061))]) rfl (fun _ => rfl) (fun _ => rfl) ?_
              clear hP hD hS
              clear H locs
              intro n22068 H locs hw (hP : va_P G vwCl [(a_1, .inr (10, [.ref a_2, .ref a_3])), (a_2, .inr (0, [.int i_0, .int i_1, .int i_2, .int i_3, .int i_4, .int i_5, .int i_6, .int i_7, .ref a_4, .ref a_5, .ref a_6, .ref a_7, .ref a_8, .ref a_9, .ref a_10, .ref a_11, .ref a_12, .ref a_13])), (a_4, .inl (cy 1, 9, .inl f_0)), (a_5, .inl (cy 1, 9, .inl f_1)), (a_0, .inr (4, [.ref a_1, .ref a_14, .ref a_15, .ref a_16, .ref a_17, .int i_8, .int i_9, .int i_10, .int y33_4_8_22058])), (a_14, .inl (cy 1, 70, .inl f_2)), (a_15, .inl (cy 1, 7, .inl n22068)), (a_16, .inl (cy 1, 4, .inl n22066)), (a_17, .inl (cy 1, 4, .inl z33_8_22061))] H) (hD : va_D A [(a_1, .inr (10, [.ref a_2, .ref a_3])), (a_2, .inr (0, [.int i_0, .int i_1, .int i_2, .int i_3, .int i_4, .int i_5, .int i_6, .int i_7, .ref a_4, .ref a_5, .ref a_6, .ref a_7, .ref a_8, .ref a_9, .ref a_10, .ref a_11, .ref a_12, .ref a_13])), (a_4, .inl (cy 1, 9, .inl f_0)), (a_5, .inl (cy 1, 9, .inl f_1)), (a_0, .inr (4, [.ref a_1, .ref a_14, .ref a_15, .ref a_16, .ref a_17, .int i_8, .int i_9, .int i_10, .int y33_4_8_22058])), (a_14, .inl (cy 1, 70, .inl f_2)), (a_15, .inl (cy 1, 7, .inl n22068)), (a_16, .inl (cy 1, 4, .inl n22066)), (a_17, .inl (cy 1, 4, .inl z33_8_22061))]) hS
              refine lv_iconst (v := 0) hx hb dX4_tryAll_47 (by decide) ?_
              refine lv_istore_n (lv' := [(3, .int 0), (2, .int x33_2_22057), (1, .int x4_1_18545), (0, .ref a_0)]) hx hb dX4_tryAll_48 rfl hl (by decide) rfl ?_
              clear hl
              clear ls
              intro ls hl
              have L49_22209 : ∀ (n : Nat) (x49_3_22207 : Int32) (y49_4_8_22208 : Int32) (z49_8_22209 : Nat → Int32), mm_rg x49_3_22207 0 10 → (10 - x49_3_22207.toInt).toNat < n → ∀ (H : Heap) (locs : List Loc), va_P G vwCl [(a_1, .inr (10, [.ref a_2, .ref a_3])), (a_2, .inr (0, [.int i_0, .int i_1, .int i_2, .int i_3, .int i_4, .int i_5, .int i_6, .int i_7, .ref a_4, .ref a_5, .ref a_6, .ref a_7, .ref a_8, .ref a_9, .ref a_10, .ref a_11, .ref a_12, .ref a_13])), (a_4, .inl (cy 1, 9, .inl f_0)), (a_5, .inl (cy 1, 9, .inl f_1)), (a_0, .inr (4, [.ref a_1, .ref a_14, .ref a_15, .ref a_16, .ref a_17, .int i_8, .int i_9, .int i_10, .int y49_4_8_22208])), (a_14, .inl (cy 1, 70, .inl f_2)), (a_15, .inl (cy 1, 7, .inl n22068)), (a_16, .inl (cy 1, 4, .inl n22066)), (a_17, .inl (cy 1, 4, .inl z49_8_22209))] H → va_D A [(a_1, .inr (10, [.ref a_2, .ref a_3])), (a_2, .inr (0, [.int i_0, .int i_1, .int i_2, .int i_3, .int i_4, .int i_5, .int i_6, .int i_7, .ref a_4, .ref a_5, .ref a_6, .ref a_7, .ref a_8, .ref a_9, .ref a_10, .ref a_11, .ref a_12, .ref a_13])), (a_4, .inl (cy 1, 9, .inl f_0)), (a_5, .inl (cy 1, 9, .inl f_1)), (a_0, .inr (4, [.ref a_1, .ref a_14, .ref a_15, .ref a_16, .ref a_17, .int i_8, .int i_9, .int i_10, .int y49_4_8_22208])), (a_14, .inl (cy 1, 70, .inl f_2)), (a_15, .inl (cy 1, 7, .inl n22068)), (a_16, .inl (cy 1, 4, .inl n22066)), (a_17, .inl (cy 1, 4, .inl z49_8_22209))] → va_S A s.heap H locs → ∀ (ls : Array Slot), lv_has ls 4 [(3, .int x49_3_22207), (2, .int x33_2_22057), (1, .int x4_1_18545), (0, .ref a_0)] → W p l e R s m args below meth c H locs 0 0 Q (F0 m 49 ls []) := by
                intro n
                induction n with
                | zero => intro x49_3_22207 y49_4_8_22208 z49_8_22209 rx49_3_22207 hm; exact absurd hm (Nat.not_lt_zero _)
                | succ n ih49 =>
                  intro x49_3_22207 y49_4_8_22208 z49_8_22209 rx49_3_22207 hm49 H locs hP hD hS ls hl
                  refine lv_iload_n hx hb dX4_tryAll_49 rfl (lv_at hl 0 rfl) ?_
                  refine lv_aload_n hx hb dX4_tryAll_50 rfl (lv_at hl 3 rfl) ?_
                  refine va_get (D := G) (ci := 4) (v := .ref a_1) (C := RX4) (T := TX4) (N := 9) hx hb hts (mm_i inlX4) hown hK.1 hP 4 rfl rfl 0 (by decide) (mm_h hts mm_w124) (fun _ h9 => h9) rfl dX4_tryAll_51 ?_
                  refine va_get (D := G) (ci := 10) (v := .ref a_2) (C := RX10) (T := TX10) (N := 2) hx hb hts (mm_i inlX10) hown hK.1 hP 0 rfl rfl 0 (by decide) (mm_h hts mm_w1363) (fun _ h9 => h9) rfl dX4_tryAll_54 ?_
                  refine va_get (D := G) (ci := 0) (v := .int i_4) (C := RX0) (T := TX0) (N := 18) hx hb hts (mm_i inlX0) hown hK.1 hP 1 rfl rfl 4 (by decide) (mm_h hts mm_w1364) (fun _ h9 => h9) rfl dX4_tryAll_57 ?_
                  refine lv_icmp_gt (tgt := 82) hx hb dX4_tryAll_60 (by decide) (fun c22211 => ?_) (fun c22211 => ?_)
                  · have q22212 := mm_ltR (lo := 1) (mm_lt c22211) h1 rx49_3_22207 (by decide)
                    obtain ⟨v22213, ev22213⟩ : ∃ y : Int32, y = x33_2_22057 + 1 := ⟨_, rfl⟩
                    refine lv_iinc (v := v22213) (lv' := [(2, .int v22213), (3, .int x49_3_22207), (1, .int x4_1_18545), (0, .ref a_0)]) hx hb dX4_tryAll_82 hl (k := 1) rfl (by rw [ev22213]; rfl) (by decide) rfl ?_
                    clear hl
                    clear ls
                    intro ls hl
                    have rv22213 : mm_rg v22213 1 2147483647 := mm_add ev22213 q22064 mm_k1 (by decide) (by decide)
                    have tv22213 := mm_addEc ev22213 q22064 mm_k1 (by decide) (k := 1) (by decide)
                    refine lv_goto (tgt := 33) hx hb dX4_tryAll_85 (by decide) ?_
                    exact ih33 v22213 y49_4_8_22208 n22068 n22066 z49_8_22209 (mm_wk rv22213 (by decide)) w22067 (mm_mu hm33 tv22213 (by decide) (rv22213).2 (by decide)) H locs hP hD hS ls (lv_sub hl [0, 2, 3] rfl)
                  · have q22214 := mm_leL (mm_nlt c22211) rx49_3_22207 h1
                    refine lv_aload_n hx hb dX4_tryAll_63 rfl (lv_at hl 3 rfl) ?_
                    refine lv_iload_n hx hb dX4_tryAll_64 rfl (lv_at hl 0 rfl) ?_
                    refine mm_finir (va_runV (As := [.int x49_3_22207]) (rest := []) ⟨hx, hb, hml, hown, hts⟩ (K462_X4_leavesWanted l G cy H.size a_0 x49_3_22207 a_1 a_2 a_3 i_0 i_1 i_2 i_3 i_4 i_5 i_6 i_7 a_4 a_5 a_6 a_7 a_8 a_9 a_10 a_11 a_12 a_13 f_0 f_1 a_14 a_15 a_16 a_17 i_8 i_9 i_10 y49_4_8_22208 f_2 n22068 q22214 h1 h2 h3 h4 h6) (cwV 1 hts (mm_gV mm_w1382 mm_w1383 mm_w1384 mm_w45 mm_w1385) rfl rfl rfl hd_X4_leavesWanted ⟨by rw [hRf]; exact Nat.le_of_ble_eq_true rfl, by rw [hRl]; exact Nat.le_of_ble_eq_true rfl⟩) (mm_preV hK hZ hS hA hP hD [0, 1, 2, 3, 4, 5, 6] rfl rfl 4 rfl rfl rfl) rfl rfl hl.1 rfl (lv_room (Nat.le_of_ble_eq_true rfl)) dX4_tryAll_65 ⟨by rw [hRc]; exact Nat.le_of_ble_eq_true rfl, by rw [hRs]; exact Nat.le_of_ble_eq_true rfl⟩) hP hD hS hA [0, 1, 2, 3, 4, 5, 6] rfl (fun _ => rfl) ?_
                    clear hP hD hS
                    clear H locs
                    intro v22215 _u H locs hw hP hD hS
                    rcases hw with rfl | rfl
                    · refine lv_if_eq (tgt := 76) hx hb dX4_tryAll_68 (by decide) (fun c22216 => ?_) (fun c22216 => ?_)
                      · obtain ⟨v22217, ev22217⟩ : ∃ y : Int32, y = x49_3_22207 + 1 := ⟨_, rfl⟩
                        refine lv_iinc (v := v22217) (lv' := [(3, .int v22217), (2, .int x33_2_22057), (1, .int x4_1_18545), (0, .ref a_0)]) hx hb dX4_tryAll_76 hl (k := 0) rfl (by rw [ev22217]; rfl) (by decide) rfl ?_
                        clear hl
                        clear ls
                        intro ls hl
                        have rv22217 : mm_rg v22217 1 10 := mm_add ev22217 q22214 mm_k1 (by decide) (by decide)
                        have tv22217 := mm_addEc ev22217 q22214 mm_k1 (by decide) (k := 1) (by decide)
                        refine lv_goto (tgt := 49) hx hb dX4_tryAll_79 (by decide) ?_
                        exact ih49 v22217 y49_4_8_22208 z49_8_22209 (mm_wk rv22217 (by decide)) (mm_mu hm49 tv22217 (by decide) (rv22217).2 (by decide)) H locs hP hD hS ls (lv_sub hl [0, 1, 2, 3] rfl)
                      · have q22218 := mm_neL (lo := 1) (mm_ne c22216) mm_k0 mm_k0 (by decide) (by decide)
                        exact mm_no q22218 (by decide)
                    · refine lv_if_eq (tgt := 76) hx hb dX4_tryAll_68 (by decide) (fun c22219 => ?_) (fun c22219 => ?_)
                      · exact mm_eqN c22219.symm mm_k0 mm_k1 (by decide)
                      · refine lv_aload_n hx hb dX4_tryAll_71 rfl (lv_at hl 3 rfl) ?_
                        refine lv_iload_n hx hb dX4_tryAll_72 rfl (lv_at hl 0 rfl) ?_
                        refine mm_finv (va_runV (As := [.int x49_3_22207]) (rest := []) ⟨hx, hb, hml, hown, hts⟩ (K475_X4_keep l G cy H.size a_0 x49_3_22207 a_1 a_14 a_15 a_16 a_17 i_8 i_9 i_10 y49_4_8_22208 n22066 z49_8_22209 q22214 h5 w22067) (cwV 1 hts (mm_gV mm_w1386 mm_w1387 mm_w1388 mm_w45 mm_w1389) rfl rfl rfl hd_X4_keep ⟨by rw [hRf]; exact Nat.le_of_ble_eq_true rfl, by rw [hRl]; exact Nat.le_of_ble_eq_true rfl⟩) (mm_preV hK hZ hS hA hP hD [4, 7, 8] rfl rfl 4 rfl rfl rfl) rfl rfl hl.1 rfl (lv_room (Nat.le_of_ble_eq_true rfl)) dX4_tryAll_73 ⟨by rw [hRc]; exact Nat.le_of_ble_eq_true rfl, by rw [hRs]; exact Nat.le_of_ble_eq_true rfl⟩) hP hD hS hA (fun u : Int32 × (Nat → Int32) => [(a_1, .inr (10, [.ref a_2, .ref a_3])), (a_2, .inr (0, [.int i_0, .int i_1, .int i_2, .int i_3, .int i_4, .int i_5, .int i_6, .int i_7, .ref a_4, .ref a_5, .ref a_6, .ref a_7, .ref a_8, .ref a_9, .ref a_10, .ref a_11, .ref a_12, .ref a_13])), (a_4, .inl (cy 1, 9, .inl f_0)), (a_5, .inl (cy 1, 9, .inl f_1)), (a_0, .inr (4, [.ref a_1, .ref a_14, .ref a_15, .ref a_16, .ref a_17, .int i_8, .int i_9, .int i_10, .int u.1])), (a_14, .inl (cy 1, 70, .inl f_2)), (a_15, .inl (cy 1, 7, .inl n22068)), (a_16, .inl (cy 1, 4, .inl n22066)), (a_17, .inl (cy 1, 4, .inl u.2))]) [4, 7, 8] [0, 1, 2, 3, 5, 6] (n := 9) (fun _ => rfl) (by decide +kernel) (by decide +kernel) rfl (fun _ => rfl) (wr := [(a_1, .inr (10, [.ref a_2, .ref a_3])), (a_2, .inr (0, [.int i_0, .int i_1, .int i_2, .int i_3, .int i_4, .int i_5, .int i_6, .int i_7, .ref a_4, .ref a_5, .ref a_6, .ref a_7, .ref a_8, .ref a_9, .ref a_10, .ref a_11, .ref a_12, .ref a_13])), (a_4, .inl (cy 1, 9, .inl f_0)), (a_5, .inl (cy 1, 9, .inl f_1)), (a_14, .inl (cy 1, 70, .inl f_2)), (a_15, .inl (cy 1, 7, .inl n22068))]) rfl (fun _ => rfl) (fun _ => rfl) ?_
                        clear hP hD hS
                        clear H locs
                        intro u
                        obtain ⟨n22220, n22221⟩ := u
                        intro H locs hw (hP : va_P G vwCl [(a_1, .inr (10, [.ref a_2, .ref a_3])), (a_2, .inr (0, [.int i_0, .int i_1, .int i_2, .int i_3, .int i_4, .int i_5, .int i_6, .int i_7, .ref a_4, .ref a_5, .ref a_6, .ref a_7, .ref a_8, .ref a_9, .ref a_10, .ref a_11, .ref a_12, .ref a_13])), (a_4, .inl (cy 1, 9, .inl f_0)), (a_5, .inl (cy 1, 9, .inl f_1)), (a_0, .inr (4, [.ref a_1, .ref a_14, .ref a_15, .ref a_16, .ref a_17, .int i_8, .int i_9, .int i_10, .int n22220])), (a_14, .inl (cy 1, 70, .inl f_2)), (a_15, .inl (cy 1, 7, .inl n22068)), (a_16, .inl (cy 1, 4, .inl n22066)), (a_17, .inl (cy 1, 4, .inl n22221))] H) (hD : va_D A [(a_1, .inr (10, [.ref a_2, .ref a_3])), (a_2, .inr (0, [.int i_0, .int i_1, .int i_2, .int i_3, .int i_4, .int i_5, .int i_6, .int i_7, .ref a_4, .ref a_5, .ref a_6, .ref a_7, .ref a_8, .ref a_9, .ref a_10, .ref a_11, .ref a_12, .ref a_13])), (a_4, .inl (cy 1, 9, .inl f_0)), (a_5, .inl (cy 1, 9, .inl f_1)), (a_0, .inr (4, [.ref a_1, .ref a_14, .ref a_15, .ref a_16, .ref a_17, .int i_8, .int i_9, .int i_10, .int n22220])), (a_14, .inl (cy 1, 70, .inl f_2)), (a_15, .inl (cy 1, 7, .inl n22068)), (a_16, .inl (cy 1, 4, .inl n22066)), (a_17, .inl (cy 1, 4, .inl n22221))]) hS
                        obtain ⟨v22222, ev22222⟩ : ∃ y : Int32, y = x49_3_22207 + 1 := ⟨_, rfl⟩
                        refine lv_iinc (v := v22222) (lv' := [(3, .int v22222), (2, .int x33_2_22057), (1, .int x4_1_18545), (0, .ref a_0)]) hx hb dX4_tryAll_76 hl (k := 0) rfl (by rw [ev22222]; rfl) (by decide) rfl ?_
                        clear hl
                        clear ls
                        intro ls hl
                        have rv22222 : mm_rg v22222 1 10 := mm_add ev22222 q22214 mm_k1 (by decide) (by decide)
                        have tv22222 := mm_addEc ev22222 q22214 mm_k1 (by decide) (k := 1) (by decide)
                        refine lv_goto (tgt := 49) hx hb dX4_tryAll_79 (by decide) ?_
                        exact ih49 v22222 n22220 n22221 (mm_wk rv22222 (by decide)) (mm_mu hm49 tv22222 (by decide) (rv22222).2 (by decide)) H locs hP hD hS ls (lv_sub hl [0, 1, 2, 3] rfl)
              exact L49_22209 _ 0 y33_4_8_22058 z33_8_22061 (mm_wk mm_k0 (by decide)) (Nat.lt_succ_self _) H locs hP hD hS ls (lv_sub hl [0, 1, 2, 3] rfl)
        exact L33_22061 _ 0 i_11 f_3 f_4 f_5 (mm_wk mm_k0 (by decide)) h7 (Nat.lt_succ_self _) H locs hP hD hS ls (lv_sub hl [0, 1, 2] rfl)
      · have q22223 := mm_ltL (h := 3) (mm_nle c18547) rx4_2_18544 h5 (by decide)
        have q22224 := mm_ltR (lo := 2) (mm_nle c18547) rx4_2_18544 h5 (by decide)
        refine lv_iload_n hx hb dX4_tryAll_12 rfl (lv_at hl 1 rfl) ?_
        refine lv_aload_n hx hb dX4_tryAll_13 rfl (lv_at hl 2 rfl) ?_
        refine va_get (D := G) (ci := 4) (v := .ref a_1) (C := RX4) (T := TX4) (N := 9) hx hb hts (mm_i inlX4) hown hK.1 hP 4 rfl rfl 0 (by decide) (mm_h hts mm_w124) (fun _ h9 => h9) rfl dX4_tryAll_14 ?_
        refine va_get (D := G) (ci := 10) (v := .ref a_2) (C := RX10) (T := TX10) (N := 2) hx hb hts (mm_i inlX10) hown hK.1 hP 0 rfl rfl 0 (by decide) (mm_h hts mm_w1363) (fun _ h9 => h9) rfl dX4_tryAll_17 ?_
        refine mm_finir (va_runV (As := []) (rest := [.int x4_1_18545]) ⟨hx, hb, hml, hown, hts⟩ (K107_X0_wordCount l G cy H.size a_2 i_0 i_1 i_2 i_3 i_4 i_5 i_6 i_7 a_4 a_5 a_6 a_7 a_8 a_9 a_10 a_11 a_12 a_13 h1) (cwV 0 hts (mm_gV mm_w1370 mm_w349 mm_w350 mm_w28 mm_w351) rfl rfl rfl hd_X0_wordCount ⟨by rw [hRf]; exact Nat.le_of_ble_eq_true rfl, by rw [hRl]; exact Nat.le_of_ble_eq_true rfl⟩) (mm_preV hK hZ hS hA hP hD [1] rfl rfl 1 rfl rfl rfl) rfl rfl hl.1 rfl (lv_room (Nat.le_of_ble_eq_true rfl)) dX4_tryAll_20 ⟨by rw [hRc]; exact Nat.le_of_ble_eq_true rfl, by rw [hRs]; exact Nat.le_of_ble_eq_true rfl⟩) hP hD hS hA [1] rfl (fun _ => rfl) ?_
        clear hP hD hS
        clear H locs
        intro v22225 _u H locs hw hP hD hS
        have w22226 := hw
        refine lv_imul hx hb dX4_tryAll_23 ?_
        refine lv_topi (fun v22227 ev22227 => ?_)
        refine lv_istore_n (lv' := [(1, .int v22227), (2, .int x4_2_18544), (0, .ref a_0)]) hx hb dX4_tryAll_24 rfl hl (by decide) rfl ?_
        clear hl
        clear ls
        intro ls hl
        obtain ⟨v22228, ev22228⟩ : ∃ y : Int32, y = x4_2_18544 + 1 := ⟨_, rfl⟩
        refine lv_iinc (v := v22228) (lv' := [(2, .int v22228), (1, .int v22227), (0, .ref a_0)]) hx hb dX4_tryAll_25 hl (k := 1) rfl (by rw [ev22228]; rfl) (by decide) rfl ?_
        clear hl
        clear ls
        intro ls hl
        have rv22228 : mm_rg v22228 2 4 := mm_add ev22228 q22223 mm_k1 (by decide) (by decide)
        have tv22228 := mm_addEc ev22228 q22223 mm_k1 (by decide) (k := 1) (by decide)
        refine lv_goto (tgt := 4) hx hb dX4_tryAll_28 (by decide) ?_
        exact ih4 v22228 v22227 (mm_wk rv22228 (by decide)) (mm_mu hm4 tv22228 (by decide) (rv22228).2 (by decide)) H locs hP hD hS ls (lv_sub hl [0, 1, 2] rfl)
  exact L4_18545 _ 1 1 (mm_wk mm_k1 (by decide)) (Nat.lt_succ_self _) H locs hP hD hS ls (lv_sub hl [0, 1, 2] rfl)

set_option maxHeartbeats 4000000 in
set_option maxRecDepth 100000 in
theorem K477_X4_seek (l : Launch) (G : va_G) (cy : Nat → ClassId) (sz : Nat) (a_0 : Nat) (i_0 : Int32) (i_1 : Int32) (i_2 : Int32) (i_3 : Int32) (a_1 : Nat) (a_2 : Nat) (a_3 : Nat) (i_4 : Int32) (i_5 : Int32) (i_6 : Int32) (i_7 : Int32) (i_8 : Int32) (i_9 : Int32) (i_10 : Int32) (i_11 : Int32) (a_4 : Nat) (a_5 : Nat) (a_6 : Nat) (a_7 : Nat) (a_8 : Nat) (a_9 : Nat) (a_10 : Nat) (a_11 : Nat) (a_12 : Nat) (a_13 : Nat) (f_0 : Nat → Int32) (f_1 : Nat → Int32) (f_2 : Nat → Int32) (a_14 : Nat) (a_15 : Nat) (a_16 : Nat) (a_17 : Nat) (a_18 : Nat) (i_12 : Int32) (i_13 : Int32) (i_14 : Int32) (f_3 : Nat → Int32) (a_19 : Nat) (a_20 : Nat) (i_15 : Int32) (i_16 : Int32) (i_17 : Int32) (f_4 : Nat → Int32) (a_21 : Nat) (a_22 : Nat) (i_18 : Int32) (i_19 : Int32) (i_20 : Int32) (f_5 : Nat → Int32) (a_23 : Nat) (a_24 : Nat) (a_25 : Nat) (a_26 : Nat) (i_21 : Int32) (i_22 : Int32) (i_23 : Int32) (i_24 : Int32) (f_6 : Nat → Int32) (f_7 : Nat → Int32) (f_8 : Nat → Int32) (f_9 : Nat → Int32) (h0 : mm_rg i_0 0 2) (h1 : mm_rg i_1 0 1000000001) (h2 : mm_rg i_2 1 7) (h3 : mm_rg i_3 0 9999) (h4 : mm_rg i_7 0 99) (h5 : mm_rg i_8 0 9) (h6 : mm_ar f_0 (-1) 4) (h7 : mm_ar f_1 0 99) (h8 : mm_ar f_2 0 9) (h9 : mm_rg i_14 (-2147483648) 210) (h10 : mm_ar f_3 0 9) (h11 : mm_rg i_17 (-2147483648) 210) (h12 : mm_ar f_4 0 9) (h13 : mm_rg i_20 (-2147483648) 210) (h14 : mm_ar f_5 0 9) (h15 : mm_rg i_21 0 7) (h16 : mm_rg i_23 0 4) (h17 : mm_ar f_6 0 9) (h18 : mm_ar f_8 0 9)  : mm_CV l yX4_seek (mm_ws yX4_seek cX4_seek 7 (none)) ({ frames := 4, cells := 0, slots := 0, locals := 108 } : Room) G cy sz [(a_1, .inr (10, [.ref a_2, .ref a_3])), (a_2, .inr (0, [.int i_4, .int i_5, .int i_6, .int i_7, .int i_8, .int i_9, .int i_10, .int i_11, .ref a_4, .ref a_5, .ref a_6, .ref a_7, .ref a_8, .ref a_9, .ref a_10, .ref a_11, .ref a_12, .ref a_13])), (a_4, .inl (cy 1, 9, .inl f_0)), (a_5, .inl (cy 1, 9, .inl f_1)), (a_10, .inl (cy 1, 30, .inl f_2)), (a_3, .inl (cy 5, 3, .inr (.inr (.inr (.inr (va_up (va_up (va_up (fun _ => none) 0 (some a_14)) 1 (some a_15)) 2 (some a_16))))))), (a_14, .inr (1, [.ref a_17, .ref a_18, .int i_12, .int i_13, .int i_14])), (a_17, .inl (cy 1, 2100, .inl f_3)), (a_15, .inr (1, [.ref a_19, .ref a_20, .int i_15, .int i_16, .int i_17])), (a_19, .inl (cy 1, 2100, .inl f_4)), (a_16, .inr (1, [.ref a_21, .ref a_22, .int i_18, .int i_19, .int i_20])), (a_21, .inl (cy 1, 2100, .inl f_5)), (a_0, .inr (4, [.ref a_1, .ref a_23, .ref a_24, .ref a_25, .ref a_26, .int i_21, .int i_22, .int i_23, .int i_24])), (a_23, .inl (cy 1, 70, .inl f_6)), (a_24, .inl (cy 1, 7, .inl f_7)), (a_25, .inl (cy 1, 4, .inl f_8)), (a_26, .inl (cy 1, 4, .inl f_9))] [.ref a_0, .int i_0, .int i_1, .int i_2, .int i_3] (fun u : Int32 × Int32 × Int32 × (Nat → Int32) × (Nat → Int32) × (Nat → Int32) × (Nat → Int32) => [(a_1, .inr (10, [.ref a_2, .ref a_3])), (a_2, .inr (0, [.int i_4, .int i_5, .int i_6, .int i_7, .int i_8, .int i_9, .int i_10, .int i_11, .ref a_4, .ref a_5, .ref a_6, .ref a_7, .ref a_8, .ref a_9, .ref a_10, .ref a_11, .ref a_12, .ref a_13])), (a_4, .inl (cy 1, 9, .inl f_0)), (a_5, .inl (cy 1, 9, .inl f_1)), (a_10, .inl (cy 1, 30, .inl f_2)), (a_3, .inl (cy 5, 3, .inr (.inr (.inr (.inr (va_up (va_up (va_up (fun _ => none) 0 (some a_14)) 1 (some a_15)) 2 (some a_16))))))), (a_14, .inr (1, [.ref a_17, .ref a_18, .int i_12, .int i_13, .int i_14])), (a_17, .inl (cy 1, 2100, .inl f_3)), (a_15, .inr (1, [.ref a_19, .ref a_20, .int i_15, .int i_16, .int i_17])), (a_19, .inl (cy 1, 2100, .inl f_4)), (a_16, .inr (1, [.ref a_21, .ref a_22, .int i_18, .int i_19, .int i_20])), (a_21, .inl (cy 1, 2100, .inl f_5)), (a_0, .inr (4, [.ref a_1, .ref a_23, .ref a_24, .ref a_25, .ref a_26, .int u.1, .int i_3, .int u.2.1, .int u.2.2.1])), (a_23, .inl (cy 1, 70, .inl u.2.2.2.1)), (a_24, .inl (cy 1, 7, .inl u.2.2.2.2.1)), (a_25, .inl (cy 1, 4, .inl u.2.2.2.2.2.1)), (a_26, .inl (cy 1, 4, .inl u.2.2.2.2.2.2))]) (fun u : Int32 × Int32 × Int32 × (Nat → Int32) × (Nat → Int32) × (Nat → Int32) × (Nat → Int32) => mm_rg u.1 1 7 ∧ mm_rg u.2.1 0 4 ∧ mm_ar u.2.2.2.1 0 9 ∧ mm_ar u.2.2.2.2.2.1 0 9) 0 0 := by
  refine mm_begin (lv := [(0, .ref a_0), (1, .int i_0), (2, .int i_1), (3, .int i_2), (4, .int i_3)]) (by decide) (Nat.le_of_ble_eq_true rfl) rfl ?_
  intro p e s m below meth c A ls R args Q H locs hRe hQ hAe hx hb hr hlocks hml hown hnm hts hsz hA hS hP hK hD hZ hl
  have hRf : R.frames = 4 := by rw [hRe]
  have hRl : R.locals = 108 := by rw [hRe]
  have hRc : R.cells = 0 := by rw [hRe]
  have hRs : R.slots = 0 := by rw [hRe]
  refine lv_aload_n hx hb dX4_seek_0 rfl (lv_at hl 0 rfl) ?_
  refine lv_iload_n hx hb dX4_seek_1 rfl (lv_at hl 3 rfl) ?_
  refine lv_bipush (v := 7) hx hb dX4_seek_2 (by decide) ?_
  refine va_mmin hx hb (by rw [hml]; exact hl.1.symm) hown (mm_h hts mm_w1358) (mm_h hts mm_w385) (mm_h hts mm_w346) (mm_h hts mm_w386) (by rw [hRf]; exact Nat.le_of_ble_eq_true rfl) (by rw [hRl]; exact Nat.le_of_ble_eq_true rfl) (by rw [hRc]; exact Nat.le_of_ble_eq_true rfl) (by rw [hRs]; exact Nat.le_of_ble_eq_true rfl) dX4_seek_4 ?_
  refine lv_topi (fun v1 ev1 => ?_)
  have rv1 : mm_rg v1 1 7 := mm_min ev1 h2 mm_k7 (by decide)
  refine va_put (D := G) (ci := 4) (v := .int v1) (ty := tyX4 5) (C := RX4) (T := TX4) (N := 9) hx hb hts (mm_i inlX4) tyX4 tyX4_ok nmX4 hown hK.1 hP hD hS 12 rfl rfl 5 (by decide) (mm_h hts mm_w1359) (fun _ h9 => h9) rfl (tyX4_ok 5 (by decide)) rfl rfl (Nat.le_of_ble_eq_true rfl) dX4_seek_7 ?_
  clear hP hD hS
  clear H locs
  intro H locs (hP : va_P G vwCl [(a_1, .inr (10, [.ref a_2, .ref a_3])), (a_2, .inr (0, [.int i_4, .int i_5, .int i_6, .int i_7, .int i_8, .int i_9, .int i_10, .int i_11, .ref a_4, .ref a_5, .ref a_6, .ref a_7, .ref a_8, .ref a_9, .ref a_10, .ref a_11, .ref a_12, .ref a_13])), (a_4, .inl (cy 1, 9, .inl f_0)), (a_5, .inl (cy 1, 9, .inl f_1)), (a_10, .inl (cy 1, 30, .inl f_2)), (a_3, .inl (cy 5, 3, .inr (.inr (.inr (.inr (va_up (va_up (va_up (fun _ => none) 0 (some a_14)) 1 (some a_15)) 2 (some a_16))))))), (a_14, .inr (1, [.ref a_17, .ref a_18, .int i_12, .int i_13, .int i_14])), (a_17, .inl (cy 1, 2100, .inl f_3)), (a_15, .inr (1, [.ref a_19, .ref a_20, .int i_15, .int i_16, .int i_17])), (a_19, .inl (cy 1, 2100, .inl f_4)), (a_16, .inr (1, [.ref a_21, .ref a_22, .int i_18, .int i_19, .int i_20])), (a_21, .inl (cy 1, 2100, .inl f_5)), (a_0, .inr (4, [.ref a_1, .ref a_23, .ref a_24, .ref a_25, .ref a_26, .int v1, .int i_22, .int i_23, .int i_24])), (a_23, .inl (cy 1, 70, .inl f_6)), (a_24, .inl (cy 1, 7, .inl f_7)), (a_25, .inl (cy 1, 4, .inl f_8)), (a_26, .inl (cy 1, 4, .inl f_9))] H) (hD : va_D A [(a_1, .inr (10, [.ref a_2, .ref a_3])), (a_2, .inr (0, [.int i_4, .int i_5, .int i_6, .int i_7, .int i_8, .int i_9, .int i_10, .int i_11, .ref a_4, .ref a_5, .ref a_6, .ref a_7, .ref a_8, .ref a_9, .ref a_10, .ref a_11, .ref a_12, .ref a_13])), (a_4, .inl (cy 1, 9, .inl f_0)), (a_5, .inl (cy 1, 9, .inl f_1)), (a_10, .inl (cy 1, 30, .inl f_2)), (a_3, .inl (cy 5, 3, .inr (.inr (.inr (.inr (va_up (va_up (va_up (fun _ => none) 0 (some a_14)) 1 (some a_15)) 2 (some a_16))))))), (a_14, .inr (1, [.ref a_17, .ref a_18, .int i_12, .int i_13, .int i_14])), (a_17, .inl (cy 1, 2100, .inl f_3)), (a_15, .inr (1, [.ref a_19, .ref a_20, .int i_15, .int i_16, .int i_17])), (a_19, .inl (cy 1, 2100, .inl f_4)), (a_16, .inr (1, [.ref a_21, .ref a_22, .int i_18, .int i_19, .int i_20])), (a_21, .inl (cy 1, 2100, .inl f_5)), (a_0, .inr (4, [.ref a_1, .ref a_23, .ref a_24, .ref a_25, .ref a_26, .int v1, .int i_22, .int i_23, .int i_24])), (a_23, .inl (cy 1, 70, .inl f_6)), (a_24, .inl (cy 1, 7, .inl f_7)), (a_25, .inl (cy 1, 4, .inl f_8)), (a_26, .inl (cy 1, 4, .inl f_9))]) hS
  refine lv_aload_n hx hb dX4_seek_10 rfl (lv_at hl 0 rfl) ?_
  refine lv_iload hx hb dX4_seek_11 (lv_at hl 4 rfl) ?_
  refine va_put (D := G) (ci := 4) (v := .int i_3) (ty := tyX4 6) (C := RX4) (T := TX4) (N := 9) hx hb hts (mm_i inlX4) tyX4 tyX4_ok nmX4 hown hK.1 hP hD hS 12 rfl rfl 6 (by decide) (mm_h hts mm_w1360) (fun _ h9 => h9) rfl (tyX4_ok 6 (by decide)) rfl rfl (Nat.le_of_ble_eq_true rfl) dX4_seek_13 ?_
  clear hP hD hS
  clear H locs
  intro H locs (hP : va_P G vwCl [(a_1, .inr (10, [.ref a_2, .ref a_3])), (a_2, .inr (0, [.int i_4, .int i_5, .int i_6, .int i_7, .int i_8, .int i_9, .int i_10, .int i_11, .ref a_4, .ref a_5, .ref a_6, .ref a_7, .ref a_8, .ref a_9, .ref a_10, .ref a_11, .ref a_12, .ref a_13])), (a_4, .inl (cy 1, 9, .inl f_0)), (a_5, .inl (cy 1, 9, .inl f_1)), (a_10, .inl (cy 1, 30, .inl f_2)), (a_3, .inl (cy 5, 3, .inr (.inr (.inr (.inr (va_up (va_up (va_up (fun _ => none) 0 (some a_14)) 1 (some a_15)) 2 (some a_16))))))), (a_14, .inr (1, [.ref a_17, .ref a_18, .int i_12, .int i_13, .int i_14])), (a_17, .inl (cy 1, 2100, .inl f_3)), (a_15, .inr (1, [.ref a_19, .ref a_20, .int i_15, .int i_16, .int i_17])), (a_19, .inl (cy 1, 2100, .inl f_4)), (a_16, .inr (1, [.ref a_21, .ref a_22, .int i_18, .int i_19, .int i_20])), (a_21, .inl (cy 1, 2100, .inl f_5)), (a_0, .inr (4, [.ref a_1, .ref a_23, .ref a_24, .ref a_25, .ref a_26, .int v1, .int i_3, .int i_23, .int i_24])), (a_23, .inl (cy 1, 70, .inl f_6)), (a_24, .inl (cy 1, 7, .inl f_7)), (a_25, .inl (cy 1, 4, .inl f_8)), (a_26, .inl (cy 1, 4, .inl f_9))] H) (hD : va_D A [(a_1, .inr (10, [.ref a_2, .ref a_3])), (a_2, .inr (0, [.int i_4, .int i_5, .int i_6, .int i_7, .int i_8, .int i_9, .int i_10, .int i_11, .ref a_4, .ref a_5, .ref a_6, .ref a_7, .ref a_8, .ref a_9, .ref a_10, .ref a_11, .ref a_12, .ref a_13])), (a_4, .inl (cy 1, 9, .inl f_0)), (a_5, .inl (cy 1, 9, .inl f_1)), (a_10, .inl (cy 1, 30, .inl f_2)), (a_3, .inl (cy 5, 3, .inr (.inr (.inr (.inr (va_up (va_up (va_up (fun _ => none) 0 (some a_14)) 1 (some a_15)) 2 (some a_16))))))), (a_14, .inr (1, [.ref a_17, .ref a_18, .int i_12, .int i_13, .int i_14])), (a_17, .inl (cy 1, 2100, .inl f_3)), (a_15, .inr (1, [.ref a_19, .ref a_20, .int i_15, .int i_16, .int i_17])), (a_19, .inl (cy 1, 2100, .inl f_4)), (a_16, .inr (1, [.ref a_21, .ref a_22, .int i_18, .int i_19, .int i_20])), (a_21, .inl (cy 1, 2100, .inl f_5)), (a_0, .inr (4, [.ref a_1, .ref a_23, .ref a_24, .ref a_25, .ref a_26, .int v1, .int i_3, .int i_23, .int i_24])), (a_23, .inl (cy 1, 70, .inl f_6)), (a_24, .inl (cy 1, 7, .inl f_7)), (a_25, .inl (cy 1, 4, .inl f_8)), (a_26, .inl (cy 1, 4, .inl f_9))]) hS
  refine lv_aload_n hx hb dX4_seek_16 rfl (lv_at hl 0 rfl) ?_
  refine lv_iconst (v := 0) hx hb dX4_seek_17 (by decide) ?_
  refine va_put (D := G) (ci := 4) (v := .int 0) (ty := tyX4 8) (C := RX4) (T := TX4) (N := 9) hx hb hts (mm_i inlX4) tyX4 tyX4_ok nmX4 hown hK.1 hP hD hS 12 rfl rfl 8 (by decide) (mm_h hts mm_w1361) (fun _ h9 => h9) rfl (tyX4_ok 8 (by decide)) rfl rfl (Nat.le_of_ble_eq_true rfl) dX4_seek_18 ?_
  clear hP hD hS
  clear H locs
  intro H locs (hP : va_P G vwCl [(a_1, .inr (10, [.ref a_2, .ref a_3])), (a_2, .inr (0, [.int i_4, .int i_5, .int i_6, .int i_7, .int i_8, .int i_9, .int i_10, .int i_11, .ref a_4, .ref a_5, .ref a_6, .ref a_7, .ref a_8, .ref a_9, .ref a_10, .ref a_11, .ref a_12, .ref a_13])), (a_4, .inl (cy 1, 9, .inl f_0)), (a_5, .inl (cy 1, 9, .inl f_1)), (a_10, .inl (cy 1, 30, .inl f_2)), (a_3, .inl (cy 5, 3, .inr (.inr (.inr (.inr (va_up (va_up (va_up (fun _ => none) 0 (some a_14)) 1 (some a_15)) 2 (some a_16))))))), (a_14, .inr (1, [.ref a_17, .ref a_18, .int i_12, .int i_13, .int i_14])), (a_17, .inl (cy 1, 2100, .inl f_3)), (a_15, .inr (1, [.ref a_19, .ref a_20, .int i_15, .int i_16, .int i_17])), (a_19, .inl (cy 1, 2100, .inl f_4)), (a_16, .inr (1, [.ref a_21, .ref a_22, .int i_18, .int i_19, .int i_20])), (a_21, .inl (cy 1, 2100, .inl f_5)), (a_0, .inr (4, [.ref a_1, .ref a_23, .ref a_24, .ref a_25, .ref a_26, .int v1, .int i_3, .int i_23, .int 0])), (a_23, .inl (cy 1, 70, .inl f_6)), (a_24, .inl (cy 1, 7, .inl f_7)), (a_25, .inl (cy 1, 4, .inl f_8)), (a_26, .inl (cy 1, 4, .inl f_9))] H) (hD : va_D A [(a_1, .inr (10, [.ref a_2, .ref a_3])), (a_2, .inr (0, [.int i_4, .int i_5, .int i_6, .int i_7, .int i_8, .int i_9, .int i_10, .int i_11, .ref a_4, .ref a_5, .ref a_6, .ref a_7, .ref a_8, .ref a_9, .ref a_10, .ref a_11, .ref a_12, .ref a_13])), (a_4, .inl (cy 1, 9, .inl f_0)), (a_5, .inl (cy 1, 9, .inl f_1)), (a_10, .inl (cy 1, 30, .inl f_2)), (a_3, .inl (cy 5, 3, .inr (.inr (.inr (.inr (va_up (va_up (va_up (fun _ => none) 0 (some a_14)) 1 (some a_15)) 2 (some a_16))))))), (a_14, .inr (1, [.ref a_17, .ref a_18, .int i_12, .int i_13, .int i_14])), (a_17, .inl (cy 1, 2100, .inl f_3)), (a_15, .inr (1, [.ref a_19, .ref a_20, .int i_15, .int i_16, .int i_17])), (a_19, .inl (cy 1, 2100, .inl f_4)), (a_16, .inr (1, [.ref a_21, .ref a_22, .int i_18, .int i_19, .int i_20])), (a_21, .inl (cy 1, 2100, .inl f_5)), (a_0, .inr (4, [.ref a_1, .ref a_23, .ref a_24, .ref a_25, .ref a_26, .int v1, .int i_3, .int i_23, .int 0])), (a_23, .inl (cy 1, 70, .inl f_6)), (a_24, .inl (cy 1, 7, .inl f_7)), (a_25, .inl (cy 1, 4, .inl f_8)), (a_26, .inl (cy 1, 4, .inl f_9))]) hS
  refine lv_aload_n hx hb dX4_seek_21 rfl (lv_at hl 0 rfl) ?_
  refine lv_iconst (v := 0) hx hb dX4_seek_22 (by decide) ?_
  refine va_put (D := G) (ci := 4) (v := .int 0) (ty := tyX4 7) (C := RX4) (T := TX4) (N := 9) hx hb hts (mm_i inlX4) tyX4 tyX4_ok nmX4 hown hK.1 hP hD hS 12 rfl rfl 7 (by decide) (mm_h hts mm_w1362) (fun _ h9 => h9) rfl (tyX4_ok 7 (by decide)) rfl rfl (Nat.le_of_ble_eq_true rfl) dX4_seek_23 ?_
  clear hP hD hS
  clear H locs
  intro H locs (hP : va_P G vwCl [(a_1, .inr (10, [.ref a_2, .ref a_3])), (a_2, .inr (0, [.int i_4, .int i_5, .int i_6, .int i_7, .int i_8, .int i_9, .int i_10, .int i_11, .ref a_4, .ref a_5, .ref a_6, .ref a_7, .ref a_8, .ref a_9, .ref a_10, .ref a_11, .ref a_12, .ref a_13])), (a_4, .inl (cy 1, 9, .inl f_0)), (a_5, .inl (cy 1, 9, .inl f_1)), (a_10, .inl (cy 1, 30, .inl f_2)), (a_3, .inl (cy 5, 3, .inr (.inr (.inr (.inr (va_up (va_up (va_up (fun _ => none) 0 (some a_14)) 1 (some a_15)) 2 (some a_16))))))), (a_14, .inr (1, [.ref a_17, .ref a_18, .int i_12, .int i_13, .int i_14])), (a_17, .inl (cy 1, 2100, .inl f_3)), (a_15, .inr (1, [.ref a_19, .ref a_20, .int i_15, .int i_16, .int i_17])), (a_19, .inl (cy 1, 2100, .inl f_4)), (a_16, .inr (1, [.ref a_21, .ref a_22, .int i_18, .int i_19, .int i_20])), (a_21, .inl (cy 1, 2100, .inl f_5)), (a_0, .inr (4, [.ref a_1, .ref a_23, .ref a_24, .ref a_25, .ref a_26, .int v1, .int i_3, .int 0, .int 0])), (a_23, .inl (cy 1, 70, .inl f_6)), (a_24, .inl (cy 1, 7, .inl f_7)), (a_25, .inl (cy 1, 4, .inl f_8)), (a_26, .inl (cy 1, 4, .inl f_9))] H) (hD : va_D A [(a_1, .inr (10, [.ref a_2, .ref a_3])), (a_2, .inr (0, [.int i_4, .int i_5, .int i_6, .int i_7, .int i_8, .int i_9, .int i_10, .int i_11, .ref a_4, .ref a_5, .ref a_6, .ref a_7, .ref a_8, .ref a_9, .ref a_10, .ref a_11, .ref a_12, .ref a_13])), (a_4, .inl (cy 1, 9, .inl f_0)), (a_5, .inl (cy 1, 9, .inl f_1)), (a_10, .inl (cy 1, 30, .inl f_2)), (a_3, .inl (cy 5, 3, .inr (.inr (.inr (.inr (va_up (va_up (va_up (fun _ => none) 0 (some a_14)) 1 (some a_15)) 2 (some a_16))))))), (a_14, .inr (1, [.ref a_17, .ref a_18, .int i_12, .int i_13, .int i_14])), (a_17, .inl (cy 1, 2100, .inl f_3)), (a_15, .inr (1, [.ref a_19, .ref a_20, .int i_15, .int i_16, .int i_17])), (a_19, .inl (cy 1, 2100, .inl f_4)), (a_16, .inr (1, [.ref a_21, .ref a_22, .int i_18, .int i_19, .int i_20])), (a_21, .inl (cy 1, 2100, .inl f_5)), (a_0, .inr (4, [.ref a_1, .ref a_23, .ref a_24, .ref a_25, .ref a_26, .int v1, .int i_3, .int 0, .int 0])), (a_23, .inl (cy 1, 70, .inl f_6)), (a_24, .inl (cy 1, 7, .inl f_7)), (a_25, .inl (cy 1, 4, .inl f_8)), (a_26, .inl (cy 1, 4, .inl f_9))]) hS
  refine lv_iconst (v := 0) hx hb dX4_seek_26 (by decide) ?_
  refine lv_istore (lv' := [(5, .int 0), (0, .ref a_0), (1, .int i_0), (2, .int i_1), (3, .int i_2), (4, .int i_3)]) hx hb dX4_seek_27 hl (by decide) rfl ?_
  clear hl
  clear ls
  intro ls hl
  have L29_1874 : ∀ (n : Nat) (x29_5_1873 : Int32) (z29_13_1874 : Nat → Int32), mm_rg x29_5_1873 0 7 → mm_ar z29_13_1874 0 9 → (7 - x29_5_1873.toInt).toNat < n → ∀ (H : Heap) (locs : List Loc), va_P G vwCl [(a_1, .inr (10, [.ref a_2, .ref a_3])), (a_2, .inr (0, [.int i_4, .int i_5, .int i_6, .int i_7, .int i_8, .int i_9, .int i_10, .int i_11, .ref a_4, .ref a_5, .ref a_6, .ref a_7, .ref a_8, .ref a_9, .ref a_10, .ref a_11, .ref a_12, .ref a_13])), (a_4, .inl (cy 1, 9, .inl f_0)), (a_5, .inl (cy 1, 9, .inl f_1)), (a_10, .inl (cy 1, 30, .inl f_2)), (a_3, .inl (cy 5, 3, .inr (.inr (.inr (.inr (va_up (va_up (va_up (fun _ => none) 0 (some a_14)) 1 (some a_15)) 2 (some a_16))))))), (a_14, .inr (1, [.ref a_17, .ref a_18, .int i_12, .int i_13, .int i_14])), (a_17, .inl (cy 1, 2100, .inl f_3)), (a_15, .inr (1, [.ref a_19, .ref a_20, .int i_15, .int i_16, .int i_17])), (a_19, .inl (cy 1, 2100, .inl f_4)), (a_16, .inr (1, [.ref a_21, .ref a_22, .int i_18, .int i_19, .int i_20])), (a_21, .inl (cy 1, 2100, .inl f_5)), (a_0, .inr (4, [.ref a_1, .ref a_23, .ref a_24, .ref a_25, .ref a_26, .int v1, .int i_3, .int 0, .int 0])), (a_23, .inl (cy 1, 70, .inl z29_13_1874)), (a_24, .inl (cy 1, 7, .inl f_7)), (a_25, .inl (cy 1, 4, .inl f_8)), (a_26, .inl (cy 1, 4, .inl f_9))] H → va_D A [(a_1, .inr (10, [.ref a_2, .ref a_3])), (a_2, .inr (0, [.int i_4, .int i_5, .int i_6, .int i_7, .int i_8, .int i_9, .int i_10, .int i_11, .ref a_4, .ref a_5, .ref a_6, .ref a_7, .ref a_8, .ref a_9, .ref a_10, .ref a_11, .ref a_12, .ref a_13])), (a_4, .inl (cy 1, 9, .inl f_0)), (a_5, .inl (cy 1, 9, .inl f_1)), (a_10, .inl (cy 1, 30, .inl f_2)), (a_3, .inl (cy 5, 3, .inr (.inr (.inr (.inr (va_up (va_up (va_up (fun _ => none) 0 (some a_14)) 1 (some a_15)) 2 (some a_16))))))), (a_14, .inr (1, [.ref a_17, .ref a_18, .int i_12, .int i_13, .int i_14])), (a_17, .inl (cy 1, 2100, .inl f_3)), (a_15, .inr (1, [.ref a_19, .ref a_20, .int i_15, .int i_16, .int i_17])), (a_19, .inl (cy 1, 2100, .inl f_4)), (a_16, .inr (1, [.ref a_21, .ref a_22, .int i_18, .int i_19, .int i_20])), (a_21, .inl (cy 1, 2100, .inl f_5)), (a_0, .inr (4, [.ref a_1, .ref a_23, .ref a_24, .ref a_25, .ref a_26, .int v1, .int i_3, .int 0, .int 0])), (a_23, .inl (cy 1, 70, .inl z29_13_1874)), (a_24, .inl (cy 1, 7, .inl f_7)), (a_25, .inl (cy 1, 4, .inl f_8)), (a_26, .inl (cy 1, 4, .inl f_9))] → va_S A s.heap H locs → ∀ (ls : Array Slot), lv_has ls 7 [(5, .int x29_5_1873), (0, .ref a_0), (1, .int i_0), (2, .int i_1), (3, .int i_2), (4, .int i_3)] → W p l e R s m args below meth c H locs 0 0 Q (F0 m 29 ls []) := by
    intro n
    induction n with
    | zero => intro x29_5_1873 z29_13_1874 rx29_5_1873 rz29_13_1874 hm; exact absurd hm (Nat.not_lt_zero _)
    | succ n ih29 =>
      intro x29_5_1873 z29_13_1874 rx29_5_1873 rz29_13_1874 hm29 H locs hP hD hS ls hl
      refine lv_iload hx hb dX4_seek_29 (lv_at hl 0 rfl) ?_
      refine lv_aload_n hx hb dX4_seek_31 rfl (lv_at hl 1 rfl) ?_
      refine va_get (D := G) (ci := 4) (v := .int v1) (C := RX4) (T := TX4) (N := 9) hx hb hts (mm_i inlX4) hown hK.1 hP 12 rfl rfl 5 (by decide) (mm_h hts mm_w1359) (fun _ h9 => h9) rfl dX4_seek_32 ?_
      refine lv_icmp_ge (tgt := 95) hx hb dX4_seek_35 (by decide) (fun c1876 => ?_) (fun c1876 => ?_)
      · have q1877 := mm_leR (mm_le c1876) rv1 rx29_5_1873
        refine lv_iconst (v := 1) hx hb dX4_seek_95 (by decide) ?_
        refine lv_istore (lv' := [(5, .int 1), (0, .ref a_0), (1, .int i_0), (2, .int i_1), (3, .int i_2), (4, .int i_3)]) hx hb dX4_seek_96 hl (by decide) rfl ?_
        clear hl
        clear ls
        intro ls hl
        have L98_1949 : ∀ (n : Nat) (x98_5_1944 : Int32) (y98_12_7_1945 : Int32) (y98_12_8_1946 : Int32) (z98_14_1947 : Nat → Int32) (z98_15_1948 : Nat → Int32) (z98_16_1949 : Nat → Int32), mm_rg x98_5_1944 1 5 → mm_rg y98_12_7_1945 0 4 → mm_ar z98_15_1948 0 9 → (5 - x98_5_1944.toInt).toNat < n → ∀ (H : Heap) (locs : List Loc), va_P G vwCl [(a_1, .inr (10, [.ref a_2, .ref a_3])), (a_2, .inr (0, [.int i_4, .int i_5, .int i_6, .int i_7, .int i_8, .int i_9, .int i_10, .int i_11, .ref a_4, .ref a_5, .ref a_6, .ref a_7, .ref a_8, .ref a_9, .ref a_10, .ref a_11, .ref a_12, .ref a_13])), (a_4, .inl (cy 1, 9, .inl f_0)), (a_5, .inl (cy 1, 9, .inl f_1)), (a_10, .inl (cy 1, 30, .inl f_2)), (a_3, .inl (cy 5, 3, .inr (.inr (.inr (.inr (va_up (va_up (va_up (fun _ => none) 0 (some a_14)) 1 (some a_15)) 2 (some a_16))))))), (a_14, .inr (1, [.ref a_17, .ref a_18, .int i_12, .int i_13, .int i_14])), (a_17, .inl (cy 1, 2100, .inl f_3)), (a_15, .inr (1, [.ref a_19, .ref a_20, .int i_15, .int i_16, .int i_17])), (a_19, .inl (cy 1, 2100, .inl f_4)), (a_16, .inr (1, [.ref a_21, .ref a_22, .int i_18, .int i_19, .int i_20])), (a_21, .inl (cy 1, 2100, .inl f_5)), (a_0, .inr (4, [.ref a_1, .ref a_23, .ref a_24, .ref a_25, .ref a_26, .int v1, .int i_3, .int y98_12_7_1945, .int y98_12_8_1946])), (a_23, .inl (cy 1, 70, .inl z29_13_1874)), (a_24, .inl (cy 1, 7, .inl z98_14_1947)), (a_25, .inl (cy 1, 4, .inl z98_15_1948)), (a_26, .inl (cy 1, 4, .inl z98_16_1949))] H → va_D A [(a_1, .inr (10, [.ref a_2, .ref a_3])), (a_2, .inr (0, [.int i_4, .int i_5, .int i_6, .int i_7, .int i_8, .int i_9, .int i_10, .int i_11, .ref a_4, .ref a_5, .ref a_6, .ref a_7, .ref a_8, .ref a_9, .ref a_10, .ref a_11, .ref a_12, .ref a_13])), (a_4, .inl (cy 1, 9, .inl f_0)), (a_5, .inl (cy 1, 9, .inl f_1)), (a_10, .inl (cy 1, 30, .inl f_2)), (a_3, .inl (cy 5, 3, .inr (.inr (.inr (.inr (va_up (va_up (va_up (fun _ => none) 0 (some a_14)) 1 (some a_15)) 2 (some a_16))))))), (a_14, .inr (1, [.ref a_17, .ref a_18, .int i_12, .int i_13, .int i_14])), (a_17, .inl (cy 1, 2100, .inl f_3)), (a_15, .inr (1, [.ref a_19, .ref a_20, .int i_15, .int i_16, .int i_17])), (a_19, .inl (cy 1, 2100, .inl f_4)), (a_16, .inr (1, [.ref a_21, .ref a_22, .int i_18, .int i_19, .int i_20])), (a_21, .inl (cy 1, 2100, .inl f_5)), (a_0, .inr (4, [.ref a_1, .ref a_23, .ref a_24, .ref a_25, .ref a_26, .int v1, .int i_3, .int y98_12_7_1945, .int y98_12_8_1946])), (a_23, .inl (cy 1, 70, .inl z29_13_1874)), (a_24, .inl (cy 1, 7, .inl z98_14_1947)), (a_25, .inl (cy 1, 4, .inl z98_15_1948)), (a_26, .inl (cy 1, 4, .inl z98_16_1949))] → va_S A s.heap H locs → ∀ (ls : Array Slot), lv_has ls 7 [(5, .int x98_5_1944), (0, .ref a_0), (1, .int i_0), (2, .int i_1), (3, .int i_2), (4, .int i_3)] → W p l e R s m args below meth c H locs 0 0 Q (F0 m 98 ls []) := by
          intro n
          induction n with
          | zero => intro x98_5_1944 y98_12_7_1945 y98_12_8_1946 z98_14_1947 z98_15_1948 z98_16_1949 rx98_5_1944 ry98_12_7_1945 rz98_15_1948 hm; exact absurd hm (Nat.not_lt_zero _)
          | succ n ih98 =>
            intro x98_5_1944 y98_12_7_1945 y98_12_8_1946 z98_14_1947 z98_15_1948 z98_16_1949 rx98_5_1944 ry98_12_7_1945 rz98_15_1948 hm98 H locs hP hD hS ls hl
            refine lv_iload hx hb dX4_seek_98 (lv_at hl 0 rfl) ?_
            refine lv_iconst (v := 4) hx hb dX4_seek_100 (by decide) ?_
            refine lv_icmp_gt (tgt := 127) hx hb dX4_seek_101 (by decide) (fun c1951 => ?_) (fun c1951 => ?_)
            · have q1952 := mm_ltR (lo := 5) (mm_lt c1951) mm_k4 rx98_5_1944 (by decide)
              subst hAe
              rw [hQ]
              exact W.vret hx hb hr (fun t ht hW => ⟨⟨(v1, y98_12_7_1945, y98_12_8_1946, z29_13_1874, z98_14_1947, z98_15_1948, z98_16_1949), rfl, ⟨rv1, ry98_12_7_1945, rz29_13_1874, rz98_15_1948⟩, by rw [ht]; exact hP, hK.warm hW, hD⟩, hS.F ht⟩) hS.2.2 dX4_seek_127
            · have q1953 := mm_leL (mm_nlt c1951) rx98_5_1944 mm_k4
              refine lv_aload_n hx hb dX4_seek_104 rfl (lv_at hl 1 rfl) ?_
              refine va_get (D := G) (ci := 4) (v := .int y98_12_8_1946) (C := RX4) (T := TX4) (N := 9) hx hb hts (mm_i inlX4) hown hK.1 hP 12 rfl rfl 8 (by decide) (mm_h hts mm_w1361) (fun _ h9 => h9) rfl dX4_seek_105 ?_
              refine lv_if_ne (tgt := 127) hx hb dX4_seek_108 (by decide) (fun c1954 => ?_) (fun c1954 => ?_)
              · subst hAe
                rw [hQ]
                exact W.vret hx hb hr (fun t ht hW => ⟨⟨(v1, y98_12_7_1945, y98_12_8_1946, z29_13_1874, z98_14_1947, z98_15_1948, z98_16_1949), rfl, ⟨rv1, ry98_12_7_1945, rz29_13_1874, rz98_15_1948⟩, by rw [ht]; exact hP, hK.warm hW, hD⟩, hS.F ht⟩) hS.2.2 dX4_seek_127
              · have q1955 := mm_eqI (lo := 0) (hi := 0) c1954 (mm_top y98_12_8_1946) mm_k0 (by decide)
                refine lv_aload_n hx hb dX4_seek_111 rfl (lv_at hl 1 rfl) ?_
                refine lv_iload hx hb dX4_seek_112 (lv_at hl 0 rfl) ?_
                refine va_put (D := G) (ci := 4) (v := .int x98_5_1944) (ty := tyX4 7) (C := RX4) (T := TX4) (N := 9) hx hb hts (mm_i inlX4) tyX4 tyX4_ok nmX4 hown hK.1 hP hD hS 12 rfl rfl 7 (by decide) (mm_h hts mm_w1362) (fun _ h9 => h9) rfl (tyX4_ok 7 (by decide)) rfl rfl (Nat.le_of_ble_eq_true rfl) dX4_seek_114 ?_
                clear hP hD hS
                clear H locs
                intro H locs (hP : va_P G vwCl [(a_1, .inr (10, [.ref a_2, .ref a_3])), (a_2, .inr (0, [.int i_4, .int i_5, .int i_6, .int i_7, .int i_8, .int i_9, .int i_10, .int i_11, .ref a_4, .ref a_5, .ref a_6, .ref a_7, .ref a_8, .ref a_9, .ref a_10, .ref a_11, .ref a_12, .ref a_13])), (a_4, .inl (cy 1, 9, .inl f_0)), (a_5, .inl (cy 1, 9, .inl f_1)), (a_10, .inl (cy 1, 30, .inl f_2)), (a_3, .inl (cy 5, 3, .inr (.inr (.inr (.inr (va_up (va_up (va_up (fun _ => none) 0 (some a_14)) 1 (some a_15)) 2 (some a_16))))))), (a_14, .inr (1, [.ref a_17, .ref a_18, .int i_12, .int i_13, .int i_14])), (a_17, .inl (cy 1, 2100, .inl f_3)), (a_15, .inr (1, [.ref a_19, .ref a_20, .int i_15, .int i_16, .int i_17])), (a_19, .inl (cy 1, 2100, .inl f_4)), (a_16, .inr (1, [.ref a_21, .ref a_22, .int i_18, .int i_19, .int i_20])), (a_21, .inl (cy 1, 2100, .inl f_5)), (a_0, .inr (4, [.ref a_1, .ref a_23, .ref a_24, .ref a_25, .ref a_26, .int v1, .int i_3, .int x98_5_1944, .int y98_12_8_1946])), (a_23, .inl (cy 1, 70, .inl z29_13_1874)), (a_24, .inl (cy 1, 7, .inl z98_14_1947)), (a_25, .inl (cy 1, 4, .inl z98_15_1948)), (a_26, .inl (cy 1, 4, .inl z98_16_1949))] H) (hD : va_D A [(a_1, .inr (10, [.ref a_2, .ref a_3])), (a_2, .inr (0, [.int i_4, .int i_5, .int i_6, .int i_7, .int i_8, .int i_9, .int i_10, .int i_11, .ref a_4, .ref a_5, .ref a_6, .ref a_7, .ref a_8, .ref a_9, .ref a_10, .ref a_11, .ref a_12, .ref a_13])), (a_4, .inl (cy 1, 9, .inl f_0)), (a_5, .inl (cy 1, 9, .inl f_1)), (a_10, .inl (cy 1, 30, .inl f_2)), (a_3, .inl (cy 5, 3, .inr (.inr (.inr (.inr (va_up (va_up (va_up (fun _ => none) 0 (some a_14)) 1 (some a_15)) 2 (some a_16))))))), (a_14, .inr (1, [.ref a_17, .ref a_18, .int i_12, .int i_13, .int i_14])), (a_17, .inl (cy 1, 2100, .inl f_3)), (a_15, .inr (1, [.ref a_19, .ref a_20, .int i_15, .int i_16, .int i_17])), (a_19, .inl (cy 1, 2100, .inl f_4)), (a_16, .inr (1, [.ref a_21, .ref a_22, .int i_18, .int i_19, .int i_20])), (a_21, .inl (cy 1, 2100, .inl f_5)), (a_0, .inr (4, [.ref a_1, .ref a_23, .ref a_24, .ref a_25, .ref a_26, .int v1, .int i_3, .int x98_5_1944, .int y98_12_8_1946])), (a_23, .inl (cy 1, 70, .inl z29_13_1874)), (a_24, .inl (cy 1, 7, .inl z98_14_1947)), (a_25, .inl (cy 1, 4, .inl z98_15_1948)), (a_26, .inl (cy 1, 4, .inl z98_16_1949))]) hS
                refine lv_aload_n hx hb dX4_seek_117 rfl (lv_at hl 1 rfl) ?_
                refine mm_finv (va_runV (As := []) (rest := []) ⟨hx, hb, hml, hown, hts⟩ (K476_X4_tryAll l G cy H.size a_0 a_1 a_2 a_3 i_4 i_5 i_6 i_7 i_8 i_9 i_10 i_11 a_4 a_5 a_6 a_7 a_8 a_9 a_10 a_11 a_12 a_13 f_0 f_1 a_23 a_24 a_25 a_26 v1 i_3 x98_5_1944 y98_12_8_1946 z29_13_1874 z98_14_1947 z98_15_1948 z98_16_1949 h4 h5 h6 h7 (mm_wk rv1 (by decide)) q1953 rz29_13_1874 rz98_15_1948) (cwV 0 hts (mm_gV mm_w1366 mm_w1367 mm_w1368 mm_w45 mm_w1369) rfl rfl rfl hd_X4_tryAll ⟨by rw [hRf]; exact Nat.le_of_ble_eq_true rfl, by rw [hRl]; exact Nat.le_of_ble_eq_true rfl⟩) (mm_preV hK hZ hS hA hP hD [0, 1, 2, 3, 12, 13, 14, 15, 16] rfl rfl 12 rfl rfl rfl) rfl rfl hl.1 rfl (lv_room (Nat.le_of_ble_eq_true rfl)) dX4_seek_118 ⟨by rw [hRc]; exact Nat.le_of_ble_eq_true rfl, by rw [hRs]; exact Nat.le_of_ble_eq_true rfl⟩) hP hD hS hA (fun u : Int32 × (Nat → Int32) × (Nat → Int32) × (Nat → Int32) => [(a_1, .inr (10, [.ref a_2, .ref a_3])), (a_2, .inr (0, [.int i_4, .int i_5, .int i_6, .int i_7, .int i_8, .int i_9, .int i_10, .int i_11, .ref a_4, .ref a_5, .ref a_6, .ref a_7, .ref a_8, .ref a_9, .ref a_10, .ref a_11, .ref a_12, .ref a_13])), (a_4, .inl (cy 1, 9, .inl f_0)), (a_5, .inl (cy 1, 9, .inl f_1)), (a_10, .inl (cy 1, 30, .inl f_2)), (a_3, .inl (cy 5, 3, .inr (.inr (.inr (.inr (va_up (va_up (va_up (fun _ => none) 0 (some a_14)) 1 (some a_15)) 2 (some a_16))))))), (a_14, .inr (1, [.ref a_17, .ref a_18, .int i_12, .int i_13, .int i_14])), (a_17, .inl (cy 1, 2100, .inl f_3)), (a_15, .inr (1, [.ref a_19, .ref a_20, .int i_15, .int i_16, .int i_17])), (a_19, .inl (cy 1, 2100, .inl f_4)), (a_16, .inr (1, [.ref a_21, .ref a_22, .int i_18, .int i_19, .int i_20])), (a_21, .inl (cy 1, 2100, .inl f_5)), (a_0, .inr (4, [.ref a_1, .ref a_23, .ref a_24, .ref a_25, .ref a_26, .int v1, .int i_3, .int x98_5_1944, .int u.1])), (a_23, .inl (cy 1, 70, .inl z29_13_1874)), (a_24, .inl (cy 1, 7, .inl u.2.1)), (a_25, .inl (cy 1, 4, .inl u.2.2.1)), (a_26, .inl (cy 1, 4, .inl u.2.2.2))]) [0, 1, 2, 3, 12, 13, 14, 15, 16] [4, 5, 6, 7, 8, 9, 10, 11] (n := 17) (fun _ => rfl) (by decide +kernel) (by decide +kernel) rfl (fun _ => rfl) (wr := [(a_10, .inl (cy 1, 30, .inl f_2)), (a_3, .inl (cy 5, 3, .inr (.inr (.inr (.inr (va_up (va_up (va_up (fun _ => none) 0 (some a_14)) 1 (some a_15)) 2 (some a_16))))))), (a_14, .inr (1, [.ref a_17, .ref a_18, .int i_12, .int i_13, .int i_14])), (a_17, .inl (cy 1, 2100, .inl f_3)), (a_15, .inr (1, [.ref a_19, .ref a_20, .int i_15, .int i_16, .int i_17])), (a_19, .inl (cy 1, 2100, .inl f_4)), (a_16, .inr (1, [.ref a_21, .ref a_22, .int i_18, .int i_19, .int i_20])), (a_21, .inl (cy 1, 2100, .inl f_5))]) rfl (fun _ => rfl) (fun _ => rfl) ?_
                clear hP hD hS
                clear H locs
                intro u
                obtain ⟨n1956, n1957, n1958, n1959⟩ := u
                intro H locs hw (hP : va_P G vwCl [(a_1, .inr (10, [.ref a_2, .ref a_3])), (a_2, .inr (0, [.int i_4, .int i_5, .int i_6, .int i_7, .int i_8, .int i_9, .int i_10, .int i_11, .ref a_4, .ref a_5, .ref a_6, .ref a_7, .ref a_8, .ref a_9, .ref a_10, .ref a_11, .ref a_12, .ref a_13])), (a_4, .inl (cy 1, 9, .inl f_0)), (a_5, .inl (cy 1, 9, .inl f_1)), (a_10, .inl (cy 1, 30, .inl f_2)), (a_3, .inl (cy 5, 3, .inr (.inr (.inr (.inr (va_up (va_up (va_up (fun _ => none) 0 (some a_14)) 1 (some a_15)) 2 (some a_16))))))), (a_14, .inr (1, [.ref a_17, .ref a_18, .int i_12, .int i_13, .int i_14])), (a_17, .inl (cy 1, 2100, .inl f_3)), (a_15, .inr (1, [.ref a_19, .ref a_20, .int i_15, .int i_16, .int i_17])), (a_19, .inl (cy 1, 2100, .inl f_4)), (a_16, .inr (1, [.ref a_21, .ref a_22, .int i_18, .int i_19, .int i_20])), (a_21, .inl (cy 1, 2100, .inl f_5)), (a_0, .inr (4, [.ref a_1, .ref a_23, .ref a_24, .ref a_25, .ref a_26, .int v1, .int i_3, .int x98_5_1944, .int n1956])), (a_23, .inl (cy 1, 70, .inl z29_13_1874)), (a_24, .inl (cy 1, 7, .inl n1957)), (a_25, .inl (cy 1, 4, .inl n1958)), (a_26, .inl (cy 1, 4, .inl n1959))] H) (hD : va_D A [(a_1, .inr (10, [.ref a_2, .ref a_3])), (a_2, .inr (0, [.int i_4, .int i_5, .int i_6, .int i_7, .int i_8, .int i_9, .int i_10, .int i_11, .ref a_4, .ref a_5, .ref a_6, .ref a_7, .ref a_8, .ref a_9, .ref a_10, .ref a_11, .ref a_12, .ref a_13])), (a_4, .inl (cy 1, 9, .inl f_0)), (a_5, .inl (cy 1, 9, .inl f_1)), (a_10, .inl (cy 1, 30, .inl f_2)), (a_3, .inl (cy 5, 3, .inr (.inr (.inr (.inr (va_up (va_up (va_up (fun _ => none) 0 (some a_14)) 1 (some a_15)) 2 (some a_16))))))), (a_14, .inr (1, [.ref a_17, .ref a_18, .int i_12, .int i_13, .int i_14])), (a_17, .inl (cy 1, 2100, .inl f_3)), (a_15, .inr (1, [.ref a_19, .ref a_20, .int i_15, .int i_16, .int i_17])), (a_19, .inl (cy 1, 2100, .inl f_4)), (a_16, .inr (1, [.ref a_21, .ref a_22, .int i_18, .int i_19, .int i_20])), (a_21, .inl (cy 1, 2100, .inl f_5)), (a_0, .inr (4, [.ref a_1, .ref a_23, .ref a_24, .ref a_25, .ref a_26, .int v1, .int i_3, .int x98_5_1944, .int n1956])), (a_23, .inl (cy 1, 70, .inl z29_13_1874)), (a_24, .inl (cy 1, 7, .inl n1957)), (a_25, .inl (cy 1, 4, .inl n1958)), (a_26, .inl (cy 1, 4, .inl n1959))]) hS
                have w1960 := hw
                obtain ⟨v1961, ev1961⟩ : ∃ y : Int32, y = x98_5_1944 + 1 := ⟨_, rfl⟩
                refine lv_iinc (v := v1961) (lv' := [(5, .int v1961), (0, .ref a_0), (1, .int i_0), (2, .int i_1), (3, .int i_2), (4, .int i_3)]) hx hb dX4_seek_121 hl (k := 0) rfl (by rw [ev1961]; rfl) (by decide) rfl ?_
                clear hl
                clear ls
                intro ls hl
                have rv1961 : mm_rg v1961 2 5 := mm_add ev1961 q1953 mm_k1 (by decide) (by decide)
                have tv1961 := mm_addEc ev1961 q1953 mm_k1 (by decide) (k := 1) (by decide)
                refine lv_goto (tgt := 98) hx hb dX4_seek_124 (by decide) ?_
                exact ih98 v1961 x98_5_1944 n1956 n1957 n1958 n1959 (mm_wk rv1961 (by decide)) (mm_wk q1953 (by decide)) w1960 (mm_mu hm98 tv1961 (by decide) (rv1961).2 (by decide)) H locs hP hD hS ls (lv_sub hl [0, 1, 2, 3, 4, 5] rfl)
        exact L98_1949 _ 1 0 0 f_7 f_8 f_9 (mm_wk mm_k1 (by decide)) (mm_wk mm_k0 (by decide)) h18 (Nat.lt_succ_self _) H locs hP hD hS ls (lv_sub hl [0, 1, 2, 3, 4, 5] rfl)
      · have q1962 := mm_ltL (h := 6) (mm_nle c1876) rx29_5_1873 rv1 (by decide)
        refine lv_iconst (v := 0) hx hb dX4_seek_38 (by decide) ?_
        refine lv_istore (lv' := [(6, .int 0), (5, .int x29_5_1873), (0, .ref a_0), (1, .int i_0), (2, .int i_1), (3, .int i_2), (4, .int i_3)]) hx hb dX4_seek_39 hl (by decide) rfl ?_
        clear hl
        clear ls
        intro ls hl
        have L41_2091 : ∀ (n : Nat) (x41_6_2090 : Int32) (z41_13_2091 : Nat → Int32), mm_rg x41_6_2090 0 10 → mm_ar z41_13_2091 0 9 → (10 - x41_6_2090.toInt).toNat < n → ∀ (H : Heap) (locs : List Loc), va_P G vwCl [(a_1, .inr (10, [.ref a_2, .ref a_3])), (a_2, .inr (0, [.int i_4, .int i_5, .int i_6, .int i_7, .int i_8, .int i_9, .int i_10, .int i_11, .ref a_4, .ref a_5, .ref a_6, .ref a_7, .ref a_8, .ref a_9, .ref a_10, .ref a_11, .ref a_12, .ref a_13])), (a_4, .inl (cy 1, 9, .inl f_0)), (a_5, .inl (cy 1, 9, .inl f_1)), (a_10, .inl (cy 1, 30, .inl f_2)), (a_3, .inl (cy 5, 3, .inr (.inr (.inr (.inr (va_up (va_up (va_up (fun _ => none) 0 (some a_14)) 1 (some a_15)) 2 (some a_16))))))), (a_14, .inr (1, [.ref a_17, .ref a_18, .int i_12, .int i_13, .int i_14])), (a_17, .inl (cy 1, 2100, .inl f_3)), (a_15, .inr (1, [.ref a_19, .ref a_20, .int i_15, .int i_16, .int i_17])), (a_19, .inl (cy 1, 2100, .inl f_4)), (a_16, .inr (1, [.ref a_21, .ref a_22, .int i_18, .int i_19, .int i_20])), (a_21, .inl (cy 1, 2100, .inl f_5)), (a_0, .inr (4, [.ref a_1, .ref a_23, .ref a_24, .ref a_25, .ref a_26, .int v1, .int i_3, .int 0, .int 0])), (a_23, .inl (cy 1, 70, .inl z41_13_2091)), (a_24, .inl (cy 1, 7, .inl f_7)), (a_25, .inl (cy 1, 4, .inl f_8)), (a_26, .inl (cy 1, 4, .inl f_9))] H → va_D A [(a_1, .inr (10, [.ref a_2, .ref a_3])), (a_2, .inr (0, [.int i_4, .int i_5, .int i_6, .int i_7, .int i_8, .int i_9, .int i_10, .int i_11, .ref a_4, .ref a_5, .ref a_6, .ref a_7, .ref a_8, .ref a_9, .ref a_10, .ref a_11, .ref a_12, .ref a_13])), (a_4, .inl (cy 1, 9, .inl f_0)), (a_5, .inl (cy 1, 9, .inl f_1)), (a_10, .inl (cy 1, 30, .inl f_2)), (a_3, .inl (cy 5, 3, .inr (.inr (.inr (.inr (va_up (va_up (va_up (fun _ => none) 0 (some a_14)) 1 (some a_15)) 2 (some a_16))))))), (a_14, .inr (1, [.ref a_17, .ref a_18, .int i_12, .int i_13, .int i_14])), (a_17, .inl (cy 1, 2100, .inl f_3)), (a_15, .inr (1, [.ref a_19, .ref a_20, .int i_15, .int i_16, .int i_17])), (a_19, .inl (cy 1, 2100, .inl f_4)), (a_16, .inr (1, [.ref a_21, .ref a_22, .int i_18, .int i_19, .int i_20])), (a_21, .inl (cy 1, 2100, .inl f_5)), (a_0, .inr (4, [.ref a_1, .ref a_23, .ref a_24, .ref a_25, .ref a_26, .int v1, .int i_3, .int 0, .int 0])), (a_23, .inl (cy 1, 70, .inl z41_13_2091)), (a_24, .inl (cy 1, 7, .inl f_7)), (a_25, .inl (cy 1, 4, .inl f_8)), (a_26, .inl (cy 1, 4, .inl f_9))] → va_S A s.heap H locs → ∀ (ls : Array Slot), lv_has ls 7 [(6, .int x41_6_2090), (5, .int x29_5_1873), (0, .ref a_0), (1, .int i_0), (2, .int i_1), (3, .int i_2), (4, .int i_3)] → W p l e R s m args below meth c H locs 0 0 Q (F0 m 41 ls []) := by
          intro n
          induction n with
          | zero => intro x41_6_2090 z41_13_2091 rx41_6_2090 rz41_13_2091 hm; exact absurd hm (Nat.not_lt_zero _)
          | succ n ih41 =>
            intro x41_6_2090 z41_13_2091 rx41_6_2090 rz41_13_2091 hm41 H locs hP hD hS ls hl
            refine lv_iload hx hb dX4_seek_41 (lv_at hl 0 rfl) ?_
            refine lv_aload_n hx hb dX4_seek_43 rfl (lv_at hl 2 rfl) ?_
            refine va_get (D := G) (ci := 4) (v := .ref a_1) (C := RX4) (T := TX4) (N := 9) hx hb hts (mm_i inlX4) hown hK.1 hP 12 rfl rfl 0 (by decide) (mm_h hts mm_w124) (fun _ h9 => h9) rfl dX4_seek_44 ?_
            refine va_get (D := G) (ci := 10) (v := .ref a_2) (C := RX10) (T := TX10) (N := 2) hx hb hts (mm_i inlX10) hown hK.1 hP 0 rfl rfl 0 (by decide) (mm_h hts mm_w1363) (fun _ h9 => h9) rfl dX4_seek_47 ?_
            refine va_get (D := G) (ci := 0) (v := .int i_8) (C := RX0) (T := TX0) (N := 18) hx hb hts (mm_i inlX0) hown hK.1 hP 1 rfl rfl 4 (by decide) (mm_h hts mm_w1364) (fun _ h9 => h9) rfl dX4_seek_50 ?_
            refine lv_icmp_gt (tgt := 89) hx hb dX4_seek_53 (by decide) (fun c2093 => ?_) (fun c2093 => ?_)
            · have q2094 := mm_ltR (lo := 1) (mm_lt c2093) h5 rx41_6_2090 (by decide)
              obtain ⟨v2095, ev2095⟩ : ∃ y : Int32, y = x29_5_1873 + 1 := ⟨_, rfl⟩
              refine lv_iinc (v := v2095) (lv' := [(5, .int v2095), (6, .int x41_6_2090), (0, .ref a_0), (1, .int i_0), (2, .int i_1), (3, .int i_2), (4, .int i_3)]) hx hb dX4_seek_89 hl (k := 1) rfl (by rw [ev2095]; rfl) (by decide) rfl ?_
              clear hl
              clear ls
              intro ls hl
              have rv2095 : mm_rg v2095 1 7 := mm_add ev2095 q1962 mm_k1 (by decide) (by decide)
              have tv2095 := mm_addEc ev2095 q1962 mm_k1 (by decide) (k := 1) (by decide)
              refine lv_goto (tgt := 29) hx hb dX4_seek_92 (by decide) ?_
              exact ih29 v2095 z41_13_2091 (mm_wk rv2095 (by decide)) rz41_13_2091 (mm_mu hm29 tv2095 (by decide) (rv2095).2 (by decide)) H locs hP hD hS ls (lv_sub hl [0, 2, 3, 4, 5, 6] rfl)
            · have q2096 := mm_leL (mm_nlt c2093) rx41_6_2090 h5
              refine lv_aload_n hx hb dX4_seek_56 rfl (lv_at hl 2 rfl) ?_
              refine va_get (D := G) (ci := 4) (v := .ref a_23) (C := RX4) (T := TX4) (N := 9) hx hb hts (mm_i inlX4) hown hK.1 hP 12 rfl rfl 1 (by decide) (mm_h hts mm_w120) (fun _ h9 => h9) rfl dX4_seek_57 ?_
              refine lv_iload hx hb dX4_seek_60 (lv_at hl 1 rfl) ?_
              refine lv_bipush (v := 10) hx hb dX4_seek_62 (by decide) ?_
              refine lv_imul hx hb dX4_seek_64 ?_
              refine lv_topi (fun v2097 ev2097 => ?_)
              have rv2097 : mm_rg v2097 0 60 := mm_mul ev2097 q1962 mm_k10 (by decide) (by decide)
              refine lv_iload hx hb dX4_seek_65 (lv_at hl 0 rfl) ?_
              refine lv_iadd hx hb dX4_seek_67 ?_
              refine lv_topi (fun v2098 ev2098 => ?_)
              have rv2098 : mm_rg v2098 0 69 := mm_add ev2098 rv2097 q2096 (by decide) (by decide)
              have tv2098 := mm_addE ev2098 rv2097 q2096 (by decide)
              refine lv_aload_n hx hb dX4_seek_68 rfl (lv_at hl 2 rfl) ?_
              refine va_get (D := G) (ci := 4) (v := .ref a_1) (C := RX4) (T := TX4) (N := 9) hx hb hts (mm_i inlX4) hown hK.1 hP 12 rfl rfl 0 (by decide) (mm_h hts mm_w124) (fun _ h9 => h9) rfl dX4_seek_69 ?_
              refine lv_iload_n hx hb dX4_seek_72 rfl (lv_at hl 3 rfl) ?_
              refine lv_iload_n hx hb dX4_seek_73 rfl (lv_at hl 4 rfl) ?_
              refine lv_iload hx hb dX4_seek_74 (lv_at hl 1 rfl) ?_
              refine lv_iadd hx hb dX4_seek_76 ?_
              refine lv_topi (fun v2099 ev2099 => ?_)
              have rv2099 : mm_rg v2099 0 1000000007 := mm_add ev2099 h1 q1962 (by decide) (by decide)
              have tv2099 := mm_addE ev2099 h1 q1962 (by decide)
              refine lv_iload hx hb dX4_seek_77 (lv_at hl 0 rfl) ?_
              refine mm_finir (va_runV (As := [.int i_0, .int v2099, .int x41_6_2090]) (rest := [.int v2098, .ref a_23]) ⟨hx, hb, hml, hown, hts⟩ (K355_X10_meaning l G cy H.size a_1 i_0 v2099 x41_6_2090 a_2 a_3 i_4 i_5 i_6 i_7 i_8 i_9 i_10 i_11 a_4 a_5 a_6 a_7 a_8 a_9 a_10 a_11 a_12 a_13 f_2 a_14 a_15 a_16 a_17 a_18 i_12 i_13 i_14 f_3 a_19 a_20 i_15 i_16 i_17 f_4 a_21 a_22 i_18 i_19 i_20 f_5 h0 (mm_wk rv2099 (by decide)) q2096 h8 h9 h10 h11 h12 h13 h14) (cwV 3 hts (mm_gV mm_w1365 mm_w666 mm_w667 mm_w23 mm_w668) rfl rfl rfl hd_X10_meaning ⟨by rw [hRf]; exact Nat.le_of_ble_eq_true rfl, by rw [hRl]; exact Nat.le_of_ble_eq_true rfl⟩) (mm_preV hK hZ hS hA hP hD [0, 1, 4, 5, 6, 7, 8, 9, 10, 11] rfl rfl 0 rfl rfl rfl) rfl rfl hl.1 rfl (lv_room (Nat.le_of_ble_eq_true rfl)) dX4_seek_79 ⟨by rw [hRc]; exact Nat.le_of_ble_eq_true rfl, by rw [hRs]; exact Nat.le_of_ble_eq_true rfl⟩) hP hD hS hA [0, 1, 4, 5, 6, 7, 8, 9, 10, 11] rfl (fun _ => rfl) ?_
              clear hP hD hS
              clear H locs
              intro v2100 _u H locs hw hP hD hS
              have w2101 := hw
              refine va_iast hx hb hK.1 hP hD hS 13 1 rfl rfl (mm_in rv2098 (by decide)) dX4_seek_82 ?_
              clear hP hD hS
              clear H locs
              obtain ⟨g2102, eg2102⟩ : ∃ z : Nat → Int32, z = upd z41_13_2091 v2098.toNatClampNeg v2100 := ⟨_, rfl⟩
              rw [← eg2102]
              intro H locs (hP : va_P G vwCl [(a_1, .inr (10, [.ref a_2, .ref a_3])), (a_2, .inr (0, [.int i_4, .int i_5, .int i_6, .int i_7, .int i_8, .int i_9, .int i_10, .int i_11, .ref a_4, .ref a_5, .ref a_6, .ref a_7, .ref a_8, .ref a_9, .ref a_10, .ref a_11, .ref a_12, .ref a_13])), (a_4, .inl (cy 1, 9, .inl f_0)), (a_5, .inl (cy 1, 9, .inl f_1)), (a_10, .inl (cy 1, 30, .inl f_2)), (a_3, .inl (cy 5, 3, .inr (.inr (.inr (.inr (va_up (va_up (va_up (fun _ => none) 0 (some a_14)) 1 (some a_15)) 2 (some a_16))))))), (a_14, .inr (1, [.ref a_17, .ref a_18, .int i_12, .int i_13, .int i_14])), (a_17, .inl (cy 1, 2100, .inl f_3)), (a_15, .inr (1, [.ref a_19, .ref a_20, .int i_15, .int i_16, .int i_17])), (a_19, .inl (cy 1, 2100, .inl f_4)), (a_16, .inr (1, [.ref a_21, .ref a_22, .int i_18, .int i_19, .int i_20])), (a_21, .inl (cy 1, 2100, .inl f_5)), (a_0, .inr (4, [.ref a_1, .ref a_23, .ref a_24, .ref a_25, .ref a_26, .int v1, .int i_3, .int 0, .int 0])), (a_23, .inl (cy 1, 70, .inl g2102)), (a_24, .inl (cy 1, 7, .inl f_7)), (a_25, .inl (cy 1, 4, .inl f_8)), (a_26, .inl (cy 1, 4, .inl f_9))] H) (hD : va_D A [(a_1, .inr (10, [.ref a_2, .ref a_3])), (a_2, .inr (0, [.int i_4, .int i_5, .int i_6, .int i_7, .int i_8, .int i_9, .int i_10, .int i_11, .ref a_4, .ref a_5, .ref a_6, .ref a_7, .ref a_8, .ref a_9, .ref a_10, .ref a_11, .ref a_12, .ref a_13])), (a_4, .inl (cy 1, 9, .inl f_0)), (a_5, .inl (cy 1, 9, .inl f_1)), (a_10, .inl (cy 1, 30, .inl f_2)), (a_3, .inl (cy 5, 3, .inr (.inr (.inr (.inr (va_up (va_up (va_up (fun _ => none) 0 (some a_14)) 1 (some a_15)) 2 (some a_16))))))), (a_14, .inr (1, [.ref a_17, .ref a_18, .int i_12, .int i_13, .int i_14])), (a_17, .inl (cy 1, 2100, .inl f_3)), (a_15, .inr (1, [.ref a_19, .ref a_20, .int i_15, .int i_16, .int i_17])), (a_19, .inl (cy 1, 2100, .inl f_4)), (a_16, .inr (1, [.ref a_21, .ref a_22, .int i_18, .int i_19, .int i_20])), (a_21, .inl (cy 1, 2100, .inl f_5)), (a_0, .inr (4, [.ref a_1, .ref a_23, .ref a_24, .ref a_25, .ref a_26, .int v1, .int i_3, .int 0, .int 0])), (a_23, .inl (cy 1, 70, .inl g2102)), (a_24, .inl (cy 1, 7, .inl f_7)), (a_25, .inl (cy 1, 4, .inl f_8)), (a_26, .inl (cy 1, 4, .inl f_9))]) hS
              have rg2102 : mm_ar g2102 0 9 := by rw [eg2102]; exact mm_ar_upd (mm_ar_wk rz41_13_2091 (by decide)) (mm_wk w2101 (by decide)) _
              obtain ⟨v2103, ev2103⟩ : ∃ y : Int32, y = x41_6_2090 + 1 := ⟨_, rfl⟩
              refine lv_iinc (v := v2103) (lv' := [(6, .int v2103), (5, .int x29_5_1873), (0, .ref a_0), (1, .int i_0), (2, .int i_1), (3, .int i_2), (4, .int i_3)]) hx hb dX4_seek_83 hl (k := 0) rfl (by rw [ev2103]; rfl) (by decide) rfl ?_
              clear hl
              clear ls
              intro ls hl
              have rv2103 : mm_rg v2103 1 10 := mm_add ev2103 q2096 mm_k1 (by decide) (by decide)
              have tv2103 := mm_addEc ev2103 q2096 mm_k1 (by decide) (k := 1) (by decide)
              refine lv_goto (tgt := 41) hx hb dX4_seek_86 (by decide) ?_
              exact ih41 v2103 g2102 (mm_wk rv2103 (by decide)) rg2102 (mm_mu hm41 tv2103 (by decide) (rv2103).2 (by decide)) H locs hP hD hS ls (lv_sub hl [0, 1, 2, 3, 4, 5, 6] rfl)
        exact L41_2091 _ 0 z29_13_1874 (mm_wk mm_k0 (by decide)) rz29_13_1874 (Nat.lt_succ_self _) H locs hP hD hS ls (lv_sub hl [0, 1, 2, 3, 4, 5, 6] rfl)
  exact L29_1874 _ 0 f_6 (mm_wk mm_k0 (by decide)) h17 (Nat.lt_succ_self _) H locs hP hD hS ls (lv_sub hl [0, 1, 2, 3, 4, 5] rfl)

set_option maxHeartbeats 4000000 in
set_option maxRecDepth 100000 in
theorem K478_X11_wording (l : Launch) (G : va_G) (cy : Nat → ClassId) (sz : Nat) (a_0 : Nat) (i_0 : Int32) (i_1 : Int32) (i_2 : Int32) (i_3 : Int32) (a_1 : Nat) (a_2 : Nat) (a_3 : Nat) (a_4 : Nat) (a_5 : Nat) (a_6 : Nat) (a_7 : Nat) (a_8 : Nat) (a_9 : Nat) (a_10 : Nat) (a_11 : Nat) (a_12 : Nat) (a_13 : Nat) (i_4 : Int32) (i_5 : Int32) (i_6 : Int32) (i_7 : Int32) (i_8 : Int32) (i_9 : Int32) (i_10 : Int32) (i_11 : Int32) (a_14 : Nat) (a_15 : Nat) (a_16 : Nat) (a_17 : Nat) (a_18 : Nat) (a_19 : Nat) (a_20 : Nat) (a_21 : Nat) (a_22 : Nat) (a_23 : Nat) (f_0 : Nat → Int32) (f_1 : Nat → Int32) (f_2 : Nat → Int32) (a_24 : Nat) (a_25 : Nat) (a_26 : Nat) (a_27 : Nat) (a_28 : Nat) (i_12 : Int32) (i_13 : Int32) (i_14 : Int32) (f_3 : Nat → Int32) (a_29 : Nat) (a_30 : Nat) (i_15 : Int32) (i_16 : Int32) (i_17 : Int32) (f_4 : Nat → Int32) (a_31 : Nat) (a_32 : Nat) (i_18 : Int32) (i_19 : Int32) (i_20 : Int32) (f_5 : Nat → Int32) (a_33 : Nat) (a_34 : Nat) (a_35 : Nat) (a_36 : Nat) (i_21 : Int32) (i_22 : Int32) (i_23 : Int32) (i_24 : Int32) (f_6 : Nat → Int32) (f_7 : Nat → Int32) (f_8 : Nat → Int32) (f_9 : Nat → Int32) (h0 : mm_rg i_7 0 99) (h1 : mm_rg i_8 0 9) (h2 : mm_rg i_9 0 3) (h3 : mm_ar f_0 (-1) 4) (h4 : mm_ar f_1 0 99) (h5 : mm_ar f_2 0 9) (h6 : mm_rg i_14 (-2147483648) 210) (h7 : mm_ar f_3 0 9) (h8 : mm_rg i_17 (-2147483648) 210) (h9 : mm_ar f_4 0 9) (h10 : mm_rg i_20 (-2147483648) 210) (h11 : mm_ar f_5 0 9) (h12 : mm_rg i_21 0 7) (h13 : mm_rg i_23 0 4) (h14 : mm_ar f_6 0 9) (h15 : mm_ar f_8 0 9)  : mm_CI l yX11_wording (mm_ws yX11_wording cX11_wording 5 (some .int)) ({ frames := 5, cells := 0, slots := 0, locals := 134 } : Room) G cy sz [(a_0, .inr (11, [.ref a_1, .ref a_2, .ref a_3, .ref a_4, .ref a_5, .ref a_6, .ref a_7, .ref a_8, .ref a_9, .ref a_10, .ref a_11])), (a_3, .inr (10, [.ref a_12, .ref a_13])), (a_12, .inr (0, [.int i_4, .int i_5, .int i_6, .int i_7, .int i_8, .int i_9, .int i_10, .int i_11, .ref a_14, .ref a_15, .ref a_16, .ref a_17, .ref a_18, .ref a_19, .ref a_20, .ref a_21, .ref a_22, .ref a_23])), (a_14, .inl (cy 1, 9, .inl f_0)), (a_15, .inl (cy 1, 9, .inl f_1)), (a_20, .inl (cy 1, 30, .inl f_2)), (a_13, .inl (cy 5, 3, .inr (.inr (.inr (.inr (va_up (va_up (va_up (fun _ => none) 0 (some a_24)) 1 (some a_25)) 2 (some a_26))))))), (a_24, .inr (1, [.ref a_27, .ref a_28, .int i_12, .int i_13, .int i_14])), (a_27, .inl (cy 1, 2100, .inl f_3)), (a_25, .inr (1, [.ref a_29, .ref a_30, .int i_15, .int i_16, .int i_17])), (a_29, .inl (cy 1, 2100, .inl f_4)), (a_26, .inr (1, [.ref a_31, .ref a_32, .int i_18, .int i_19, .int i_20])), (a_31, .inl (cy 1, 2100, .inl f_5)), (a_9, .inr (4, [.ref a_3, .ref a_33, .ref a_34, .ref a_35, .ref a_36, .int i_21, .int i_22, .int i_23, .int i_24])), (a_33, .inl (cy 1, 70, .inl f_6)), (a_34, .inl (cy 1, 7, .inl f_7)), (a_35, .inl (cy 1, 4, .inl f_8)), (a_36, .inl (cy 1, 4, .inl f_9))] [.ref a_0, .int i_0, .int i_1, .int i_2, .int i_3] (fun u : Int32 × Int32 × Int32 × Int32 × (Nat → Int32) × (Nat → Int32) × (Nat → Int32) × (Nat → Int32) => [(a_0, .inr (11, [.ref a_1, .ref a_2, .ref a_3, .ref a_4, .ref a_5, .ref a_6, .ref a_7, .ref a_8, .ref a_9, .ref a_10, .ref a_11])), (a_3, .inr (10, [.ref a_12, .ref a_13])), (a_12, .inr (0, [.int i_4, .int i_5, .int i_6, .int i_7, .int i_8, .int i_9, .int i_10, .int i_11, .ref a_14, .ref a_15, .ref a_16, .ref a_17, .ref a_18, .ref a_19, .ref a_20, .ref a_21, .ref a_22, .ref a_23])), (a_14, .inl (cy 1, 9, .inl f_0)), (a_15, .inl (cy 1, 9, .inl f_1)), (a_20, .inl (cy 1, 30, .inl f_2)), (a_13, .inl (cy 5, 3, .inr (.inr (.inr (.inr (va_up (va_up (va_up (fun _ => none) 0 (some a_24)) 1 (some a_25)) 2 (some a_26))))))), (a_24, .inr (1, [.ref a_27, .ref a_28, .int i_12, .int i_13, .int i_14])), (a_27, .inl (cy 1, 2100, .inl f_3)), (a_25, .inr (1, [.ref a_29, .ref a_30, .int i_15, .int i_16, .int i_17])), (a_29, .inl (cy 1, 2100, .inl f_4)), (a_26, .inr (1, [.ref a_31, .ref a_32, .int i_18, .int i_19, .int i_20])), (a_31, .inl (cy 1, 2100, .inl f_5)), (a_9, .inr (4, [.ref a_3, .ref a_33, .ref a_34, .ref a_35, .ref a_36, .int u.1, .int u.2.1, .int u.2.2.1, .int u.2.2.2.1])), (a_33, .inl (cy 1, 70, .inl u.2.2.2.2.1)), (a_34, .inl (cy 1, 7, .inl u.2.2.2.2.2.1)), (a_35, .inl (cy 1, 4, .inl u.2.2.2.2.2.2.1)), (a_36, .inl (cy 1, 4, .inl u.2.2.2.2.2.2.2))]) (fun (r : Int32) (u : Int32 × Int32 × Int32 × Int32 × (Nat → Int32) × (Nat → Int32) × (Nat → Int32) × (Nat → Int32)) => mm_rg u.1 0 7 ∧ mm_rg u.2.2.1 0 4 ∧ mm_ar u.2.2.2.2.1 0 9 ∧ mm_ar u.2.2.2.2.2.2.1 0 9 ∧ mm_rg r (-2) 4) 0 0 := by
  refine mm_begin (lv := [(0, .ref a_0), (1, .int i_0), (2, .int i_1), (3, .int i_2), (4, .int i_3)]) (by decide) (Nat.le_of_ble_eq_true rfl) rfl ?_
  intro p e s m below meth c A ls R args Q H locs hRe hQ hAe hx hb hr hlocks hml hown hnm hts hsz hA hS hP hK hD hZ hl
  have hRf : R.frames = 5 := by rw [hRe]
  have hRl : R.locals = 134 := by rw [hRe]
  have hRc : R.cells = 0 := by rw [hRe]
  have hRs : R.slots = 0 := by rw [hRe]
  refine lv_aload_n hx hb dX11_wording_0 rfl (lv_at hl 0 rfl) ?_
  refine lv_iload_n hx hb dX11_wording_1 rfl (lv_at hl 1 rfl) ?_
  refine lv_iload_n hx hb dX11_wording_2 rfl (lv_at hl 2 rfl) ?_
  refine lv_iload_n hx hb dX11_wording_3 rfl (lv_at hl 3 rfl) ?_
  refine lv_iload hx hb dX11_wording_4 (lv_at hl 4 rfl) ?_
  refine mm_finir (va_runV (As := [.int i_0, .int i_1, .int i_2, .int i_3]) (rest := []) ⟨hx, hb, hml, hown, hts⟩ (K454_X11_isTask l G cy H.size a_0 i_0 i_1 i_2 i_3 a_1 a_2 a_3 a_4 a_5 a_6 a_7 a_8 a_9 a_10 a_11 a_12 a_13 i_4 i_5 i_6 i_7 i_8 i_9 i_10 i_11 a_14 a_15 a_16 a_17 a_18 a_19 a_20 a_21 a_22 a_23 h2) (cwV 4 hts (mm_gV mm_w1350 mm_w1351 mm_w1352 mm_w2 mm_w1353) rfl rfl rfl hd_X11_isTask ⟨by rw [hRf]; exact Nat.le_of_ble_eq_true rfl, by rw [hRl]; exact Nat.le_of_ble_eq_true rfl⟩) (mm_preV hK hZ hS hA hP hD [0, 1, 2] rfl rfl 0 rfl rfl rfl) rfl rfl hl.1 rfl (lv_room (Nat.le_of_ble_eq_true rfl)) dX11_wording_6 ⟨by rw [hRc]; exact Nat.le_of_ble_eq_true rfl, by rw [hRs]; exact Nat.le_of_ble_eq_true rfl⟩) hP hD hS hA [0, 1, 2] rfl (fun _ => rfl) ?_
  clear hP hD hS
  clear H locs
  intro v1 _u H locs hw hP hD hS
  rcases hw with rfl | ⟨rfl, w2, w3, w4, w5⟩
  · refine lv_if_ne (tgt := 15) hx hb dX11_wording_9 (by decide) (fun c6 => ?_) (fun c6 => ?_)
    · have q7 := mm_neL (lo := 1) (mm_ne c6) mm_k0 mm_k0 (by decide) (by decide)
      exact mm_no q7 (by decide)
    · refine lv_bipush (v := (-2)) hx hb dX11_wording_12 (by decide) ?_
      subst hAe
      rw [hQ]
      exact W.iret (v := (-2)) hx hb hr (fun t ht hW => ⟨⟨(-2), (i_21, i_22, i_23, i_24, f_6, f_7, f_8, f_9), rfl, ⟨h12, h13, h14, h15, (mm_wk mm_km2 (by decide))⟩, by rw [ht]; exact hP, hK.warm hW, hD⟩, hS.F ht⟩) hS.2.2 dX11_wording_14
  · refine lv_if_ne (tgt := 15) hx hb dX11_wording_9 (by decide) (fun c8 => ?_) (fun c8 => ?_)
    · refine lv_aload_n hx hb dX11_wording_15 rfl (lv_at hl 0 rfl) ?_
      refine va_get (D := G) (ci := 11) (v := .ref a_9) (C := RX11) (T := TX11) (N := 11) hx hb hts (mm_i inlX11) hown hK.1 hP 0 rfl rfl 8 (by decide) (mm_h hts mm_w46) (fun _ h9 => h9) rfl dX11_wording_16 ?_
      refine lv_iload_n hx hb dX11_wording_19 rfl (lv_at hl 1 rfl) ?_
      refine lv_iload_n hx hb dX11_wording_20 rfl (lv_at hl 2 rfl) ?_
      refine lv_iload_n hx hb dX11_wording_21 rfl (lv_at hl 3 rfl) ?_
      refine lv_iload hx hb dX11_wording_22 (lv_at hl 4 rfl) ?_
      refine mm_finv (va_runV (As := [.int i_0, .int i_1, .int i_2, .int i_3]) (rest := []) ⟨hx, hb, hml, hown, hts⟩ (K477_X4_seek l G cy H.size a_9 i_0 i_1 i_2 i_3 a_3 a_12 a_13 i_4 i_5 i_6 i_7 i_8 i_9 i_10 i_11 a_14 a_15 a_16 a_17 a_18 a_19 a_20 a_21 a_22 a_23 f_0 f_1 f_2 a_24 a_25 a_26 a_27 a_28 i_12 i_13 i_14 f_3 a_29 a_30 i_15 i_16 i_17 f_4 a_31 a_32 i_18 i_19 i_20 f_5 a_33 a_34 a_35 a_36 i_21 i_22 i_23 i_24 f_6 f_7 f_8 f_9 w2 (mm_wk w3 (by decide)) w4 w5 h0 h1 h3 h4 h5 h6 h7 h8 h9 h10 h11 h12 h13 h14 h15) (cwV 4 hts (mm_gV mm_w1354 mm_w1355 mm_w1356 mm_w45 mm_w1357) rfl rfl rfl hd_X4_seek ⟨by rw [hRf]; exact Nat.le_of_ble_eq_true rfl, by rw [hRl]; exact Nat.le_of_ble_eq_true rfl⟩) (mm_preV hK hZ hS hA hP hD [1, 2, 3, 4, 5, 6, 7, 8, 9, 10, 11, 12, 13, 14, 15, 16, 17] rfl rfl 13 rfl rfl rfl) rfl rfl hl.1 rfl (lv_room (Nat.le_of_ble_eq_true rfl)) dX11_wording_24 ⟨by rw [hRc]; exact Nat.le_of_ble_eq_true rfl, by rw [hRs]; exact Nat.le_of_ble_eq_true rfl⟩) hP hD hS hA (fun u : Int32 × Int32 × Int32 × (Nat → Int32) × (Nat → Int32) × (Nat → Int32) × (Nat → Int32) => [(a_0, .inr (11, [.ref a_1, .ref a_2, .ref a_3, .ref a_4, .ref a_5, .ref a_6, .ref a_7, .ref a_8, .ref a_9, .ref a_10, .ref a_11])), (a_3, .inr (10, [.ref a_12, .ref a_13])), (a_12, .inr (0, [.int i_4, .int i_5, .int i_6, .int i_7, .int i_8, .int i_9, .int i_10, .int i_11, .ref a_14, .ref a_15, .ref a_16, .ref a_17, .ref a_18, .ref a_19, .ref a_20, .ref a_21, .ref a_22, .ref a_23])), (a_14, .inl (cy 1, 9, .inl f_0)), (a_15, .inl (cy 1, 9, .inl f_1)), (a_20, .inl (cy 1, 30, .inl f_2)), (a_13, .inl (cy 5, 3, .inr (.inr (.inr (.inr (va_up (va_up (va_up (fun _ => none) 0 (some a_24)) 1 (some a_25)) 2 (some a_26))))))), (a_24, .inr (1, [.ref a_27, .ref a_28, .int i_12, .int i_13, .int i_14])), (a_27, .inl (cy 1, 2100, .inl f_3)), (a_25, .inr (1, [.ref a_29, .ref a_30, .int i_15, .int i_16, .int i_17])), (a_29, .inl (cy 1, 2100, .inl f_4)), (a_26, .inr (1, [.ref a_31, .ref a_32, .int i_18, .int i_19, .int i_20])), (a_31, .inl (cy 1, 2100, .inl f_5)), (a_9, .inr (4, [.ref a_3, .ref a_33, .ref a_34, .ref a_35, .ref a_36, .int u.1, .int i_3, .int u.2.1, .int u.2.2.1])), (a_33, .inl (cy 1, 70, .inl u.2.2.2.1)), (a_34, .inl (cy 1, 7, .inl u.2.2.2.2.1)), (a_35, .inl (cy 1, 4, .inl u.2.2.2.2.2.1)), (a_36, .inl (cy 1, 4, .inl u.2.2.2.2.2.2))]) [1, 2, 3, 4, 5, 6, 7, 8, 9, 10, 11, 12, 13, 14, 15, 16, 17] [0] (n := 18) (fun _ => rfl) (by decide +kernel) (by decide +kernel) rfl (fun _ => rfl) (wr := [(a_0, .inr (11, [.ref a_1, .ref a_2, .ref a_3, .ref a_4, .ref a_5, .ref a_6, .ref a_7, .ref a_8, .ref a_9, .ref a_10, .ref a_11]))]) rfl (fun _ => rfl) (fun _ => rfl) ?_
      clear hP hD hS
      clear H locs
      intro u
      obtain ⟨n9, n10, n11, n12, n13, n14, n15⟩ := u
      intro H locs hw (hP : va_P G vwCl [(a_0, .inr (11, [.ref a_1, .ref a_2, .ref a_3, .ref a_4, .ref a_5, .ref a_6, .ref a_7, .ref a_8, .ref a_9, .ref a_10, .ref a_11])), (a_3, .inr (10, [.ref a_12, .ref a_13])), (a_12, .inr (0, [.int i_4, .int i_5, .int i_6, .int i_7, .int i_8, .int i_9, .int i_10, .int i_11, .ref a_14, .ref a_15, .ref a_16, .ref a_17, .ref a_18, .ref a_19, .ref a_20, .ref a_21, .ref a_22, .ref a_23])), (a_14, .inl (cy 1, 9, .inl f_0)), (a_15, .inl (cy 1, 9, .inl f_1)), (a_20, .inl (cy 1, 30, .inl f_2)), (a_13, .inl (cy 5, 3, .inr (.inr (.inr (.inr (va_up (va_up (va_up (fun _ => none) 0 (some a_24)) 1 (some a_25)) 2 (some a_26))))))), (a_24, .inr (1, [.ref a_27, .ref a_28, .int i_12, .int i_13, .int i_14])), (a_27, .inl (cy 1, 2100, .inl f_3)), (a_25, .inr (1, [.ref a_29, .ref a_30, .int i_15, .int i_16, .int i_17])), (a_29, .inl (cy 1, 2100, .inl f_4)), (a_26, .inr (1, [.ref a_31, .ref a_32, .int i_18, .int i_19, .int i_20])), (a_31, .inl (cy 1, 2100, .inl f_5)), (a_9, .inr (4, [.ref a_3, .ref a_33, .ref a_34, .ref a_35, .ref a_36, .int n9, .int i_3, .int n10, .int n11])), (a_33, .inl (cy 1, 70, .inl n12)), (a_34, .inl (cy 1, 7, .inl n13)), (a_35, .inl (cy 1, 4, .inl n14)), (a_36, .inl (cy 1, 4, .inl n15))] H) (hD : va_D A [(a_0, .inr (11, [.ref a_1, .ref a_2, .ref a_3, .ref a_4, .ref a_5, .ref a_6, .ref a_7, .ref a_8, .ref a_9, .ref a_10, .ref a_11])), (a_3, .inr (10, [.ref a_12, .ref a_13])), (a_12, .inr (0, [.int i_4, .int i_5, .int i_6, .int i_7, .int i_8, .int i_9, .int i_10, .int i_11, .ref a_14, .ref a_15, .ref a_16, .ref a_17, .ref a_18, .ref a_19, .ref a_20, .ref a_21, .ref a_22, .ref a_23])), (a_14, .inl (cy 1, 9, .inl f_0)), (a_15, .inl (cy 1, 9, .inl f_1)), (a_20, .inl (cy 1, 30, .inl f_2)), (a_13, .inl (cy 5, 3, .inr (.inr (.inr (.inr (va_up (va_up (va_up (fun _ => none) 0 (some a_24)) 1 (some a_25)) 2 (some a_26))))))), (a_24, .inr (1, [.ref a_27, .ref a_28, .int i_12, .int i_13, .int i_14])), (a_27, .inl (cy 1, 2100, .inl f_3)), (a_25, .inr (1, [.ref a_29, .ref a_30, .int i_15, .int i_16, .int i_17])), (a_29, .inl (cy 1, 2100, .inl f_4)), (a_26, .inr (1, [.ref a_31, .ref a_32, .int i_18, .int i_19, .int i_20])), (a_31, .inl (cy 1, 2100, .inl f_5)), (a_9, .inr (4, [.ref a_3, .ref a_33, .ref a_34, .ref a_35, .ref a_36, .int n9, .int i_3, .int n10, .int n11])), (a_33, .inl (cy 1, 70, .inl n12)), (a_34, .inl (cy 1, 7, .inl n13)), (a_35, .inl (cy 1, 4, .inl n14)), (a_36, .inl (cy 1, 4, .inl n15))]) hS
      obtain ⟨w16, w17, w18, w19⟩ := hw
      refine lv_aload_n hx hb dX11_wording_27 rfl (lv_at hl 0 rfl) ?_
      refine va_get (D := G) (ci := 11) (v := .ref a_9) (C := RX11) (T := TX11) (N := 11) hx hb hts (mm_i inlX11) hown hK.1 hP 0 rfl rfl 8 (by decide) (mm_h hts mm_w46) (fun _ h9 => h9) rfl dX11_wording_28 ?_
      refine va_get (D := G) (ci := 4) (v := .int n11) (C := RX4) (T := TX4) (N := 9) hx hb hts (mm_i inlX4) hown hK.1 hP 13 rfl rfl 8 (by decide) (mm_h hts mm_w1348) (fun _ h9 => h9) rfl dX11_wording_31 ?_
      refine lv_if_ne (tgt := 41) hx hb dX11_wording_34 (by decide) (fun c20 => ?_) (fun c20 => ?_)
      · refine lv_aload_n hx hb dX11_wording_41 rfl (lv_at hl 0 rfl) ?_
        refine va_get (D := G) (ci := 11) (v := .ref a_9) (C := RX11) (T := TX11) (N := 11) hx hb hts (mm_i inlX11) hown hK.1 hP 0 rfl rfl 8 (by decide) (mm_h hts mm_w46) (fun _ h9 => h9) rfl dX11_wording_42 ?_
        refine va_get (D := G) (ci := 4) (v := .int n10) (C := RX4) (T := TX4) (N := 9) hx hb hts (mm_i inlX4) hown hK.1 hP 13 rfl rfl 7 (by decide) (mm_h hts mm_w1349) (fun _ h9 => h9) rfl dX11_wording_45 ?_
        subst hAe
        rw [hQ]
        exact W.iret (v := n10) hx hb hr (fun t ht hW => ⟨⟨n10, (n9, i_3, n10, n11, n12, n13, n14, n15), rfl, ⟨(mm_wk w16 (by decide)), w17, w18, w19, (mm_wk w17 (by decide))⟩, by rw [ht]; exact hP, hK.warm hW, hD⟩, hS.F ht⟩) hS.2.2 dX11_wording_48
      · have q21 := mm_eqI (lo := 0) (hi := 0) c20 (mm_top n11) mm_k0 (by decide)
        refine lv_iconst (v := (-1)) hx hb dX11_wording_37 (by decide) ?_
        refine lv_goto (tgt := 48) hx hb dX11_wording_38 (by decide) ?_
        subst hAe
        rw [hQ]
        exact W.iret (v := (-1)) hx hb hr (fun t ht hW => ⟨⟨(-1), (n9, i_3, n10, n11, n12, n13, n14, n15), rfl, ⟨(mm_wk w16 (by decide)), w17, w18, w19, (mm_wk mm_km1 (by decide))⟩, by rw [ht]; exact hP, hK.warm hW, hD⟩, hS.F ht⟩) hS.2.2 dX11_wording_48
    · exact mm_eqN c8.symm mm_k0 mm_k1 (by decide)

set_option maxHeartbeats 4000000 in
set_option maxRecDepth 100000 in
theorem K479_X11_worded (l : Launch) (G : va_G) (cy : Nat → ClassId) (sz : Nat) (a_0 : Nat) (i_0 : Int32) (i_1 : Int32) (i_2 : Int32) (i_3 : Int32) (i_4 : Int32) (a_1 : Nat) (a_2 : Nat) (a_3 : Nat) (a_4 : Nat) (a_5 : Nat) (a_6 : Nat) (a_7 : Nat) (a_8 : Nat) (a_9 : Nat) (a_10 : Nat) (a_11 : Nat) (a_12 : Nat) (a_13 : Nat) (i_5 : Int32) (i_6 : Int32) (i_7 : Int32) (i_8 : Int32) (i_9 : Int32) (i_10 : Int32) (i_11 : Int32) (i_12 : Int32) (a_14 : Nat) (a_15 : Nat) (a_16 : Nat) (a_17 : Nat) (a_18 : Nat) (a_19 : Nat) (a_20 : Nat) (a_21 : Nat) (a_22 : Nat) (a_23 : Nat) (f_0 : Nat → Int32) (f_1 : Nat → Int32) (f_2 : Nat → Int32) (a_24 : Nat) (a_25 : Nat) (a_26 : Nat) (a_27 : Nat) (a_28 : Nat) (i_13 : Int32) (i_14 : Int32) (i_15 : Int32) (f_3 : Nat → Int32) (a_29 : Nat) (a_30 : Nat) (i_16 : Int32) (i_17 : Int32) (i_18 : Int32) (f_4 : Nat → Int32) (a_31 : Nat) (a_32 : Nat) (i_19 : Int32) (i_20 : Int32) (i_21 : Int32) (f_5 : Nat → Int32) (a_33 : Nat) (a_34 : Nat) (a_35 : Nat) (a_36 : Nat) (i_22 : Int32) (i_23 : Int32) (i_24 : Int32) (i_25 : Int32) (f_6 : Nat → Int32) (f_7 : Nat → Int32) (f_8 : Nat → Int32) (f_9 : Nat → Int32) (h0 : mm_rg i_8 0 99) (h1 : mm_rg i_9 0 9) (h2 : mm_rg i_10 0 3) (h3 : mm_ar f_0 (-1) 4) (h4 : mm_ar f_1 0 99) (h5 : mm_ar f_2 0 9) (h6 : mm_rg i_15 (-2147483648) 210) (h7 : mm_ar f_3 0 9) (h8 : mm_rg i_18 (-2147483648) 210) (h9 : mm_ar f_4 0 9) (h10 : mm_rg i_21 (-2147483648) 210) (h11 : mm_ar f_5 0 9) (h12 : mm_rg i_22 0 7) (h13 : mm_rg i_24 0 4) (h14 : mm_ar f_6 0 9) (h15 : mm_ar f_8 0 9)  : mm_CI l yX11_worded (mm_ws yX11_worded cX11_worded 6 (some .int)) ({ frames := 5, cells := 0, slots := 0, locals := 134 } : Room) G cy sz [(a_0, .inr (11, [.ref a_1, .ref a_2, .ref a_3, .ref a_4, .ref a_5, .ref a_6, .ref a_7, .ref a_8, .ref a_9, .ref a_10, .ref a_11])), (a_3, .inr (10, [.ref a_12, .ref a_13])), (a_12, .inr (0, [.int i_5, .int i_6, .int i_7, .int i_8, .int i_9, .int i_10, .int i_11, .int i_12, .ref a_14, .ref a_15, .ref a_16, .ref a_17, .ref a_18, .ref a_19, .ref a_20, .ref a_21, .ref a_22, .ref a_23])), (a_14, .inl (cy 1, 9, .inl f_0)), (a_15, .inl (cy 1, 9, .inl f_1)), (a_20, .inl (cy 1, 30, .inl f_2)), (a_13, .inl (cy 5, 3, .inr (.inr (.inr (.inr (va_up (va_up (va_up (fun _ => none) 0 (some a_24)) 1 (some a_25)) 2 (some a_26))))))), (a_24, .inr (1, [.ref a_27, .ref a_28, .int i_13, .int i_14, .int i_15])), (a_27, .inl (cy 1, 2100, .inl f_3)), (a_25, .inr (1, [.ref a_29, .ref a_30, .int i_16, .int i_17, .int i_18])), (a_29, .inl (cy 1, 2100, .inl f_4)), (a_26, .inr (1, [.ref a_31, .ref a_32, .int i_19, .int i_20, .int i_21])), (a_31, .inl (cy 1, 2100, .inl f_5)), (a_9, .inr (4, [.ref a_3, .ref a_33, .ref a_34, .ref a_35, .ref a_36, .int i_22, .int i_23, .int i_24, .int i_25])), (a_33, .inl (cy 1, 70, .inl f_6)), (a_34, .inl (cy 1, 7, .inl f_7)), (a_35, .inl (cy 1, 4, .inl f_8)), (a_36, .inl (cy 1, 4, .inl f_9))] [.ref a_0, .int i_0, .int i_1, .int i_2, .int i_3, .int i_4] (fun u : Int32 × Int32 × Int32 × Int32 × (Nat → Int32) × (Nat → Int32) × (Nat → Int32) × (Nat → Int32) => [(a_0, .inr (11, [.ref a_1, .ref a_2, .ref a_3, .ref a_4, .ref a_5, .ref a_6, .ref a_7, .ref a_8, .ref a_9, .ref a_10, .ref a_11])), (a_3, .inr (10, [.ref a_12, .ref a_13])), (a_12, .inr (0, [.int i_5, .int i_6, .int i_7, .int i_8, .int i_9, .int i_10, .int i_11, .int i_12, .ref a_14, .ref a_15, .ref a_16, .ref a_17, .ref a_18, .ref a_19, .ref a_20, .ref a_21, .ref a_22, .ref a_23])), (a_14, .inl (cy 1, 9, .inl f_0)), (a_15, .inl (cy 1, 9, .inl f_1)), (a_20, .inl (cy 1, 30, .inl f_2)), (a_13, .inl (cy 5, 3, .inr (.inr (.inr (.inr (va_up (va_up (va_up (fun _ => none) 0 (some a_24)) 1 (some a_25)) 2 (some a_26))))))), (a_24, .inr (1, [.ref a_27, .ref a_28, .int i_13, .int i_14, .int i_15])), (a_27, .inl (cy 1, 2100, .inl f_3)), (a_25, .inr (1, [.ref a_29, .ref a_30, .int i_16, .int i_17, .int i_18])), (a_29, .inl (cy 1, 2100, .inl f_4)), (a_26, .inr (1, [.ref a_31, .ref a_32, .int i_19, .int i_20, .int i_21])), (a_31, .inl (cy 1, 2100, .inl f_5)), (a_9, .inr (4, [.ref a_3, .ref a_33, .ref a_34, .ref a_35, .ref a_36, .int u.1, .int u.2.1, .int u.2.2.1, .int u.2.2.2.1])), (a_33, .inl (cy 1, 70, .inl u.2.2.2.2.1)), (a_34, .inl (cy 1, 7, .inl u.2.2.2.2.2.1)), (a_35, .inl (cy 1, 4, .inl u.2.2.2.2.2.2.1)), (a_36, .inl (cy 1, 4, .inl u.2.2.2.2.2.2.2))]) (fun (r : Int32) (u : Int32 × Int32 × Int32 × Int32 × (Nat → Int32) × (Nat → Int32) × (Nat → Int32) × (Nat → Int32)) => mm_rg u.1 0 7 ∧ mm_rg u.2.2.1 0 4 ∧ mm_ar u.2.2.2.2.1 0 9 ∧ mm_ar u.2.2.2.2.2.2.1 0 9 ∧ True) 0 0 := by
  refine mm_begin (lv := [(0, .ref a_0), (1, .int i_0), (2, .int i_1), (3, .int i_2), (4, .int i_3), (5, .int i_4)]) (by decide) (Nat.le_of_ble_eq_true rfl) rfl ?_
  intro p e s m below meth c A ls R args Q H locs hRe hQ hAe hx hb hr hlocks hml hown hnm hts hsz hA hS hP hK hD hZ hl
  have hRf : R.frames = 5 := by rw [hRe]
  have hRl : R.locals = 134 := by rw [hRe]
  have hRc : R.cells = 0 := by rw [hRe]
  have hRs : R.slots = 0 := by rw [hRe]
  refine lv_aload_n hx hb dX11_worded_0 rfl (lv_at hl 0 rfl) ?_
  refine lv_iload_n hx hb dX11_worded_1 rfl (lv_at hl 1 rfl) ?_
  refine lv_iload_n hx hb dX11_worded_2 rfl (lv_at hl 2 rfl) ?_
  refine lv_iload_n hx hb dX11_worded_3 rfl (lv_at hl 3 rfl) ?_
  refine lv_iload hx hb dX11_worded_4 (lv_at hl 4 rfl) ?_
  refine mm_finir (va_runV (As := [.int i_0, .int i_1, .int i_2, .int i_3]) (rest := []) ⟨hx, hb, hml, hown, hts⟩ (K454_X11_isTask l G cy H.size a_0 i_0 i_1 i_2 i_3 a_1 a_2 a_3 a_4 a_5 a_6 a_7 a_8 a_9 a_10 a_11 a_12 a_13 i_5 i_6 i_7 i_8 i_9 i_10 i_11 i_12 a_14 a_15 a_16 a_17 a_18 a_19 a_20 a_21 a_22 a_23 h2) (cwV 4 hts (mm_gV mm_w1350 mm_w1351 mm_w1352 mm_w2 mm_w1353) rfl rfl rfl hd_X11_isTask ⟨by rw [hRf]; exact Nat.le_of_ble_eq_true rfl, by rw [hRl]; exact Nat.le_of_ble_eq_true rfl⟩) (mm_preV hK hZ hS hA hP hD [0, 1, 2] rfl rfl 0 rfl rfl rfl) rfl rfl hl.1 rfl (lv_room (Nat.le_of_ble_eq_true rfl)) dX11_worded_6 ⟨by rw [hRc]; exact Nat.le_of_ble_eq_true rfl, by rw [hRs]; exact Nat.le_of_ble_eq_true rfl⟩) hP hD hS hA [0, 1, 2] rfl (fun _ => rfl) ?_
  clear hP hD hS
  clear H locs
  intro v1 _u H locs hw hP hD hS
  rcases hw with rfl | ⟨rfl, w2, w3, w4, w5⟩
  · refine lv_if_eq (tgt := 17) hx hb dX11_worded_9 (by decide) (fun c6 => ?_) (fun c6 => ?_)
    · refine lv_bipush (v := (-2)) hx hb dX11_worded_17 (by decide) ?_
      subst hAe
      rw [hQ]
      exact W.iret (v := (-2)) hx hb hr (fun t ht hW => ⟨⟨(-2), (i_22, i_23, i_24, i_25, f_6, f_7, f_8, f_9), rfl, ⟨h12, h13, h14, h15, trivial⟩, by rw [ht]; exact hP, hK.warm hW, hD⟩, hS.F ht⟩) hS.2.2 dX11_worded_19
    · have q7 := mm_neL (lo := 1) (mm_ne c6) mm_k0 mm_k0 (by decide) (by decide)
      exact mm_no q7 (by decide)
  · refine lv_if_eq (tgt := 17) hx hb dX11_worded_9 (by decide) (fun c8 => ?_) (fun c8 => ?_)
    · exact mm_eqN c8.symm mm_k0 mm_k1 (by decide)
    · refine lv_iload hx hb dX11_worded_12 (lv_at hl 5 rfl) ?_
      refine lv_if_ge (tgt := 20) hx hb dX11_worded_14 (by decide) (fun c9 => ?_) (fun c9 => ?_)
      · have q10 := mm_leR (mm_le c9) mm_k0 (mm_top i_4)
        refine lv_aload_n hx hb dX11_worded_20 rfl (lv_at hl 0 rfl) ?_
        refine va_get (D := G) (ci := 11) (v := .ref a_9) (C := RX11) (T := TX11) (N := 11) hx hb hts (mm_i inlX11) hown hK.1 hP 0 rfl rfl 8 (by decide) (mm_h hts mm_w46) (fun _ h9 => h9) rfl dX11_worded_21 ?_
        refine lv_iload_n hx hb dX11_worded_24 rfl (lv_at hl 1 rfl) ?_
        refine lv_iload_n hx hb dX11_worded_25 rfl (lv_at hl 2 rfl) ?_
        refine lv_iload_n hx hb dX11_worded_26 rfl (lv_at hl 3 rfl) ?_
        refine lv_iload hx hb dX11_worded_27 (lv_at hl 4 rfl) ?_
        refine mm_finv (va_runV (As := [.int i_0, .int i_1, .int i_2, .int i_3]) (rest := []) ⟨hx, hb, hml, hown, hts⟩ (K477_X4_seek l G cy H.size a_9 i_0 i_1 i_2 i_3 a_3 a_12 a_13 i_5 i_6 i_7 i_8 i_9 i_10 i_11 i_12 a_14 a_15 a_16 a_17 a_18 a_19 a_20 a_21 a_22 a_23 f_0 f_1 f_2 a_24 a_25 a_26 a_27 a_28 i_13 i_14 i_15 f_3 a_29 a_30 i_16 i_17 i_18 f_4 a_31 a_32 i_19 i_20 i_21 f_5 a_33 a_34 a_35 a_36 i_22 i_23 i_24 i_25 f_6 f_7 f_8 f_9 w2 (mm_wk w3 (by decide)) w4 w5 h0 h1 h3 h4 h5 h6 h7 h8 h9 h10 h11 h12 h13 h14 h15) (cwV 4 hts (mm_gV mm_w1354 mm_w1355 mm_w1356 mm_w45 mm_w1357) rfl rfl rfl hd_X4_seek ⟨by rw [hRf]; exact Nat.le_of_ble_eq_true rfl, by rw [hRl]; exact Nat.le_of_ble_eq_true rfl⟩) (mm_preV hK hZ hS hA hP hD [1, 2, 3, 4, 5, 6, 7, 8, 9, 10, 11, 12, 13, 14, 15, 16, 17] rfl rfl 13 rfl rfl rfl) rfl rfl hl.1 rfl (lv_room (Nat.le_of_ble_eq_true rfl)) dX11_worded_29 ⟨by rw [hRc]; exact Nat.le_of_ble_eq_true rfl, by rw [hRs]; exact Nat.le_of_ble_eq_true rfl⟩) hP hD hS hA (fun u : Int32 × Int32 × Int32 × (Nat → Int32) × (Nat → Int32) × (Nat → Int32) × (Nat → Int32) => [(a_0, .inr (11, [.ref a_1, .ref a_2, .ref a_3, .ref a_4, .ref a_5, .ref a_6, .ref a_7, .ref a_8, .ref a_9, .ref a_10, .ref a_11])), (a_3, .inr (10, [.ref a_12, .ref a_13])), (a_12, .inr (0, [.int i_5, .int i_6, .int i_7, .int i_8, .int i_9, .int i_10, .int i_11, .int i_12, .ref a_14, .ref a_15, .ref a_16, .ref a_17, .ref a_18, .ref a_19, .ref a_20, .ref a_21, .ref a_22, .ref a_23])), (a_14, .inl (cy 1, 9, .inl f_0)), (a_15, .inl (cy 1, 9, .inl f_1)), (a_20, .inl (cy 1, 30, .inl f_2)), (a_13, .inl (cy 5, 3, .inr (.inr (.inr (.inr (va_up (va_up (va_up (fun _ => none) 0 (some a_24)) 1 (some a_25)) 2 (some a_26))))))), (a_24, .inr (1, [.ref a_27, .ref a_28, .int i_13, .int i_14, .int i_15])), (a_27, .inl (cy 1, 2100, .inl f_3)), (a_25, .inr (1, [.ref a_29, .ref a_30, .int i_16, .int i_17, .int i_18])), (a_29, .inl (cy 1, 2100, .inl f_4)), (a_26, .inr (1, [.ref a_31, .ref a_32, .int i_19, .int i_20, .int i_21])), (a_31, .inl (cy 1, 2100, .inl f_5)), (a_9, .inr (4, [.ref a_3, .ref a_33, .ref a_34, .ref a_35, .ref a_36, .int u.1, .int i_3, .int u.2.1, .int u.2.2.1])), (a_33, .inl (cy 1, 70, .inl u.2.2.2.1)), (a_34, .inl (cy 1, 7, .inl u.2.2.2.2.1)), (a_35, .inl (cy 1, 4, .inl u.2.2.2.2.2.1)), (a_36, .inl (cy 1, 4, .inl u.2.2.2.2.2.2))]) [1, 2, 3, 4, 5, 6, 7, 8, 9, 10, 11, 12, 13, 14, 15, 16, 17] [0] (n := 18) (fun _ => rfl) (by decide +kernel) (by decide +kernel) rfl (fun _ => rfl) (wr := [(a_0, .inr (11, [.ref a_1, .ref a_2, .ref a_3, .ref a_4, .ref a_5, .ref a_6, .ref a_7, .ref a_8, .ref a_9, .ref a_10, .ref a_11]))]) rfl (fun _ => rfl) (fun _ => rfl) ?_
        clear hP hD hS
        clear H locs
        intro u
        obtain ⟨n11, n12, n13, n14, n15, n16, n17⟩ := u
        intro H locs hw (hP : va_P G vwCl [(a_0, .inr (11, [.ref a_1, .ref a_2, .ref a_3, .ref a_4, .ref a_5, .ref a_6, .ref a_7, .ref a_8, .ref a_9, .ref a_10, .ref a_11])), (a_3, .inr (10, [.ref a_12, .ref a_13])), (a_12, .inr (0, [.int i_5, .int i_6, .int i_7, .int i_8, .int i_9, .int i_10, .int i_11, .int i_12, .ref a_14, .ref a_15, .ref a_16, .ref a_17, .ref a_18, .ref a_19, .ref a_20, .ref a_21, .ref a_22, .ref a_23])), (a_14, .inl (cy 1, 9, .inl f_0)), (a_15, .inl (cy 1, 9, .inl f_1)), (a_20, .inl (cy 1, 30, .inl f_2)), (a_13, .inl (cy 5, 3, .inr (.inr (.inr (.inr (va_up (va_up (va_up (fun _ => none) 0 (some a_24)) 1 (some a_25)) 2 (some a_26))))))), (a_24, .inr (1, [.ref a_27, .ref a_28, .int i_13, .int i_14, .int i_15])), (a_27, .inl (cy 1, 2100, .inl f_3)), (a_25, .inr (1, [.ref a_29, .ref a_30, .int i_16, .int i_17, .int i_18])), (a_29, .inl (cy 1, 2100, .inl f_4)), (a_26, .inr (1, [.ref a_31, .ref a_32, .int i_19, .int i_20, .int i_21])), (a_31, .inl (cy 1, 2100, .inl f_5)), (a_9, .inr (4, [.ref a_3, .ref a_33, .ref a_34, .ref a_35, .ref a_36, .int n11, .int i_3, .int n12, .int n13])), (a_33, .inl (cy 1, 70, .inl n14)), (a_34, .inl (cy 1, 7, .inl n15)), (a_35, .inl (cy 1, 4, .inl n16)), (a_36, .inl (cy 1, 4, .inl n17))] H) (hD : va_D A [(a_0, .inr (11, [.ref a_1, .ref a_2, .ref a_3, .ref a_4, .ref a_5, .ref a_6, .ref a_7, .ref a_8, .ref a_9, .ref a_10, .ref a_11])), (a_3, .inr (10, [.ref a_12, .ref a_13])), (a_12, .inr (0, [.int i_5, .int i_6, .int i_7, .int i_8, .int i_9, .int i_10, .int i_11, .int i_12, .ref a_14, .ref a_15, .ref a_16, .ref a_17, .ref a_18, .ref a_19, .ref a_20, .ref a_21, .ref a_22, .ref a_23])), (a_14, .inl (cy 1, 9, .inl f_0)), (a_15, .inl (cy 1, 9, .inl f_1)), (a_20, .inl (cy 1, 30, .inl f_2)), (a_13, .inl (cy 5, 3, .inr (.inr (.inr (.inr (va_up (va_up (va_up (fun _ => none) 0 (some a_24)) 1 (some a_25)) 2 (some a_26))))))), (a_24, .inr (1, [.ref a_27, .ref a_28, .int i_13, .int i_14, .int i_15])), (a_27, .inl (cy 1, 2100, .inl f_3)), (a_25, .inr (1, [.ref a_29, .ref a_30, .int i_16, .int i_17, .int i_18])), (a_29, .inl (cy 1, 2100, .inl f_4)), (a_26, .inr (1, [.ref a_31, .ref a_32, .int i_19, .int i_20, .int i_21])), (a_31, .inl (cy 1, 2100, .inl f_5)), (a_9, .inr (4, [.ref a_3, .ref a_33, .ref a_34, .ref a_35, .ref a_36, .int n11, .int i_3, .int n12, .int n13])), (a_33, .inl (cy 1, 70, .inl n14)), (a_34, .inl (cy 1, 7, .inl n15)), (a_35, .inl (cy 1, 4, .inl n16)), (a_36, .inl (cy 1, 4, .inl n17))]) hS
        obtain ⟨w18, w19, w20, w21⟩ := hw
        refine lv_aload_n hx hb dX11_worded_32 rfl (lv_at hl 0 rfl) ?_
        refine va_get (D := G) (ci := 11) (v := .ref a_9) (C := RX11) (T := TX11) (N := 11) hx hb hts (mm_i inlX11) hown hK.1 hP 0 rfl rfl 8 (by decide) (mm_h hts mm_w46) (fun _ h9 => h9) rfl dX11_worded_33 ?_
        refine va_get (D := G) (ci := 4) (v := .int n13) (C := RX4) (T := TX4) (N := 9) hx hb hts (mm_i inlX4) hown hK.1 hP 13 rfl rfl 8 (by decide) (mm_h hts mm_w1348) (fun _ h9 => h9) rfl dX11_worded_36 ?_
        refine lv_if_eq (tgt := 54) hx hb dX11_worded_39 (by decide) (fun c22 => ?_) (fun c22 => ?_)
        · have q23 := mm_eqI (lo := 0) (hi := 0) c22 (mm_top n13) mm_k0 (by decide)
          refine lv_iconst (v := (-1)) hx hb dX11_worded_54 (by decide) ?_
          subst hAe
          rw [hQ]
          exact W.iret (v := (-1)) hx hb hr (fun t ht hW => ⟨⟨(-1), (n11, i_3, n12, n13, n14, n15, n16, n17), rfl, ⟨(mm_wk w18 (by decide)), w19, w20, w21, trivial⟩, by rw [ht]; exact hP, hK.warm hW, hD⟩, hS.F ht⟩) hS.2.2 dX11_worded_55
        · refine lv_iload hx hb dX11_worded_42 (lv_at hl 5 rfl) ?_
          refine lv_aload_n hx hb dX11_worded_44 rfl (lv_at hl 0 rfl) ?_
          refine va_get (D := G) (ci := 11) (v := .ref a_9) (C := RX11) (T := TX11) (N := 11) hx hb hts (mm_i inlX11) hown hK.1 hP 0 rfl rfl 8 (by decide) (mm_h hts mm_w46) (fun _ h9 => h9) rfl dX11_worded_45 ?_
          refine va_get (D := G) (ci := 4) (v := .int n12) (C := RX4) (T := TX4) (N := 9) hx hb hts (mm_i inlX4) hown hK.1 hP 13 rfl rfl 7 (by decide) (mm_h hts mm_w1349) (fun _ h9 => h9) rfl dX11_worded_48 ?_
          refine lv_icmp_lt (tgt := 56) hx hb dX11_worded_51 (by decide) (fun c24 => ?_) (fun c24 => ?_)
          · have q25 := mm_ltL (h := 3) (mm_lt c24) q10 w19 (by decide)
            have q26 := mm_ltR (lo := 1) (mm_lt c24) q10 w19 (by decide)
            refine lv_aload_n hx hb dX11_worded_56 rfl (lv_at hl 0 rfl) ?_
            refine va_get (D := G) (ci := 11) (v := .ref a_9) (C := RX11) (T := TX11) (N := 11) hx hb hts (mm_i inlX11) hown hK.1 hP 0 rfl rfl 8 (by decide) (mm_h hts mm_w46) (fun _ h9 => h9) rfl dX11_worded_57 ?_
            refine va_get (D := G) (ci := 4) (v := .ref a_36) (C := RX4) (T := TX4) (N := 9) hx hb hts (mm_i inlX4) hown hK.1 hP 13 rfl rfl 4 (by decide) (mm_h hts mm_w1417) (fun _ h9 => h9) rfl dX11_worded_60 ?_
            refine lv_iload hx hb dX11_worded_63 (lv_at hl 5 rfl) ?_
            refine va_iald hx hb hK.1 hP 17 1 rfl rfl (mm_in q25 (by decide)) dX11_worded_65 ?_
            refine lv_topi (fun v27 ev27 => ?_)
            subst hAe
            rw [hQ]
            exact W.iret (v := v27) hx hb hr (fun t ht hW => ⟨⟨v27, (n11, i_3, n12, n13, n14, n15, n16, n17), rfl, ⟨(mm_wk w18 (by decide)), (mm_wk q26 (by decide)), w20, w21, trivial⟩, by rw [ht]; exact hP, hK.warm hW, hD⟩, hS.F ht⟩) hS.2.2 dX11_worded_66
          · refine lv_iconst (v := (-1)) hx hb dX11_worded_54 (by decide) ?_
            subst hAe
            rw [hQ]
            exact W.iret (v := (-1)) hx hb hr (fun t ht hW => ⟨⟨(-1), (n11, i_3, n12, n13, n14, n15, n16, n17), rfl, ⟨(mm_wk w18 (by decide)), w19, w20, w21, trivial⟩, by rw [ht]; exact hP, hK.warm hW, hD⟩, hS.F ht⟩) hS.2.2 dX11_worded_55
      · have q28 := mm_ltL (h := (-1)) (mm_nle c9) (mm_top i_4) mm_k0 (by decide)
        refine lv_bipush (v := (-2)) hx hb dX11_worded_17 (by decide) ?_
        subst hAe
        rw [hQ]
        exact W.iret (v := (-2)) hx hb hr (fun t ht hW => ⟨⟨(-2), (i_22, i_23, i_24, i_25, f_6, f_7, f_8, f_9), rfl, ⟨h12, h13, h14, h15, trivial⟩, by rw [ht]; exact hP, hK.warm hW, hD⟩, hS.F ht⟩) hS.2.2 dX11_worded_19

set_option maxHeartbeats 4000000 in
set_option maxRecDepth 100000 in
theorem K480_X11_wordings (l : Launch) (G : va_G) (cy : Nat → ClassId) (sz : Nat) (a_0 : Nat) (i_0 : Int32) (i_1 : Int32) (i_2 : Int32) (i_3 : Int32) (a_1 : Nat) (a_2 : Nat) (a_3 : Nat) (a_4 : Nat) (a_5 : Nat) (a_6 : Nat) (a_7 : Nat) (a_8 : Nat) (a_9 : Nat) (a_10 : Nat) (a_11 : Nat) (a_12 : Nat) (a_13 : Nat) (i_4 : Int32) (i_5 : Int32) (i_6 : Int32) (i_7 : Int32) (i_8 : Int32) (i_9 : Int32) (i_10 : Int32) (i_11 : Int32) (a_14 : Nat) (a_15 : Nat) (a_16 : Nat) (a_17 : Nat) (a_18 : Nat) (a_19 : Nat) (a_20 : Nat) (a_21 : Nat) (a_22 : Nat) (a_23 : Nat) (f_0 : Nat → Int32) (f_1 : Nat → Int32) (f_2 : Nat → Int32) (a_24 : Nat) (a_25 : Nat) (a_26 : Nat) (a_27 : Nat) (a_28 : Nat) (i_12 : Int32) (i_13 : Int32) (i_14 : Int32) (f_3 : Nat → Int32) (a_29 : Nat) (a_30 : Nat) (i_15 : Int32) (i_16 : Int32) (i_17 : Int32) (f_4 : Nat → Int32) (a_31 : Nat) (a_32 : Nat) (i_18 : Int32) (i_19 : Int32) (i_20 : Int32) (f_5 : Nat → Int32) (a_33 : Nat) (a_34 : Nat) (a_35 : Nat) (a_36 : Nat) (i_21 : Int32) (i_22 : Int32) (i_23 : Int32) (i_24 : Int32) (f_6 : Nat → Int32) (f_7 : Nat → Int32) (f_8 : Nat → Int32) (f_9 : Nat → Int32) (h0 : mm_rg i_7 0 99) (h1 : mm_rg i_8 0 9) (h2 : mm_rg i_9 0 3) (h3 : mm_ar f_0 (-1) 4) (h4 : mm_ar f_1 0 99) (h5 : mm_ar f_2 0 9) (h6 : mm_rg i_14 (-2147483648) 210) (h7 : mm_ar f_3 0 9) (h8 : mm_rg i_17 (-2147483648) 210) (h9 : mm_ar f_4 0 9) (h10 : mm_rg i_20 (-2147483648) 210) (h11 : mm_ar f_5 0 9) (h12 : mm_rg i_21 0 7) (h13 : mm_rg i_23 0 4) (h14 : mm_ar f_6 0 9) (h15 : mm_ar f_8 0 9)  : mm_CI l yX11_wordings (mm_ws yX11_wordings cX11_wordings 5 (some .int)) ({ frames := 5, cells := 0, slots := 0, locals := 134 } : Room) G cy sz [(a_0, .inr (11, [.ref a_1, .ref a_2, .ref a_3, .ref a_4, .ref a_5, .ref a_6, .ref a_7, .ref a_8, .ref a_9, .ref a_10, .ref a_11])), (a_3, .inr (10, [.ref a_12, .ref a_13])), (a_12, .inr (0, [.int i_4, .int i_5, .int i_6, .int i_7, .int i_8, .int i_9, .int i_10, .int i_11, .ref a_14, .ref a_15, .ref a_16, .ref a_17, .ref a_18, .ref a_19, .ref a_20, .ref a_21, .ref a_22, .ref a_23])), (a_14, .inl (cy 1, 9, .inl f_0)), (a_15, .inl (cy 1, 9, .inl f_1)), (a_20, .inl (cy 1, 30, .inl f_2)), (a_13, .inl (cy 5, 3, .inr (.inr (.inr (.inr (va_up (va_up (va_up (fun _ => none) 0 (some a_24)) 1 (some a_25)) 2 (some a_26))))))), (a_24, .inr (1, [.ref a_27, .ref a_28, .int i_12, .int i_13, .int i_14])), (a_27, .inl (cy 1, 2100, .inl f_3)), (a_25, .inr (1, [.ref a_29, .ref a_30, .int i_15, .int i_16, .int i_17])), (a_29, .inl (cy 1, 2100, .inl f_4)), (a_26, .inr (1, [.ref a_31, .ref a_32, .int i_18, .int i_19, .int i_20])), (a_31, .inl (cy 1, 2100, .inl f_5)), (a_9, .inr (4, [.ref a_3, .ref a_33, .ref a_34, .ref a_35, .ref a_36, .int i_21, .int i_22, .int i_23, .int i_24])), (a_33, .inl (cy 1, 70, .inl f_6)), (a_34, .inl (cy 1, 7, .inl f_7)), (a_35, .inl (cy 1, 4, .inl f_8)), (a_36, .inl (cy 1, 4, .inl f_9))] [.ref a_0, .int i_0, .int i_1, .int i_2, .int i_3] (fun u : Int32 × Int32 × Int32 × Int32 × (Nat → Int32) × (Nat → Int32) × (Nat → Int32) × (Nat → Int32) => [(a_0, .inr (11, [.ref a_1, .ref a_2, .ref a_3, .ref a_4, .ref a_5, .ref a_6, .ref a_7, .ref a_8, .ref a_9, .ref a_10, .ref a_11])), (a_3, .inr (10, [.ref a_12, .ref a_13])), (a_12, .inr (0, [.int i_4, .int i_5, .int i_6, .int i_7, .int i_8, .int i_9, .int i_10, .int i_11, .ref a_14, .ref a_15, .ref a_16, .ref a_17, .ref a_18, .ref a_19, .ref a_20, .ref a_21, .ref a_22, .ref a_23])), (a_14, .inl (cy 1, 9, .inl f_0)), (a_15, .inl (cy 1, 9, .inl f_1)), (a_20, .inl (cy 1, 30, .inl f_2)), (a_13, .inl (cy 5, 3, .inr (.inr (.inr (.inr (va_up (va_up (va_up (fun _ => none) 0 (some a_24)) 1 (some a_25)) 2 (some a_26))))))), (a_24, .inr (1, [.ref a_27, .ref a_28, .int i_12, .int i_13, .int i_14])), (a_27, .inl (cy 1, 2100, .inl f_3)), (a_25, .inr (1, [.ref a_29, .ref a_30, .int i_15, .int i_16, .int i_17])), (a_29, .inl (cy 1, 2100, .inl f_4)), (a_26, .inr (1, [.ref a_31, .ref a_32, .int i_18, .int i_19, .int i_20])), (a_31, .inl (cy 1, 2100, .inl f_5)), (a_9, .inr (4, [.ref a_3, .ref a_33, .ref a_34, .ref a_35, .ref a_36, .int u.1, .int u.2.1, .int u.2.2.1, .int u.2.2.2.1])), (a_33, .inl (cy 1, 70, .inl u.2.2.2.2.1)), (a_34, .inl (cy 1, 7, .inl u.2.2.2.2.2.1)), (a_35, .inl (cy 1, 4, .inl u.2.2.2.2.2.2.1)), (a_36, .inl (cy 1, 4, .inl u.2.2.2.2.2.2.2))]) (fun (r : Int32) (u : Int32 × Int32 × Int32 × Int32 × (Nat → Int32) × (Nat → Int32) × (Nat → Int32) × (Nat → Int32)) => mm_rg u.1 0 7 ∧ mm_rg u.2.2.1 0 4 ∧ mm_ar u.2.2.2.2.1 0 9 ∧ mm_ar u.2.2.2.2.2.2.1 0 9 ∧ True) 0 0 := by
  refine mm_begin (lv := [(0, .ref a_0), (1, .int i_0), (2, .int i_1), (3, .int i_2), (4, .int i_3)]) (by decide) (Nat.le_of_ble_eq_true rfl) rfl ?_
  intro p e s m below meth c A ls R args Q H locs hRe hQ hAe hx hb hr hlocks hml hown hnm hts hsz hA hS hP hK hD hZ hl
  have hRf : R.frames = 5 := by rw [hRe]
  have hRl : R.locals = 134 := by rw [hRe]
  have hRc : R.cells = 0 := by rw [hRe]
  have hRs : R.slots = 0 := by rw [hRe]
  refine lv_aload_n hx hb dX11_wordings_0 rfl (lv_at hl 0 rfl) ?_
  refine lv_iload_n hx hb dX11_wordings_1 rfl (lv_at hl 1 rfl) ?_
  refine lv_iload_n hx hb dX11_wordings_2 rfl (lv_at hl 2 rfl) ?_
  refine lv_iload_n hx hb dX11_wordings_3 rfl (lv_at hl 3 rfl) ?_
  refine lv_iload hx hb dX11_wordings_4 (lv_at hl 4 rfl) ?_
  refine mm_finir (va_runV (As := [.int i_0, .int i_1, .int i_2, .int i_3]) (rest := []) ⟨hx, hb, hml, hown, hts⟩ (K454_X11_isTask l G cy H.size a_0 i_0 i_1 i_2 i_3 a_1 a_2 a_3 a_4 a_5 a_6 a_7 a_8 a_9 a_10 a_11 a_12 a_13 i_4 i_5 i_6 i_7 i_8 i_9 i_10 i_11 a_14 a_15 a_16 a_17 a_18 a_19 a_20 a_21 a_22 a_23 h2) (cwV 4 hts (mm_gV mm_w1350 mm_w1351 mm_w1352 mm_w2 mm_w1353) rfl rfl rfl hd_X11_isTask ⟨by rw [hRf]; exact Nat.le_of_ble_eq_true rfl, by rw [hRl]; exact Nat.le_of_ble_eq_true rfl⟩) (mm_preV hK hZ hS hA hP hD [0, 1, 2] rfl rfl 0 rfl rfl rfl) rfl rfl hl.1 rfl (lv_room (Nat.le_of_ble_eq_true rfl)) dX11_wordings_6 ⟨by rw [hRc]; exact Nat.le_of_ble_eq_true rfl, by rw [hRs]; exact Nat.le_of_ble_eq_true rfl⟩) hP hD hS hA [0, 1, 2] rfl (fun _ => rfl) ?_
  clear hP hD hS
  clear H locs
  intro v1 _u H locs hw hP hD hS
  rcases hw with rfl | ⟨rfl, w2, w3, w4, w5⟩
  · refine lv_if_ne (tgt := 15) hx hb dX11_wordings_9 (by decide) (fun c6 => ?_) (fun c6 => ?_)
    · have q7 := mm_neL (lo := 1) (mm_ne c6) mm_k0 mm_k0 (by decide) (by decide)
      exact mm_no q7 (by decide)
    · refine lv_bipush (v := (-2)) hx hb dX11_wordings_12 (by decide) ?_
      subst hAe
      rw [hQ]
      exact W.iret (v := (-2)) hx hb hr (fun t ht hW => ⟨⟨(-2), (i_21, i_22, i_23, i_24, f_6, f_7, f_8, f_9), rfl, ⟨h12, h13, h14, h15, trivial⟩, by rw [ht]; exact hP, hK.warm hW, hD⟩, hS.F ht⟩) hS.2.2 dX11_wordings_14
  · refine lv_if_ne (tgt := 15) hx hb dX11_wordings_9 (by decide) (fun c8 => ?_) (fun c8 => ?_)
    · refine lv_aload_n hx hb dX11_wordings_15 rfl (lv_at hl 0 rfl) ?_
      refine va_get (D := G) (ci := 11) (v := .ref a_9) (C := RX11) (T := TX11) (N := 11) hx hb hts (mm_i inlX11) hown hK.1 hP 0 rfl rfl 8 (by decide) (mm_h hts mm_w46) (fun _ h9 => h9) rfl dX11_wordings_16 ?_
      refine lv_iload_n hx hb dX11_wordings_19 rfl (lv_at hl 1 rfl) ?_
      refine lv_iload_n hx hb dX11_wordings_20 rfl (lv_at hl 2 rfl) ?_
      refine lv_iload_n hx hb dX11_wordings_21 rfl (lv_at hl 3 rfl) ?_
      refine lv_iload hx hb dX11_wordings_22 (lv_at hl 4 rfl) ?_
      refine mm_finv (va_runV (As := [.int i_0, .int i_1, .int i_2, .int i_3]) (rest := []) ⟨hx, hb, hml, hown, hts⟩ (K477_X4_seek l G cy H.size a_9 i_0 i_1 i_2 i_3 a_3 a_12 a_13 i_4 i_5 i_6 i_7 i_8 i_9 i_10 i_11 a_14 a_15 a_16 a_17 a_18 a_19 a_20 a_21 a_22 a_23 f_0 f_1 f_2 a_24 a_25 a_26 a_27 a_28 i_12 i_13 i_14 f_3 a_29 a_30 i_15 i_16 i_17 f_4 a_31 a_32 i_18 i_19 i_20 f_5 a_33 a_34 a_35 a_36 i_21 i_22 i_23 i_24 f_6 f_7 f_8 f_9 w2 (mm_wk w3 (by decide)) w4 w5 h0 h1 h3 h4 h5 h6 h7 h8 h9 h10 h11 h12 h13 h14 h15) (cwV 4 hts (mm_gV mm_w1354 mm_w1355 mm_w1356 mm_w45 mm_w1357) rfl rfl rfl hd_X4_seek ⟨by rw [hRf]; exact Nat.le_of_ble_eq_true rfl, by rw [hRl]; exact Nat.le_of_ble_eq_true rfl⟩) (mm_preV hK hZ hS hA hP hD [1, 2, 3, 4, 5, 6, 7, 8, 9, 10, 11, 12, 13, 14, 15, 16, 17] rfl rfl 13 rfl rfl rfl) rfl rfl hl.1 rfl (lv_room (Nat.le_of_ble_eq_true rfl)) dX11_wordings_24 ⟨by rw [hRc]; exact Nat.le_of_ble_eq_true rfl, by rw [hRs]; exact Nat.le_of_ble_eq_true rfl⟩) hP hD hS hA (fun u : Int32 × Int32 × Int32 × (Nat → Int32) × (Nat → Int32) × (Nat → Int32) × (Nat → Int32) => [(a_0, .inr (11, [.ref a_1, .ref a_2, .ref a_3, .ref a_4, .ref a_5, .ref a_6, .ref a_7, .ref a_8, .ref a_9, .ref a_10, .ref a_11])), (a_3, .inr (10, [.ref a_12, .ref a_13])), (a_12, .inr (0, [.int i_4, .int i_5, .int i_6, .int i_7, .int i_8, .int i_9, .int i_10, .int i_11, .ref a_14, .ref a_15, .ref a_16, .ref a_17, .ref a_18, .ref a_19, .ref a_20, .ref a_21, .ref a_22, .ref a_23])), (a_14, .inl (cy 1, 9, .inl f_0)), (a_15, .inl (cy 1, 9, .inl f_1)), (a_20, .inl (cy 1, 30, .inl f_2)), (a_13, .inl (cy 5, 3, .inr (.inr (.inr (.inr (va_up (va_up (va_up (fun _ => none) 0 (some a_24)) 1 (some a_25)) 2 (some a_26))))))), (a_24, .inr (1, [.ref a_27, .ref a_28, .int i_12, .int i_13, .int i_14])), (a_27, .inl (cy 1, 2100, .inl f_3)), (a_25, .inr (1, [.ref a_29, .ref a_30, .int i_15, .int i_16, .int i_17])), (a_29, .inl (cy 1, 2100, .inl f_4)), (a_26, .inr (1, [.ref a_31, .ref a_32, .int i_18, .int i_19, .int i_20])), (a_31, .inl (cy 1, 2100, .inl f_5)), (a_9, .inr (4, [.ref a_3, .ref a_33, .ref a_34, .ref a_35, .ref a_36, .int u.1, .int i_3, .int u.2.1, .int u.2.2.1])), (a_33, .inl (cy 1, 70, .inl u.2.2.2.1)), (a_34, .inl (cy 1, 7, .inl u.2.2.2.2.1)), (a_35, .inl (cy 1, 4, .inl u.2.2.2.2.2.1)), (a_36, .inl (cy 1, 4, .inl u.2.2.2.2.2.2))]) [1, 2, 3, 4, 5, 6, 7, 8, 9, 10, 11, 12, 13, 14, 15, 16, 17] [0] (n := 18) (fun _ => rfl) (by decide +kernel) (by decide +kernel) rfl (fun _ => rfl) (wr := [(a_0, .inr (11, [.ref a_1, .ref a_2, .ref a_3, .ref a_4, .ref a_5, .ref a_6, .ref a_7, .ref a_8, .ref a_9, .ref a_10, .ref a_11]))]) rfl (fun _ => rfl) (fun _ => rfl) ?_
      clear hP hD hS
      clear H locs
      intro u
      obtain ⟨n9, n10, n11, n12, n13, n14, n15⟩ := u
      intro H locs hw (hP : va_P G vwCl [(a_0, .inr (11, [.ref a_1, .ref a_2, .ref a_3, .ref a_4, .ref a_5, .ref a_6, .ref a_7, .ref a_8, .ref a_9, .ref a_10, .ref a_11])), (a_3, .inr (10, [.ref a_12, .ref a_13])), (a_12, .inr (0, [.int i_4, .int i_5, .int i_6, .int i_7, .int i_8, .int i_9, .int i_10, .int i_11, .ref a_14, .ref a_15, .ref a_16, .ref a_17, .ref a_18, .ref a_19, .ref a_20, .ref a_21, .ref a_22, .ref a_23])), (a_14, .inl (cy 1, 9, .inl f_0)), (a_15, .inl (cy 1, 9, .inl f_1)), (a_20, .inl (cy 1, 30, .inl f_2)), (a_13, .inl (cy 5, 3, .inr (.inr (.inr (.inr (va_up (va_up (va_up (fun _ => none) 0 (some a_24)) 1 (some a_25)) 2 (some a_26))))))), (a_24, .inr (1, [.ref a_27, .ref a_28, .int i_12, .int i_13, .int i_14])), (a_27, .inl (cy 1, 2100, .inl f_3)), (a_25, .inr (1, [.ref a_29, .ref a_30, .int i_15, .int i_16, .int i_17])), (a_29, .inl (cy 1, 2100, .inl f_4)), (a_26, .inr (1, [.ref a_31, .ref a_32, .int i_18, .int i_19, .int i_20])), (a_31, .inl (cy 1, 2100, .inl f_5)), (a_9, .inr (4, [.ref a_3, .ref a_33, .ref a_34, .ref a_35, .ref a_36, .int n9, .int i_3, .int n10, .int n11])), (a_33, .inl (cy 1, 70, .inl n12)), (a_34, .inl (cy 1, 7, .inl n13)), (a_35, .inl (cy 1, 4, .inl n14)), (a_36, .inl (cy 1, 4, .inl n15))] H) (hD : va_D A [(a_0, .inr (11, [.ref a_1, .ref a_2, .ref a_3, .ref a_4, .ref a_5, .ref a_6, .ref a_7, .ref a_8, .ref a_9, .ref a_10, .ref a_11])), (a_3, .inr (10, [.ref a_12, .ref a_13])), (a_12, .inr (0, [.int i_4, .int i_5, .int i_6, .int i_7, .int i_8, .int i_9, .int i_10, .int i_11, .ref a_14, .ref a_15, .ref a_16, .ref a_17, .ref a_18, .ref a_19, .ref a_20, .ref a_21, .ref a_22, .ref a_23])), (a_14, .inl (cy 1, 9, .inl f_0)), (a_15, .inl (cy 1, 9, .inl f_1)), (a_20, .inl (cy 1, 30, .inl f_2)), (a_13, .inl (cy 5, 3, .inr (.inr (.inr (.inr (va_up (va_up (va_up (fun _ => none) 0 (some a_24)) 1 (some a_25)) 2 (some a_26))))))), (a_24, .inr (1, [.ref a_27, .ref a_28, .int i_12, .int i_13, .int i_14])), (a_27, .inl (cy 1, 2100, .inl f_3)), (a_25, .inr (1, [.ref a_29, .ref a_30, .int i_15, .int i_16, .int i_17])), (a_29, .inl (cy 1, 2100, .inl f_4)), (a_26, .inr (1, [.ref a_31, .ref a_32, .int i_18, .int i_19, .int i_20])), (a_31, .inl (cy 1, 2100, .inl f_5)), (a_9, .inr (4, [.ref a_3, .ref a_33, .ref a_34, .ref a_35, .ref a_36, .int n9, .int i_3, .int n10, .int n11])), (a_33, .inl (cy 1, 70, .inl n12)), (a_34, .inl (cy 1, 7, .inl n13)), (a_35, .inl (cy 1, 4, .inl n14)), (a_36, .inl (cy 1, 4, .inl n15))]) hS
      obtain ⟨w16, w17, w18, w19⟩ := hw
      refine lv_aload_n hx hb dX11_wordings_27 rfl (lv_at hl 0 rfl) ?_
      refine va_get (D := G) (ci := 11) (v := .ref a_9) (C := RX11) (T := TX11) (N := 11) hx hb hts (mm_i inlX11) hown hK.1 hP 0 rfl rfl 8 (by decide) (mm_h hts mm_w46) (fun _ h9 => h9) rfl dX11_wordings_28 ?_
      refine va_get (D := G) (ci := 4) (v := .int n11) (C := RX4) (T := TX4) (N := 9) hx hb hts (mm_i inlX4) hown hK.1 hP 13 rfl rfl 8 (by decide) (mm_h hts mm_w1348) (fun _ h9 => h9) rfl dX11_wordings_31 ?_
      subst hAe
      rw [hQ]
      exact W.iret (v := n11) hx hb hr (fun t ht hW => ⟨⟨n11, (n9, i_3, n10, n11, n12, n13, n14, n15), rfl, ⟨(mm_wk w16 (by decide)), w17, w18, w19, trivial⟩, by rw [ht]; exact hP, hK.warm hW, hD⟩, hS.F ht⟩) hS.2.2 dX11_wordings_34
    · exact mm_eqN c8.symm mm_k0 mm_k1 (by decide)

set_option maxHeartbeats 4000000 in
set_option maxRecDepth 100000 in
theorem K481_J6_bitCount_0f7a4 (l : Launch) (G : va_G) (cy : Nat → ClassId) (sz : Nat) (i_0 : Int32) (h0 : mm_rg i_0 0 62)  : mm_CI l yJ6_bitCount_0f7a4 (mm_ws yJ6_bitCount_0f7a4 cJ6_bitCount_0f7a4 1 (some .int)) ({ frames := 0, cells := 0, slots := 0, locals := 0 } : Room) G cy sz [] [.int i_0] (fun u : Unit => []) (fun (r : Int32) (u : Unit) => mm_rg r 0 5) 0 0 := by
  refine mm_begin (lv := [(0, .int i_0)]) (by decide) (Nat.le_of_ble_eq_true rfl) rfl ?_
  intro p e s m below meth c A ls R args Q H locs hRe hQ hAe hx hb hr hlocks hml hown hnm hts hsz hA hS hP hK hD hZ hl
  have hRf : R.frames = 0 := by rw [hRe]
  have hRl : R.locals = 0 := by rw [hRe]
  have hRc : R.cells = 0 := by rw [hRe]
  have hRs : R.slots = 0 := by rw [hRe]
  refine lv_iload_n hx hb dJ6_bitCount_0f7a4_0 rfl (lv_at hl 0 rfl) ?_
  refine lv_iload_n hx hb dJ6_bitCount_0f7a4_1 rfl (lv_at hl 0 rfl) ?_
  refine lv_iconst (v := 1) hx hb dJ6_bitCount_0f7a4_2 (by decide) ?_
  obtain ⟨v1, ev1⟩ : ∃ z : Int32, z = (Int32.toUInt32 i_0 >>> (Int32.toUInt32 1 &&& Int32.toUInt32 31)).toInt32 := ⟨_, rfl⟩
  refine lv_iushr hx hb dJ6_bitCount_0f7a4_3 ev1.symm ?_
  refine lv_ldcw (v := 1431655765) hx hb hown (mm_h hts mm_w883) dJ6_bitCount_0f7a4_4 ?_
  refine lv_iand hx hb dJ6_bitCount_0f7a4_7 ?_
  refine lv_topi (fun v2 ev2 => ?_)
  have rv2 : mm_rg v2 0 1431655765 := mm_andR ev2 mm_k1431655765 (by decide)
  refine lv_isub hx hb dJ6_bitCount_0f7a4_8 ?_
  refine lv_topi (fun v3 ev3 => ?_)
  have rv3 : mm_rg v3 (-1431655765) 62 := mm_sub ev3 h0 rv2 (by decide) (by decide)
  have tv3 := mm_subE ev3 h0 rv2 (by decide)
  refine lv_istore_n (lv' := [(0, .int v3)]) hx hb dJ6_bitCount_0f7a4_9 rfl hl (by decide) rfl ?_
  clear hl
  clear ls
  intro ls hl
  refine lv_iload_n hx hb dJ6_bitCount_0f7a4_10 rfl (lv_at hl 0 rfl) ?_
  refine lv_ldcw (v := 858993459) hx hb hown (mm_h hts mm_w884) dJ6_bitCount_0f7a4_11 ?_
  refine lv_iand hx hb dJ6_bitCount_0f7a4_14 ?_
  refine lv_topi (fun v4 ev4 => ?_)
  have rv4 : mm_rg v4 0 858993459 := mm_andR ev4 mm_k858993459 (by decide)
  refine lv_iload_n hx hb dJ6_bitCount_0f7a4_15 rfl (lv_at hl 0 rfl) ?_
  refine lv_iconst (v := 2) hx hb dJ6_bitCount_0f7a4_16 (by decide) ?_
  obtain ⟨v5, ev5⟩ : ∃ z : Int32, z = (Int32.toUInt32 v3 >>> (Int32.toUInt32 2 &&& Int32.toUInt32 31)).toInt32 := ⟨_, rfl⟩
  refine lv_iushr hx hb dJ6_bitCount_0f7a4_17 ev5.symm ?_
  refine lv_ldcw (v := 858993459) hx hb hown (mm_h hts mm_w884) dJ6_bitCount_0f7a4_18 ?_
  refine lv_iand hx hb dJ6_bitCount_0f7a4_21 ?_
  refine lv_topi (fun v6 ev6 => ?_)
  have rv6 : mm_rg v6 0 858993459 := mm_andR ev6 mm_k858993459 (by decide)
  refine lv_iadd hx hb dJ6_bitCount_0f7a4_22 ?_
  refine lv_topi (fun v7 ev7 => ?_)
  have rv7 : mm_rg v7 0 1717986918 := mm_add ev7 rv4 rv6 (by decide) (by decide)
  have tv7 := mm_addE ev7 rv4 rv6 (by decide)
  refine lv_istore_n (lv' := [(0, .int v7)]) hx hb dJ6_bitCount_0f7a4_23 rfl hl (by decide) rfl ?_
  clear hl
  clear ls
  intro ls hl
  refine lv_iload_n hx hb dJ6_bitCount_0f7a4_24 rfl (lv_at hl 0 rfl) ?_
  refine lv_iload_n hx hb dJ6_bitCount_0f7a4_25 rfl (lv_at hl 0 rfl) ?_
  refine lv_iconst (v := 4) hx hb dJ6_bitCount_0f7a4_26 (by decide) ?_
  obtain ⟨v8, ev8⟩ : ∃ z : Int32, z = (Int32.toUInt32 v7 >>> (Int32.toUInt32 4 &&& Int32.toUInt32 31)).toInt32 := ⟨_, rfl⟩
  refine lv_iushr hx hb dJ6_bitCount_0f7a4_27 ev8.symm ?_
  refine lv_iadd hx hb dJ6_bitCount_0f7a4_28 ?_
  refine lv_topi (fun v9 ev9 => ?_)
  refine lv_ldcw (v := 252645135) hx hb hown (mm_h hts mm_w885) dJ6_bitCount_0f7a4_29 ?_
  refine lv_iand hx hb dJ6_bitCount_0f7a4_32 ?_
  refine lv_topi (fun v10 ev10 => ?_)
  have rv10 : mm_rg v10 0 252645135 := mm_andR ev10 mm_k252645135 (by decide)
  refine lv_istore_n (lv' := [(0, .int v10)]) hx hb dJ6_bitCount_0f7a4_33 rfl hl (by decide) rfl ?_
  clear hl
  clear ls
  intro ls hl
  refine lv_iload_n hx hb dJ6_bitCount_0f7a4_34 rfl (lv_at hl 0 rfl) ?_
  refine lv_iload_n hx hb dJ6_bitCount_0f7a4_35 rfl (lv_at hl 0 rfl) ?_
  refine lv_bipush (v := 8) hx hb dJ6_bitCount_0f7a4_36 (by decide) ?_
  obtain ⟨v11, ev11⟩ : ∃ z : Int32, z = (Int32.toUInt32 v10 >>> (Int32.toUInt32 8 &&& Int32.toUInt32 31)).toInt32 := ⟨_, rfl⟩
  refine lv_iushr hx hb dJ6_bitCount_0f7a4_38 ev11.symm ?_
  refine lv_iadd hx hb dJ6_bitCount_0f7a4_39 ?_
  refine lv_topi (fun v12 ev12 => ?_)
  refine lv_istore_n (lv' := [(0, .int v12)]) hx hb dJ6_bitCount_0f7a4_40 rfl hl (by decide) rfl ?_
  clear hl
  clear ls
  intro ls hl
  refine lv_iload_n hx hb dJ6_bitCount_0f7a4_41 rfl (lv_at hl 0 rfl) ?_
  refine lv_iload_n hx hb dJ6_bitCount_0f7a4_42 rfl (lv_at hl 0 rfl) ?_
  refine lv_bipush (v := 16) hx hb dJ6_bitCount_0f7a4_43 (by decide) ?_
  obtain ⟨v13, ev13⟩ : ∃ z : Int32, z = (Int32.toUInt32 v12 >>> (Int32.toUInt32 16 &&& Int32.toUInt32 31)).toInt32 := ⟨_, rfl⟩
  refine lv_iushr hx hb dJ6_bitCount_0f7a4_45 ev13.symm ?_
  refine lv_iadd hx hb dJ6_bitCount_0f7a4_46 ?_
  refine lv_topi (fun v14 ev14 => ?_)
  refine lv_istore_n (lv' := [(0, .int v14)]) hx hb dJ6_bitCount_0f7a4_47 rfl hl (by decide) rfl ?_
  clear hl
  clear ls
  intro ls hl
  refine lv_iload_n hx hb dJ6_bitCount_0f7a4_48 rfl (lv_at hl 0 rfl) ?_
  refine lv_bipush (v := 63) hx hb dJ6_bitCount_0f7a4_49 (by decide) ?_
  refine lv_iand hx hb dJ6_bitCount_0f7a4_51 ?_
  refine lv_topi (fun v15 ev15 => ?_)
  have rv15 : mm_rg v15 0 63 := mm_andR ev15 mm_k63 (by decide)
  have q16 : mm_rg v15 0 5 := mm_bc62 h0 (by rw [ev15, ev14, ev13, ev12, ev11, ev10, ev9, ev8, ev7, ev6, ev5, ev4, ev3, ev2, ev1]; rfl) (by decide)
  subst hAe
  rw [hQ]
  exact W.iret (v := v15) hx hb hr (fun t ht hW => ⟨⟨v15, (), rfl, q16, by rw [ht]; exact hP, hK.warm hW, hD⟩, hS.F ht⟩) hS.2.2 dJ6_bitCount_0f7a4_52

set_option maxHeartbeats 4000000 in
set_option maxRecDepth 100000 in
theorem K482_X2_worthOf (l : Launch) (G : va_G) (cy : Nat → ClassId) (sz : Nat) (a_0 : Nat) (i_0 : Int32) (i_1 : Int32) (a_1 : Nat) (a_2 : Nat) (a_3 : Nat) (f_0 : Nat → Int32) (f_1 : Nat → Int32) (h0 : mm_rg i_0 0 62) (h1 : mm_rg i_1 (-1) 5)  : mm_CI l yX2_worthOf (mm_ws yX2_worthOf cX2_worthOf 4 (some .int)) ({ frames := 1, cells := 0, slots := 0, locals := 20 } : Room) G cy sz [(a_0, .inr (2, [.ref a_1, .ref a_2, .ref a_3])), (a_2, .inl (cy 1, 36, .inl f_0)), (a_3, .inl (cy 1, 64, .inl f_1))] [.ref a_0, .int i_0, .int i_1] (fun u : Unit => [(a_0, .inr (2, [.ref a_1, .ref a_2, .ref a_3])), (a_2, .inl (cy 1, 36, .inl f_0)), (a_3, .inl (cy 1, 64, .inl f_1))]) (fun (r : Int32) (u : Unit) => True) 0 0 := by
  refine mm_begin (lv := [(0, .ref a_0), (1, .int i_0), (2, .int i_1)]) (by decide) (Nat.le_of_ble_eq_true rfl) rfl ?_
  intro p e s m below meth c A ls R args Q H locs hRe hQ hAe hx hb hr hlocks hml hown hnm hts hsz hA hS hP hK hD hZ hl
  have hRf : R.frames = 1 := by rw [hRe]
  have hRl : R.locals = 20 := by rw [hRe]
  have hRc : R.cells = 0 := by rw [hRe]
  have hRs : R.slots = 0 := by rw [hRe]
  refine lv_iload_n hx hb dX2_worthOf_0 rfl (lv_at hl 2 rfl) ?_
  refine lv_if_ge (tgt := 6) hx hb dX2_worthOf_1 (by decide) (fun c1 => ?_) (fun c1 => ?_)
  · have q2 := mm_leR (mm_le c1) mm_k0 h1
    refine lv_iload_n hx hb dX2_worthOf_6 rfl (lv_at hl 1 rfl) ?_
    refine mm_finir (va_runS (As := [.int i_0]) (rest := []) ⟨hx, hb, hml, hown, hts⟩ (K481_J6_bitCount_0f7a4 l G cy H.size i_0 h0) (va_cwS 1 hts (mm_gS mm_w1450 mm_w880 mm_w881 mm_w882) rfl rfl rfl hs_J6_bitCount_0f7a4 ⟨by rw [hRf]; exact Nat.le_of_ble_eq_true rfl, by rw [hRl]; exact Nat.le_of_ble_eq_true rfl⟩) (mm_preS hK hZ hS hA hP hD [] rfl rfl) rfl rfl hl.1 rfl (lv_room (Nat.le_of_ble_eq_true rfl)) dX2_worthOf_7 ⟨by rw [hRc]; exact Nat.le_of_ble_eq_true rfl, by rw [hRs]; exact Nat.le_of_ble_eq_true rfl⟩) hP hD hS hA [] rfl (fun _ => rfl) ?_
    clear hP hD hS
    clear H locs
    intro v3 _u H locs hw hP hD hS
    have w4 := hw
    refine lv_istore_n (lv' := [(3, .int v3), (0, .ref a_0), (1, .int i_0), (2, .int i_1)]) hx hb dX2_worthOf_10 rfl hl (by decide) rfl ?_
    clear hl
    clear ls
    intro ls hl
    refine lv_aload_n hx hb dX2_worthOf_11 rfl (lv_at hl 1 rfl) ?_
    refine va_get (D := G) (ci := 2) (v := .ref a_2) (C := RX2) (T := TX2) (N := 3) hx hb hts (mm_i inlX2) hown hK.1 hP 0 rfl rfl 1 (by decide) (mm_h hts mm_w129) (fun _ h9 => h9) rfl dX2_worthOf_12 ?_
    refine lv_iload_n hx hb dX2_worthOf_15 rfl (lv_at hl 0 rfl) ?_
    refine lv_bipush (v := 6) hx hb dX2_worthOf_16 (by decide) ?_
    refine lv_imul hx hb dX2_worthOf_18 ?_
    refine lv_topi (fun v5 ev5 => ?_)
    have rv5 : mm_rg v5 0 30 := mm_mul ev5 w4 mm_k6 (by decide) (by decide)
    refine lv_iload_n hx hb dX2_worthOf_19 rfl (lv_at hl 3 rfl) ?_
    refine lv_iadd hx hb dX2_worthOf_20 ?_
    refine lv_topi (fun v6 ev6 => ?_)
    have rv6 : mm_rg v6 0 35 := mm_add ev6 rv5 q2 (by decide) (by decide)
    have tv6 := mm_addE ev6 rv5 q2 (by decide)
    refine va_iald hx hb hK.1 hP 1 1 rfl rfl (mm_in rv6 (by decide)) dX2_worthOf_21 ?_
    refine lv_topi (fun v7 ev7 => ?_)
    refine lv_aload_n hx hb dX2_worthOf_22 rfl (lv_at hl 1 rfl) ?_
    refine va_get (D := G) (ci := 2) (v := .ref a_3) (C := RX2) (T := TX2) (N := 3) hx hb hts (mm_i inlX2) hown hK.1 hP 0 rfl rfl 2 (by decide) (mm_h hts mm_w130) (fun _ h9 => h9) rfl dX2_worthOf_23 ?_
    refine lv_iload_n hx hb dX2_worthOf_26 rfl (lv_at hl 2 rfl) ?_
    refine lv_iconst (v := 1) hx hb dX2_worthOf_27 (by decide) ?_
    refine lv_iload_n hx hb dX2_worthOf_28 rfl (lv_at hl 3 rfl) ?_
    refine lv_ishl hx hb dX2_worthOf_29 ?_
    refine lv_topi (fun v8 ev8 => ?_)
    have rv8 : mm_rg v8 1 32 := mm_shl1 ev8 q2 (by decide)
    refine lv_ior hx hb dX2_worthOf_30 ?_
    refine lv_topi (fun v9 ev9 => ?_)
    have rv9 : mm_rg v9 0 63 := mm_or ev9 6 h0 rv8 (by decide)
    refine va_iald hx hb hK.1 hP 2 1 rfl rfl (mm_in rv9 (by decide)) dX2_worthOf_31 ?_
    refine lv_topi (fun v10 ev10 => ?_)
    refine lv_isub hx hb dX2_worthOf_32 ?_
    refine lv_topi (fun v11 ev11 => ?_)
    subst hAe
    rw [hQ]
    exact W.iret (v := v11) hx hb hr (fun t ht hW => ⟨⟨v11, (), rfl, trivial, by rw [ht]; exact hP, hK.warm hW, hD⟩, hS.F ht⟩) hS.2.2 dX2_worthOf_33
  · have q12 := mm_ltL (h := (-1)) (mm_nle c1) h1 mm_k0 (by decide)
    refine lv_iconst (v := 0) hx hb dX2_worthOf_4 (by decide) ?_
    subst hAe
    rw [hQ]
    exact W.iret (v := 0) hx hb hr (fun t ht hW => ⟨⟨0, (), rfl, trivial, by rw [ht]; exact hP, hK.warm hW, hD⟩, hS.F ht⟩) hS.2.2 dX2_worthOf_5

set_option maxHeartbeats 4000000 in
set_option maxRecDepth 100000 in
theorem K483_X2_bestMove (l : Launch) (G : va_G) (cy : Nat → ClassId) (sz : Nat) (a_0 : Nat) (i_0 : Int32) (a_1 : Nat) (a_2 : Nat) (a_3 : Nat) (i_1 : Int32) (i_2 : Int32) (i_3 : Int32) (i_4 : Int32) (i_5 : Int32) (i_6 : Int32) (i_7 : Int32) (i_8 : Int32) (a_4 : Nat) (a_5 : Nat) (a_6 : Nat) (a_7 : Nat) (a_8 : Nat) (a_9 : Nat) (a_10 : Nat) (a_11 : Nat) (a_12 : Nat) (a_13 : Nat) (a_14 : Nat) (a_15 : Nat) (f_0 : Nat → Int32) (f_1 : Nat → Int32) (h0 : mm_rg i_0 0 62) (h1 : mm_rg i_7 0 6)  : mm_CI l yX2_bestMove (mm_ws yX2_bestMove cX2_bestMove 5 (some .int)) ({ frames := 2, cells := 0, slots := 0, locals := 43 } : Room) G cy sz [(a_1, .inr (10, [.ref a_2, .ref a_3])), (a_2, .inr (0, [.int i_1, .int i_2, .int i_3, .int i_4, .int i_5, .int i_6, .int i_7, .int i_8, .ref a_4, .ref a_5, .ref a_6, .ref a_7, .ref a_8, .ref a_9, .ref a_10, .ref a_11, .ref a_12, .ref a_13])), (a_0, .inr (2, [.ref a_1, .ref a_14, .ref a_15])), (a_14, .inl (cy 1, 36, .inl f_0)), (a_15, .inl (cy 1, 64, .inl f_1))] [.ref a_0, .int i_0] (fun u : Unit => [(a_1, .inr (10, [.ref a_2, .ref a_3])), (a_2, .inr (0, [.int i_1, .int i_2, .int i_3, .int i_4, .int i_5, .int i_6, .int i_7, .int i_8, .ref a_4, .ref a_5, .ref a_6, .ref a_7, .ref a_8, .ref a_9, .ref a_10, .ref a_11, .ref a_12, .ref a_13])), (a_0, .inr (2, [.ref a_1, .ref a_14, .ref a_15])), (a_14, .inl (cy 1, 36, .inl f_0)), (a_15, .inl (cy 1, 64, .inl f_1))]) (fun (r : Int32) (u : Unit) => mm_rg r (-1) 5) 0 0 := by
  refine mm_begin (lv := [(0, .ref a_0), (1, .int i_0)]) (by decide) (Nat.le_of_ble_eq_true rfl) rfl ?_
  intro p e s m below meth c A ls R args Q H locs hRe hQ hAe hx hb hr hlocks hml hown hnm hts hsz hA hS hP hK hD hZ hl
  have hRf : R.frames = 2 := by rw [hRe]
  have hRl : R.locals = 43 := by rw [hRe]
  have hRc : R.cells = 0 := by rw [hRe]
  have hRs : R.slots = 0 := by rw [hRe]
  refine lv_iconst (v := (-1)) hx hb dX2_bestMove_0 (by decide) ?_
  refine lv_istore_n (lv' := [(2, .int (-1)), (0, .ref a_0), (1, .int i_0)]) hx hb dX2_bestMove_1 rfl hl (by decide) rfl ?_
  clear hl
  clear ls
  intro ls hl
  refine lv_iconst (v := 0) hx hb dX2_bestMove_2 (by decide) ?_
  refine lv_istore_n (lv' := [(3, .int 0), (2, .int (-1)), (0, .ref a_0), (1, .int i_0)]) hx hb dX2_bestMove_3 rfl hl (by decide) rfl ?_
  clear hl
  clear ls
  intro ls hl
  have L4_168 : ∀ (n : Nat) (x4_3_167 : Int32) (x4_2_168 : Int32), mm_rg x4_3_167 0 6 → mm_rg x4_2_168 (-1) 5 → (6 - x4_3_167.toInt).toNat < n → ∀ (H : Heap) (locs : List Loc), va_P G vwCl [(a_1, .inr (10, [.ref a_2, .ref a_3])), (a_2, .inr (0, [.int i_1, .int i_2, .int i_3, .int i_4, .int i_5, .int i_6, .int i_7, .int i_8, .ref a_4, .ref a_5, .ref a_6, .ref a_7, .ref a_8, .ref a_9, .ref a_10, .ref a_11, .ref a_12, .ref a_13])), (a_0, .inr (2, [.ref a_1, .ref a_14, .ref a_15])), (a_14, .inl (cy 1, 36, .inl f_0)), (a_15, .inl (cy 1, 64, .inl f_1))] H → va_D A [(a_1, .inr (10, [.ref a_2, .ref a_3])), (a_2, .inr (0, [.int i_1, .int i_2, .int i_3, .int i_4, .int i_5, .int i_6, .int i_7, .int i_8, .ref a_4, .ref a_5, .ref a_6, .ref a_7, .ref a_8, .ref a_9, .ref a_10, .ref a_11, .ref a_12, .ref a_13])), (a_0, .inr (2, [.ref a_1, .ref a_14, .ref a_15])), (a_14, .inl (cy 1, 36, .inl f_0)), (a_15, .inl (cy 1, 64, .inl f_1))] → va_S A s.heap H locs → ∀ (ls : Array Slot), lv_has ls 5 [(3, .int x4_3_167), (2, .int x4_2_168), (0, .ref a_0), (1, .int i_0)] → W p l e R s m args below meth c H locs 0 0 Q (F0 m 4 ls []) := by
    intro n
    induction n with
    | zero => intro x4_3_167 x4_2_168 rx4_3_167 rx4_2_168 hm; exact absurd hm (Nat.not_lt_zero _)
    | succ n ih4 =>
      intro x4_3_167 x4_2_168 rx4_3_167 rx4_2_168 hm4 H locs hP hD hS ls hl
      refine lv_iload_n hx hb dX2_bestMove_4 rfl (lv_at hl 0 rfl) ?_
      refine lv_aload_n hx hb dX2_bestMove_5 rfl (lv_at hl 2 rfl) ?_
      refine va_get (D := G) (ci := 2) (v := .ref a_1) (C := RX2) (T := TX2) (N := 3) hx hb hts (mm_i inlX2) hown hK.1 hP 2 rfl rfl 0 (by decide) (mm_h hts mm_w131) (fun _ h9 => h9) rfl dX2_bestMove_6 ?_
      refine va_get (D := G) (ci := 10) (v := .ref a_2) (C := RX10) (T := TX10) (N := 2) hx hb hts (mm_i inlX10) hown hK.1 hP 0 rfl rfl 0 (by decide) (mm_h hts mm_w1439) (fun _ h9 => h9) rfl dX2_bestMove_9 ?_
      refine va_get (D := G) (ci := 0) (v := .int i_7) (C := RX0) (T := TX0) (N := 18) hx hb hts (mm_i inlX0) hown hK.1 hP 1 rfl rfl 6 (by decide) (mm_h hts mm_w1440) (fun _ h9 => h9) rfl dX2_bestMove_12 ?_
      refine lv_icmp_ge (tgt := 66) hx hb dX2_bestMove_15 (by decide) (fun c170 => ?_) (fun c170 => ?_)
      · refine lv_iload_n hx hb dX2_bestMove_66 rfl (lv_at hl 1 rfl) ?_
        subst hAe
        rw [hQ]
        exact W.iret (v := x4_2_168) hx hb hr (fun t ht hW => ⟨⟨x4_2_168, (), rfl, rx4_2_168, by rw [ht]; exact hP, hK.warm hW, hD⟩, hS.F ht⟩) hS.2.2 dX2_bestMove_67
      · have q171 := mm_ltL (h := 5) (mm_nle c170) rx4_3_167 h1 (by decide)
        have q172 := mm_ltR (lo := 1) (mm_nle c170) rx4_3_167 h1 (by decide)
        refine lv_iload_n hx hb dX2_bestMove_18 rfl (lv_at hl 3 rfl) ?_
        refine lv_iload_n hx hb dX2_bestMove_19 rfl (lv_at hl 0 rfl) ?_
        refine lv_ishr hx hb dX2_bestMove_20 ?_
        refine lv_topi (fun v173 ev173 => ?_)
        refine lv_iconst (v := 1) hx hb dX2_bestMove_21 (by decide) ?_
        refine lv_iand hx hb dX2_bestMove_22 ?_
        refine lv_topi (fun v174 ev174 => ?_)
        have rv174 : mm_rg v174 0 1 := mm_andR ev174 mm_k1 (by decide)
        refine lv_if_ne (tgt := 30) hx hb dX2_bestMove_23 (by decide) (fun c175 => ?_) (fun c175 => ?_)
        · have q176 := mm_neL (lo := 1) (mm_ne c175) rv174 mm_k0 (by decide) (by decide)
          refine lv_iconst (v := 0) hx hb dX2_bestMove_30 (by decide) ?_
          refine lv_istore (lv' := [(4, .int 0), (3, .int x4_3_167), (2, .int x4_2_168), (0, .ref a_0), (1, .int i_0)]) hx hb dX2_bestMove_31 hl (by decide) rfl ?_
          clear hl
          clear ls
          intro ls hl
          refine lv_iload hx hb dX2_bestMove_33 (lv_at hl 0 rfl) ?_
          refine lv_if_eq (tgt := 60) hx hb dX2_bestMove_35 (by decide) (fun c177 => ?_) (fun c177 => ?_)
          · obtain ⟨v178, ev178⟩ : ∃ y : Int32, y = x4_3_167 + 1 := ⟨_, rfl⟩
            refine lv_iinc (v := v178) (lv' := [(3, .int v178), (4, .int 0), (2, .int x4_2_168), (0, .ref a_0), (1, .int i_0)]) hx hb dX2_bestMove_60 hl (k := 1) rfl (by rw [ev178]; rfl) (by decide) rfl ?_
            clear hl
            clear ls
            intro ls hl
            have rv178 : mm_rg v178 1 6 := mm_add ev178 q171 mm_k1 (by decide) (by decide)
            have tv178 := mm_addEc ev178 q171 mm_k1 (by decide) (k := 1) (by decide)
            refine lv_goto (tgt := 4) hx hb dX2_bestMove_63 (by decide) ?_
            exact ih4 v178 x4_2_168 (mm_wk rv178 (by decide)) rx4_2_168 (mm_mu hm4 tv178 (by decide) (rv178).2 (by decide)) H locs hP hD hS ls (lv_sub hl [0, 2, 3, 4] rfl)
          · have q179 := mm_neL (lo := 1) (mm_ne c177) mm_k0 mm_k0 (by decide) (by decide)
            exact mm_no q179 (by decide)
        · have q180 := mm_eqI (lo := 0) (hi := 0) c175 rv174 mm_k0 (by decide)
          refine lv_iconst (v := 1) hx hb dX2_bestMove_26 (by decide) ?_
          refine lv_goto (tgt := 31) hx hb dX2_bestMove_27 (by decide) ?_
          refine lv_istore (lv' := [(4, .int 1), (3, .int x4_3_167), (2, .int x4_2_168), (0, .ref a_0), (1, .int i_0)]) hx hb dX2_bestMove_31 hl (by decide) rfl ?_
          clear hl
          clear ls
          intro ls hl
          refine lv_iload hx hb dX2_bestMove_33 (lv_at hl 0 rfl) ?_
          refine lv_if_eq (tgt := 60) hx hb dX2_bestMove_35 (by decide) (fun c181 => ?_) (fun c181 => ?_)
          · exact mm_eqN c181.symm mm_k0 mm_k1 (by decide)
          · refine lv_iload_n hx hb dX2_bestMove_38 rfl (lv_at hl 2 rfl) ?_
            refine lv_iconst (v := (-1)) hx hb dX2_bestMove_39 (by decide) ?_
            refine lv_icmp_eq (tgt := 58) hx hb dX2_bestMove_40 (by decide) (fun c182 => ?_) (fun c182 => ?_)
            · have q183 := mm_eqI (lo := (-1)) (hi := (-1)) c182 rx4_2_168 mm_km1 (by decide)
              refine lv_iload_n hx hb dX2_bestMove_58 rfl (lv_at hl 1 rfl) ?_
              refine lv_istore_n (lv' := [(2, .int x4_3_167), (4, .int 1), (3, .int x4_3_167), (0, .ref a_0), (1, .int i_0)]) hx hb dX2_bestMove_59 rfl hl (by decide) rfl ?_
              clear hl
              clear ls
              intro ls hl
              obtain ⟨v184, ev184⟩ : ∃ y : Int32, y = x4_3_167 + 1 := ⟨_, rfl⟩
              refine lv_iinc (v := v184) (lv' := [(3, .int v184), (2, .int x4_3_167), (4, .int 1), (0, .ref a_0), (1, .int i_0)]) hx hb dX2_bestMove_60 hl (k := 2) rfl (by rw [ev184]; rfl) (by decide) rfl ?_
              clear hl
              clear ls
              intro ls hl
              have rv184 : mm_rg v184 1 6 := mm_add ev184 q171 mm_k1 (by decide) (by decide)
              have tv184 := mm_addEc ev184 q171 mm_k1 (by decide) (k := 1) (by decide)
              refine lv_goto (tgt := 4) hx hb dX2_bestMove_63 (by decide) ?_
              exact ih4 v184 x4_3_167 (mm_wk rv184 (by decide)) (mm_wk q171 (by decide)) (mm_mu hm4 tv184 (by decide) (rv184).2 (by decide)) H locs hP hD hS ls (lv_sub hl [0, 1, 3, 4] rfl)
            · have q185 := mm_neL (lo := 0) (mm_ne c182) rx4_2_168 mm_km1 (by decide) (by decide)
              refine lv_aload_n hx hb dX2_bestMove_43 rfl (lv_at hl 3 rfl) ?_
              refine lv_iload_n hx hb dX2_bestMove_44 rfl (lv_at hl 4 rfl) ?_
              refine lv_iload_n hx hb dX2_bestMove_45 rfl (lv_at hl 1 rfl) ?_
              refine mm_finir (va_runV (As := [.int i_0, .int x4_3_167]) (rest := []) ⟨hx, hb, hml, hown, hts⟩ (K482_X2_worthOf l G cy H.size a_0 i_0 x4_3_167 a_1 a_14 a_15 f_0 f_1 h0 (mm_wk q171 (by decide))) (cwV 2 hts (mm_gV mm_w1446 mm_w1447 mm_w1448 mm_w49 mm_w1449) rfl rfl rfl hd_X2_worthOf ⟨by rw [hRf]; exact Nat.le_of_ble_eq_true rfl, by rw [hRl]; exact Nat.le_of_ble_eq_true rfl⟩) (mm_preV hK hZ hS hA hP hD [2, 3, 4] rfl rfl 2 rfl rfl rfl) rfl rfl hl.1 rfl (lv_room (Nat.le_of_ble_eq_true rfl)) dX2_bestMove_46 ⟨by rw [hRc]; exact Nat.le_of_ble_eq_true rfl, by rw [hRs]; exact Nat.le_of_ble_eq_true rfl⟩) hP hD hS hA [2, 3, 4] rfl (fun _ => rfl) ?_
              clear hP hD hS
              clear H locs
              intro v186 _u H locs hw hP hD hS
              refine lv_aload_n hx hb dX2_bestMove_49 rfl (lv_at hl 3 rfl) ?_
              refine lv_iload_n hx hb dX2_bestMove_50 rfl (lv_at hl 4 rfl) ?_
              refine lv_iload_n hx hb dX2_bestMove_51 rfl (lv_at hl 2 rfl) ?_
              refine mm_finir (va_runV (As := [.int i_0, .int x4_2_168]) (rest := [.int v186]) ⟨hx, hb, hml, hown, hts⟩ (K482_X2_worthOf l G cy H.size a_0 i_0 x4_2_168 a_1 a_14 a_15 f_0 f_1 h0 (mm_wk q185 (by decide))) (cwV 2 hts (mm_gV mm_w1446 mm_w1447 mm_w1448 mm_w49 mm_w1449) rfl rfl rfl hd_X2_worthOf ⟨by rw [hRf]; exact Nat.le_of_ble_eq_true rfl, by rw [hRl]; exact Nat.le_of_ble_eq_true rfl⟩) (mm_preV hK hZ hS hA hP hD [2, 3, 4] rfl rfl 2 rfl rfl rfl) rfl rfl hl.1 rfl (lv_room (Nat.le_of_ble_eq_true rfl)) dX2_bestMove_52 ⟨by rw [hRc]; exact Nat.le_of_ble_eq_true rfl, by rw [hRs]; exact Nat.le_of_ble_eq_true rfl⟩) hP hD hS hA [2, 3, 4] rfl (fun _ => rfl) ?_
              clear hP hD hS
              clear H locs
              intro v187 _u H locs hw hP hD hS
              refine lv_icmp_le (tgt := 60) hx hb dX2_bestMove_55 (by decide) (fun c188 => ?_) (fun c188 => ?_)
              · obtain ⟨v189, ev189⟩ : ∃ y : Int32, y = x4_3_167 + 1 := ⟨_, rfl⟩
                refine lv_iinc (v := v189) (lv' := [(3, .int v189), (4, .int 1), (2, .int x4_2_168), (0, .ref a_0), (1, .int i_0)]) hx hb dX2_bestMove_60 hl (k := 1) rfl (by rw [ev189]; rfl) (by decide) rfl ?_
                clear hl
                clear ls
                intro ls hl
                have rv189 : mm_rg v189 1 6 := mm_add ev189 q171 mm_k1 (by decide) (by decide)
                have tv189 := mm_addEc ev189 q171 mm_k1 (by decide) (k := 1) (by decide)
                refine lv_goto (tgt := 4) hx hb dX2_bestMove_63 (by decide) ?_
                exact ih4 v189 x4_2_168 (mm_wk rv189 (by decide)) (mm_wk q185 (by decide)) (mm_mu hm4 tv189 (by decide) (rv189).2 (by decide)) H locs hP hD hS ls (lv_sub hl [0, 2, 3, 4] rfl)
              · have q190 := mm_ltL (h := 2147483646) (mm_nle c188) (mm_top v187) (mm_top v186) (by decide)
                have q191 := mm_ltR (lo := (-2147483647)) (mm_nle c188) (mm_top v187) (mm_top v186) (by decide)
                refine lv_iload_n hx hb dX2_bestMove_58 rfl (lv_at hl 1 rfl) ?_
                refine lv_istore_n (lv' := [(2, .int x4_3_167), (4, .int 1), (3, .int x4_3_167), (0, .ref a_0), (1, .int i_0)]) hx hb dX2_bestMove_59 rfl hl (by decide) rfl ?_
                clear hl
                clear ls
                intro ls hl
                obtain ⟨v192, ev192⟩ : ∃ y : Int32, y = x4_3_167 + 1 := ⟨_, rfl⟩
                refine lv_iinc (v := v192) (lv' := [(3, .int v192), (2, .int x4_3_167), (4, .int 1), (0, .ref a_0), (1, .int i_0)]) hx hb dX2_bestMove_60 hl (k := 2) rfl (by rw [ev192]; rfl) (by decide) rfl ?_
                clear hl
                clear ls
                intro ls hl
                have rv192 : mm_rg v192 1 6 := mm_add ev192 q171 mm_k1 (by decide) (by decide)
                have tv192 := mm_addEc ev192 q171 mm_k1 (by decide) (k := 1) (by decide)
                refine lv_goto (tgt := 4) hx hb dX2_bestMove_63 (by decide) ?_
                exact ih4 v192 x4_3_167 (mm_wk rv192 (by decide)) (mm_wk q171 (by decide)) (mm_mu hm4 tv192 (by decide) (rv192).2 (by decide)) H locs hP hD hS ls (lv_sub hl [0, 1, 3, 4] rfl)
  exact L4_168 _ 0 (-1) (mm_wk mm_k0 (by decide)) (mm_wk mm_km1 (by decide)) (Nat.lt_succ_self _) H locs hP hD hS ls (lv_sub hl [0, 1, 2, 3] rfl)

set_option maxHeartbeats 4000000 in
set_option maxRecDepth 100000 in
theorem K484_X2_play (l : Launch) (G : va_G) (cy : Nat → ClassId) (sz : Nat) (a_0 : Nat) (i_0 : Int32) (i_1 : Int32) (a_1 : Nat) (a_2 : Nat) (a_3 : Nat) (i_2 : Int32) (i_3 : Int32) (i_4 : Int32) (i_5 : Int32) (i_6 : Int32) (i_7 : Int32) (i_8 : Int32) (i_9 : Int32) (a_4 : Nat) (a_5 : Nat) (a_6 : Nat) (a_7 : Nat) (a_8 : Nat) (a_9 : Nat) (a_10 : Nat) (a_11 : Nat) (a_12 : Nat) (a_13 : Nat) (f_0 : Nat → Int32) (f_1 : Nat → Int32) (f_2 : Nat → Int32) (f_3 : Nat → Int32) (f_4 : Nat → Int32) (a_14 : Nat) (a_15 : Nat) (a_16 : Nat) (a_17 : Nat) (a_18 : Nat) (i_10 : Int32) (i_11 : Int32) (i_12 : Int32) (f_5 : Nat → Int32) (a_19 : Nat) (a_20 : Nat) (i_13 : Int32) (i_14 : Int32) (i_15 : Int32) (f_6 : Nat → Int32) (a_21 : Nat) (a_22 : Nat) (i_16 : Int32) (i_17 : Int32) (i_18 : Int32) (f_7 : Nat → Int32) (a_23 : Nat) (a_24 : Nat) (f_8 : Nat → Int32) (f_9 : Nat → Int32) (h0 : mm_rg i_0 0 2) (h1 : mm_rg i_1 0 1000000001) (h2 : mm_rg i_5 0 99) (h3 : mm_rg i_6 0 9) (h4 : mm_rg i_8 0 6) (h5 : mm_ar f_0 (-1) 4) (h6 : mm_ar f_1 0 99) (h7 : mm_ar f_2 0 8) (h8 : mm_ar f_3 0 9) (h9 : mm_ar f_4 0 9) (h10 : mm_rg i_12 (-2147483648) 210) (h11 : mm_ar f_5 0 9) (h12 : mm_rg i_15 (-2147483648) 210) (h13 : mm_ar f_6 0 9) (h14 : mm_rg i_18 (-2147483648) 210) (h15 : mm_ar f_7 0 9)  : mm_CI l yX2_play (mm_ws yX2_play cX2_play 6 (some .int)) ({ frames := 4, cells := 0, slots := 0, locals := 111 } : Room) G cy sz [(a_1, .inr (10, [.ref a_2, .ref a_3])), (a_2, .inr (0, [.int i_2, .int i_3, .int i_4, .int i_5, .int i_6, .int i_7, .int i_8, .int i_9, .ref a_4, .ref a_5, .ref a_6, .ref a_7, .ref a_8, .ref a_9, .ref a_10, .ref a_11, .ref a_12, .ref a_13])), (a_4, .inl (cy 1, 9, .inl f_0)), (a_5, .inl (cy 1, 9, .inl f_1)), (a_8, .inl (cy 1, 6, .inl f_2)), (a_9, .inl (cy 1, 48, .inl f_3)), (a_10, .inl (cy 1, 30, .inl f_4)), (a_3, .inl (cy 5, 3, .inr (.inr (.inr (.inr (va_up (va_up (va_up (fun _ => none) 0 (some a_14)) 1 (some a_15)) 2 (some a_16))))))), (a_14, .inr (1, [.ref a_17, .ref a_18, .int i_10, .int i_11, .int i_12])), (a_17, .inl (cy 1, 2100, .inl f_5)), (a_15, .inr (1, [.ref a_19, .ref a_20, .int i_13, .int i_14, .int i_15])), (a_19, .inl (cy 1, 2100, .inl f_6)), (a_16, .inr (1, [.ref a_21, .ref a_22, .int i_16, .int i_17, .int i_18])), (a_21, .inl (cy 1, 2100, .inl f_7)), (a_0, .inr (2, [.ref a_1, .ref a_23, .ref a_24])), (a_23, .inl (cy 1, 36, .inl f_8)), (a_24, .inl (cy 1, 64, .inl f_9))] [.ref a_0, .int i_0, .int i_1] (fun u : (Nat → Int32) × (Nat → Int32) => [(a_1, .inr (10, [.ref a_2, .ref a_3])), (a_2, .inr (0, [.int i_2, .int i_3, .int i_4, .int i_5, .int i_6, .int i_7, .int i_8, .int i_9, .ref a_4, .ref a_5, .ref a_6, .ref a_7, .ref a_8, .ref a_9, .ref a_10, .ref a_11, .ref a_12, .ref a_13])), (a_4, .inl (cy 1, 9, .inl f_0)), (a_5, .inl (cy 1, 9, .inl f_1)), (a_8, .inl (cy 1, 6, .inl f_2)), (a_9, .inl (cy 1, 48, .inl f_3)), (a_10, .inl (cy 1, 30, .inl f_4)), (a_3, .inl (cy 5, 3, .inr (.inr (.inr (.inr (va_up (va_up (va_up (fun _ => none) 0 (some a_14)) 1 (some a_15)) 2 (some a_16))))))), (a_14, .inr (1, [.ref a_17, .ref a_18, .int i_10, .int i_11, .int i_12])), (a_17, .inl (cy 1, 2100, .inl f_5)), (a_15, .inr (1, [.ref a_19, .ref a_20, .int i_13, .int i_14, .int i_15])), (a_19, .inl (cy 1, 2100, .inl f_6)), (a_16, .inr (1, [.ref a_21, .ref a_22, .int i_16, .int i_17, .int i_18])), (a_21, .inl (cy 1, 2100, .inl f_7)), (a_0, .inr (2, [.ref a_1, .ref a_23, .ref a_24])), (a_23, .inl (cy 1, 36, .inl u.1)), (a_24, .inl (cy 1, 64, .inl u.2))]) (fun (r : Int32) (u : (Nat → Int32) × (Nat → Int32)) => True) 0 0 := by
  refine mm_begin (lv := [(0, .ref a_0), (1, .int i_0), (2, .int i_1)]) (by decide) (Nat.le_of_ble_eq_true rfl) rfl ?_
  intro p e s m below meth c A ls R args Q H locs hRe hQ hAe hx hb hr hlocks hml hown hnm hts hsz hA hS hP hK hD hZ hl
  have hRf : R.frames = 4 := by rw [hRe]
  have hRl : R.locals = 111 := by rw [hRe]
  have hRc : R.cells = 0 := by rw [hRe]
  have hRs : R.slots = 0 := by rw [hRe]
  refine lv_aload_n hx hb dX2_play_0 rfl (lv_at hl 0 rfl) ?_
  refine va_get (D := G) (ci := 2) (v := .ref a_1) (C := RX2) (T := TX2) (N := 3) hx hb hts (mm_i inlX2) hown hK.1 hP 14 rfl rfl 0 (by decide) (mm_h hts mm_w131) (fun _ h9 => h9) rfl dX2_play_1 ?_
  refine va_get (D := G) (ci := 10) (v := .ref a_2) (C := RX10) (T := TX10) (N := 2) hx hb hts (mm_i inlX10) hown hK.1 hP 0 rfl rfl 0 (by decide) (mm_h hts mm_w1439) (fun _ h9 => h9) rfl dX2_play_4 ?_
  refine va_get (D := G) (ci := 0) (v := .int i_8) (C := RX0) (T := TX0) (N := 18) hx hb hts (mm_i inlX0) hown hK.1 hP 1 rfl rfl 6 (by decide) (mm_h hts mm_w1440) (fun _ h9 => h9) rfl dX2_play_7 ?_
  refine lv_istore_n (lv' := [(3, .int i_8), (0, .ref a_0), (1, .int i_0), (2, .int i_1)]) hx hb dX2_play_10 rfl hl (by decide) rfl ?_
  clear hl
  clear ls
  intro ls hl
  refine lv_iconst (v := 0) hx hb dX2_play_11 (by decide) ?_
  refine lv_istore (lv' := [(4, .int 0), (3, .int i_8), (0, .ref a_0), (1, .int i_0), (2, .int i_1)]) hx hb dX2_play_12 hl (by decide) rfl ?_
  clear hl
  clear ls
  intro ls hl
  have L14_991 : ∀ (n : Nat) (x14_4_990 : Int32) (z14_15_991 : Nat → Int32), mm_rg x14_4_990 0 6 → (6 - x14_4_990.toInt).toNat < n → ∀ (H : Heap) (locs : List Loc), va_P G vwCl [(a_1, .inr (10, [.ref a_2, .ref a_3])), (a_2, .inr (0, [.int i_2, .int i_3, .int i_4, .int i_5, .int i_6, .int i_7, .int i_8, .int i_9, .ref a_4, .ref a_5, .ref a_6, .ref a_7, .ref a_8, .ref a_9, .ref a_10, .ref a_11, .ref a_12, .ref a_13])), (a_4, .inl (cy 1, 9, .inl f_0)), (a_5, .inl (cy 1, 9, .inl f_1)), (a_8, .inl (cy 1, 6, .inl f_2)), (a_9, .inl (cy 1, 48, .inl f_3)), (a_10, .inl (cy 1, 30, .inl f_4)), (a_3, .inl (cy 5, 3, .inr (.inr (.inr (.inr (va_up (va_up (va_up (fun _ => none) 0 (some a_14)) 1 (some a_15)) 2 (some a_16))))))), (a_14, .inr (1, [.ref a_17, .ref a_18, .int i_10, .int i_11, .int i_12])), (a_17, .inl (cy 1, 2100, .inl f_5)), (a_15, .inr (1, [.ref a_19, .ref a_20, .int i_13, .int i_14, .int i_15])), (a_19, .inl (cy 1, 2100, .inl f_6)), (a_16, .inr (1, [.ref a_21, .ref a_22, .int i_16, .int i_17, .int i_18])), (a_21, .inl (cy 1, 2100, .inl f_7)), (a_0, .inr (2, [.ref a_1, .ref a_23, .ref a_24])), (a_23, .inl (cy 1, 36, .inl z14_15_991)), (a_24, .inl (cy 1, 64, .inl f_9))] H → va_D A [(a_1, .inr (10, [.ref a_2, .ref a_3])), (a_2, .inr (0, [.int i_2, .int i_3, .int i_4, .int i_5, .int i_6, .int i_7, .int i_8, .int i_9, .ref a_4, .ref a_5, .ref a_6, .ref a_7, .ref a_8, .ref a_9, .ref a_10, .ref a_11, .ref a_12, .ref a_13])), (a_4, .inl (cy 1, 9, .inl f_0)), (a_5, .inl (cy 1, 9, .inl f_1)), (a_8, .inl (cy 1, 6, .inl f_2)), (a_9, .inl (cy 1, 48, .inl f_3)), (a_10, .inl (cy 1, 30, .inl f_4)), (a_3, .inl (cy 5, 3, .inr (.inr (.inr (.inr (va_up (va_up (va_up (fun _ => none) 0 (some a_14)) 1 (some a_15)) 2 (some a_16))))))), (a_14, .inr (1, [.ref a_17, .ref a_18, .int i_10, .int i_11, .int i_12])), (a_17, .inl (cy 1, 2100, .inl f_5)), (a_15, .inr (1, [.ref a_19, .ref a_20, .int i_13, .int i_14, .int i_15])), (a_19, .inl (cy 1, 2100, .inl f_6)), (a_16, .inr (1, [.ref a_21, .ref a_22, .int i_16, .int i_17, .int i_18])), (a_21, .inl (cy 1, 2100, .inl f_7)), (a_0, .inr (2, [.ref a_1, .ref a_23, .ref a_24])), (a_23, .inl (cy 1, 36, .inl z14_15_991)), (a_24, .inl (cy 1, 64, .inl f_9))] → va_S A s.heap H locs → ∀ (ls : Array Slot), lv_has ls 6 [(4, .int x14_4_990), (3, .int i_8), (0, .ref a_0), (1, .int i_0), (2, .int i_1)] → W p l e R s m args below meth c H locs 0 0 Q (F0 m 14 ls []) := by
    intro n
    induction n with
    | zero => intro x14_4_990 z14_15_991 rx14_4_990 hm; exact absurd hm (Nat.not_lt_zero _)
    | succ n ih14 =>
      intro x14_4_990 z14_15_991 rx14_4_990 hm14 H locs hP hD hS ls hl
      refine lv_iload hx hb dX2_play_14 (lv_at hl 0 rfl) ?_
      refine lv_iload_n hx hb dX2_play_16 rfl (lv_at hl 1 rfl) ?_
      refine lv_icmp_ge (tgt := 68) hx hb dX2_play_17 (by decide) (fun c993 => ?_) (fun c993 => ?_)
      · refine lv_iconst (v := 1) hx hb dX2_play_68 (by decide) ?_
        refine lv_iload_n hx hb dX2_play_69 rfl (lv_at hl 1 rfl) ?_
        refine lv_ishl hx hb dX2_play_70 ?_
        refine lv_topi (fun v994 ev994 => ?_)
        have rv994 : mm_rg v994 1 64 := mm_shl1 ev994 h4 (by decide)
        refine lv_iconst (v := 1) hx hb dX2_play_71 (by decide) ?_
        refine lv_isub hx hb dX2_play_72 ?_
        refine lv_topi (fun v995 ev995 => ?_)
        have rv995 : mm_rg v995 0 63 := mm_sub ev995 rv994 mm_k1 (by decide) (by decide)
        have tv995 := mm_subEc ev995 rv994 mm_k1 (by decide) (k := (-1)) (by decide)
        refine lv_istore (lv' := [(4, .int v995), (3, .int i_8), (0, .ref a_0), (1, .int i_0), (2, .int i_1)]) hx hb dX2_play_73 hl (by decide) rfl ?_
        clear hl
        clear ls
        intro ls hl
        refine lv_aload_n hx hb dX2_play_75 rfl (lv_at hl 2 rfl) ?_
        refine va_get (D := G) (ci := 2) (v := .ref a_24) (C := RX2) (T := TX2) (N := 3) hx hb hts (mm_i inlX2) hown hK.1 hP 14 rfl rfl 2 (by decide) (mm_h hts mm_w130) (fun _ h9 => h9) rfl dX2_play_76 ?_
        refine lv_iload hx hb dX2_play_79 (lv_at hl 0 rfl) ?_
        refine lv_iconst (v := 0) hx hb dX2_play_81 (by decide) ?_
        refine va_iast hx hb hK.1 hP hD hS 16 1 rfl rfl (mm_in rv995 (by decide)) dX2_play_82 ?_
        clear hP hD hS
        clear H locs
        obtain ⟨g996, eg996⟩ : ∃ z : Nat → Int32, z = upd f_9 v995.toNatClampNeg 0 := ⟨_, rfl⟩
        rw [← eg996]
        intro H locs (hP : va_P G vwCl [(a_1, .inr (10, [.ref a_2, .ref a_3])), (a_2, .inr (0, [.int i_2, .int i_3, .int i_4, .int i_5, .int i_6, .int i_7, .int i_8, .int i_9, .ref a_4, .ref a_5, .ref a_6, .ref a_7, .ref a_8, .ref a_9, .ref a_10, .ref a_11, .ref a_12, .ref a_13])), (a_4, .inl (cy 1, 9, .inl f_0)), (a_5, .inl (cy 1, 9, .inl f_1)), (a_8, .inl (cy 1, 6, .inl f_2)), (a_9, .inl (cy 1, 48, .inl f_3)), (a_10, .inl (cy 1, 30, .inl f_4)), (a_3, .inl (cy 5, 3, .inr (.inr (.inr (.inr (va_up (va_up (va_up (fun _ => none) 0 (some a_14)) 1 (some a_15)) 2 (some a_16))))))), (a_14, .inr (1, [.ref a_17, .ref a_18, .int i_10, .int i_11, .int i_12])), (a_17, .inl (cy 1, 2100, .inl f_5)), (a_15, .inr (1, [.ref a_19, .ref a_20, .int i_13, .int i_14, .int i_15])), (a_19, .inl (cy 1, 2100, .inl f_6)), (a_16, .inr (1, [.ref a_21, .ref a_22, .int i_16, .int i_17, .int i_18])), (a_21, .inl (cy 1, 2100, .inl f_7)), (a_0, .inr (2, [.ref a_1, .ref a_23, .ref a_24])), (a_23, .inl (cy 1, 36, .inl z14_15_991)), (a_24, .inl (cy 1, 64, .inl g996))] H) (hD : va_D A [(a_1, .inr (10, [.ref a_2, .ref a_3])), (a_2, .inr (0, [.int i_2, .int i_3, .int i_4, .int i_5, .int i_6, .int i_7, .int i_8, .int i_9, .ref a_4, .ref a_5, .ref a_6, .ref a_7, .ref a_8, .ref a_9, .ref a_10, .ref a_11, .ref a_12, .ref a_13])), (a_4, .inl (cy 1, 9, .inl f_0)), (a_5, .inl (cy 1, 9, .inl f_1)), (a_8, .inl (cy 1, 6, .inl f_2)), (a_9, .inl (cy 1, 48, .inl f_3)), (a_10, .inl (cy 1, 30, .inl f_4)), (a_3, .inl (cy 5, 3, .inr (.inr (.inr (.inr (va_up (va_up (va_up (fun _ => none) 0 (some a_14)) 1 (some a_15)) 2 (some a_16))))))), (a_14, .inr (1, [.ref a_17, .ref a_18, .int i_10, .int i_11, .int i_12])), (a_17, .inl (cy 1, 2100, .inl f_5)), (a_15, .inr (1, [.ref a_19, .ref a_20, .int i_13, .int i_14, .int i_15])), (a_19, .inl (cy 1, 2100, .inl f_6)), (a_16, .inr (1, [.ref a_21, .ref a_22, .int i_16, .int i_17, .int i_18])), (a_21, .inl (cy 1, 2100, .inl f_7)), (a_0, .inr (2, [.ref a_1, .ref a_23, .ref a_24])), (a_23, .inl (cy 1, 36, .inl z14_15_991)), (a_24, .inl (cy 1, 64, .inl g996))]) hS
        refine lv_iload hx hb dX2_play_83 (lv_at hl 0 rfl) ?_
        refine lv_iconst (v := 1) hx hb dX2_play_85 (by decide) ?_
        refine lv_isub hx hb dX2_play_86 ?_
        refine lv_topi (fun v997 ev997 => ?_)
        have rv997 : mm_rg v997 (-1) 62 := mm_sub ev997 rv995 mm_k1 (by decide) (by decide)
        have tv997 := mm_subEc ev997 rv995 mm_k1 (by decide) (k := (-1)) (by decide)
        refine lv_istore (lv' := [(5, .int v997), (4, .int v995), (3, .int i_8), (0, .ref a_0), (1, .int i_0), (2, .int i_1)]) hx hb dX2_play_87 hl (by decide) rfl ?_
        clear hl
        clear ls
        intro ls hl
        have L89_1021 : ∀ (n : Nat) (x89_5_1020 : Int32) (z89_16_1021 : Nat → Int32), mm_rg x89_5_1020 (-1) 62 → (x89_5_1020.toInt - (-1)).toNat < n → ∀ (H : Heap) (locs : List Loc), va_P G vwCl [(a_1, .inr (10, [.ref a_2, .ref a_3])), (a_2, .inr (0, [.int i_2, .int i_3, .int i_4, .int i_5, .int i_6, .int i_7, .int i_8, .int i_9, .ref a_4, .ref a_5, .ref a_6, .ref a_7, .ref a_8, .ref a_9, .ref a_10, .ref a_11, .ref a_12, .ref a_13])), (a_4, .inl (cy 1, 9, .inl f_0)), (a_5, .inl (cy 1, 9, .inl f_1)), (a_8, .inl (cy 1, 6, .inl f_2)), (a_9, .inl (cy 1, 48, .inl f_3)), (a_10, .inl (cy 1, 30, .inl f_4)), (a_3, .inl (cy 5, 3, .inr (.inr (.inr (.inr (va_up (va_up (va_up (fun _ => none) 0 (some a_14)) 1 (some a_15)) 2 (some a_16))))))), (a_14, .inr (1, [.ref a_17, .ref a_18, .int i_10, .int i_11, .int i_12])), (a_17, .inl (cy 1, 2100, .inl f_5)), (a_15, .inr (1, [.ref a_19, .ref a_20, .int i_13, .int i_14, .int i_15])), (a_19, .inl (cy 1, 2100, .inl f_6)), (a_16, .inr (1, [.ref a_21, .ref a_22, .int i_16, .int i_17, .int i_18])), (a_21, .inl (cy 1, 2100, .inl f_7)), (a_0, .inr (2, [.ref a_1, .ref a_23, .ref a_24])), (a_23, .inl (cy 1, 36, .inl z14_15_991)), (a_24, .inl (cy 1, 64, .inl z89_16_1021))] H → va_D A [(a_1, .inr (10, [.ref a_2, .ref a_3])), (a_2, .inr (0, [.int i_2, .int i_3, .int i_4, .int i_5, .int i_6, .int i_7, .int i_8, .int i_9, .ref a_4, .ref a_5, .ref a_6, .ref a_7, .ref a_8, .ref a_9, .ref a_10, .ref a_11, .ref a_12, .ref a_13])), (a_4, .inl (cy 1, 9, .inl f_0)), (a_5, .inl (cy 1, 9, .inl f_1)), (a_8, .inl (cy 1, 6, .inl f_2)), (a_9, .inl (cy 1, 48, .inl f_3)), (a_10, .inl (cy 1, 30, .inl f_4)), (a_3, .inl (cy 5, 3, .inr (.inr (.inr (.inr (va_up (va_up (va_up (fun _ => none) 0 (some a_14)) 1 (some a_15)) 2 (some a_16))))))), (a_14, .inr (1, [.ref a_17, .ref a_18, .int i_10, .int i_11, .int i_12])), (a_17, .inl (cy 1, 2100, .inl f_5)), (a_15, .inr (1, [.ref a_19, .ref a_20, .int i_13, .int i_14, .int i_15])), (a_19, .inl (cy 1, 2100, .inl f_6)), (a_16, .inr (1, [.ref a_21, .ref a_22, .int i_16, .int i_17, .int i_18])), (a_21, .inl (cy 1, 2100, .inl f_7)), (a_0, .inr (2, [.ref a_1, .ref a_23, .ref a_24])), (a_23, .inl (cy 1, 36, .inl z14_15_991)), (a_24, .inl (cy 1, 64, .inl z89_16_1021))] → va_S A s.heap H locs → ∀ (ls : Array Slot), lv_has ls 6 [(5, .int x89_5_1020), (4, .int v995), (3, .int i_8), (0, .ref a_0), (1, .int i_0), (2, .int i_1)] → W p l e R s m args below meth c H locs 0 0 Q (F0 m 89 ls []) := by
          intro n
          induction n with
          | zero => intro x89_5_1020 z89_16_1021 rx89_5_1020 hm; exact absurd hm (Nat.not_lt_zero _)
          | succ n ih89 =>
            intro x89_5_1020 z89_16_1021 rx89_5_1020 hm89 H locs hP hD hS ls hl
            refine lv_iload hx hb dX2_play_89 (lv_at hl 0 rfl) ?_
            refine lv_if_lt (tgt := 119) hx hb dX2_play_91 (by decide) (fun c1023 => ?_) (fun c1023 => ?_)
            · have q1024 := mm_ltL (h := (-1)) (mm_lt c1023) rx89_5_1020 mm_k0 (by decide)
              refine lv_aload_n hx hb dX2_play_119 rfl (lv_at hl 3 rfl) ?_
              refine va_get (D := G) (ci := 2) (v := .ref a_24) (C := RX2) (T := TX2) (N := 3) hx hb hts (mm_i inlX2) hown hK.1 hP 14 rfl rfl 2 (by decide) (mm_h hts mm_w130) (fun _ h9 => h9) rfl dX2_play_120 ?_
              refine lv_iconst (v := 0) hx hb dX2_play_123 (by decide) ?_
              refine va_iald hx hb hK.1 hP 16 1 rfl rfl (mm_in mm_k0 (by decide)) dX2_play_124 ?_
              refine lv_topi (fun v1025 ev1025 => ?_)
              subst hAe
              rw [hQ]
              exact W.iret (v := v1025) hx hb hr (fun t ht hW => ⟨⟨v1025, (z14_15_991, z89_16_1021), rfl, trivial, by rw [ht]; exact hP, hK.warm hW, hD⟩, hS.F ht⟩) hS.2.2 dX2_play_125
            · have q1026 := mm_leR (mm_nlt c1023) mm_k0 rx89_5_1020
              refine lv_aload_n hx hb dX2_play_94 rfl (lv_at hl 3 rfl) ?_
              refine va_get (D := G) (ci := 2) (v := .ref a_24) (C := RX2) (T := TX2) (N := 3) hx hb hts (mm_i inlX2) hown hK.1 hP 14 rfl rfl 2 (by decide) (mm_h hts mm_w130) (fun _ h9 => h9) rfl dX2_play_95 ?_
              refine lv_iload hx hb dX2_play_98 (lv_at hl 0 rfl) ?_
              refine lv_aload_n hx hb dX2_play_100 rfl (lv_at hl 3 rfl) ?_
              refine lv_iload hx hb dX2_play_101 (lv_at hl 0 rfl) ?_
              refine lv_aload_n hx hb dX2_play_103 rfl (lv_at hl 3 rfl) ?_
              refine lv_iload hx hb dX2_play_104 (lv_at hl 0 rfl) ?_
              refine mm_finir (va_runV (As := [.int x89_5_1020]) (rest := [.int x89_5_1020, .ref a_0, .int x89_5_1020, .ref a_24]) ⟨hx, hb, hml, hown, hts⟩ (K483_X2_bestMove l G cy H.size a_0 x89_5_1020 a_1 a_2 a_3 i_2 i_3 i_4 i_5 i_6 i_7 i_8 i_9 a_4 a_5 a_6 a_7 a_8 a_9 a_10 a_11 a_12 a_13 a_23 a_24 z14_15_991 z89_16_1021 q1026 h4) (cwV 1 hts (mm_gV mm_w1442 mm_w1443 mm_w1444 mm_w49 mm_w1445) rfl rfl rfl hd_X2_bestMove ⟨by rw [hRf]; exact Nat.le_of_ble_eq_true rfl, by rw [hRl]; exact Nat.le_of_ble_eq_true rfl⟩) (mm_preV hK hZ hS hA hP hD [0, 1, 14, 15, 16] rfl rfl 14 rfl rfl rfl) rfl rfl hl.1 rfl (lv_room (Nat.le_of_ble_eq_true rfl)) dX2_play_106 ⟨by rw [hRc]; exact Nat.le_of_ble_eq_true rfl, by rw [hRs]; exact Nat.le_of_ble_eq_true rfl⟩) hP hD hS hA [0, 1, 14, 15, 16] rfl (fun _ => rfl) ?_
              clear hP hD hS
              clear H locs
              intro v1027 _u H locs hw hP hD hS
              have w1028 := hw
              refine mm_finir (va_runV (As := [.int x89_5_1020, .int v1027]) (rest := [.int x89_5_1020, .ref a_24]) ⟨hx, hb, hml, hown, hts⟩ (K482_X2_worthOf l G cy H.size a_0 x89_5_1020 v1027 a_1 a_23 a_24 z14_15_991 z89_16_1021 q1026 w1028) (cwV 2 hts (mm_gV mm_w1446 mm_w1447 mm_w1448 mm_w49 mm_w1449) rfl rfl rfl hd_X2_worthOf ⟨by rw [hRf]; exact Nat.le_of_ble_eq_true rfl, by rw [hRl]; exact Nat.le_of_ble_eq_true rfl⟩) (mm_preV hK hZ hS hA hP hD [14, 15, 16] rfl rfl 14 rfl rfl rfl) rfl rfl hl.1 rfl (lv_room (Nat.le_of_ble_eq_true rfl)) dX2_play_109 ⟨by rw [hRc]; exact Nat.le_of_ble_eq_true rfl, by rw [hRs]; exact Nat.le_of_ble_eq_true rfl⟩) hP hD hS hA [14, 15, 16] rfl (fun _ => rfl) ?_
              clear hP hD hS
              clear H locs
              intro v1029 _u H locs hw hP hD hS
              refine va_iast hx hb hK.1 hP hD hS 16 1 rfl rfl (mm_in q1026 (by decide)) dX2_play_112 ?_
              clear hP hD hS
              clear H locs
              obtain ⟨g1030, eg1030⟩ : ∃ z : Nat → Int32, z = upd z89_16_1021 x89_5_1020.toNatClampNeg v1029 := ⟨_, rfl⟩
              rw [← eg1030]
              intro H locs (hP : va_P G vwCl [(a_1, .inr (10, [.ref a_2, .ref a_3])), (a_2, .inr (0, [.int i_2, .int i_3, .int i_4, .int i_5, .int i_6, .int i_7, .int i_8, .int i_9, .ref a_4, .ref a_5, .ref a_6, .ref a_7, .ref a_8, .ref a_9, .ref a_10, .ref a_11, .ref a_12, .ref a_13])), (a_4, .inl (cy 1, 9, .inl f_0)), (a_5, .inl (cy 1, 9, .inl f_1)), (a_8, .inl (cy 1, 6, .inl f_2)), (a_9, .inl (cy 1, 48, .inl f_3)), (a_10, .inl (cy 1, 30, .inl f_4)), (a_3, .inl (cy 5, 3, .inr (.inr (.inr (.inr (va_up (va_up (va_up (fun _ => none) 0 (some a_14)) 1 (some a_15)) 2 (some a_16))))))), (a_14, .inr (1, [.ref a_17, .ref a_18, .int i_10, .int i_11, .int i_12])), (a_17, .inl (cy 1, 2100, .inl f_5)), (a_15, .inr (1, [.ref a_19, .ref a_20, .int i_13, .int i_14, .int i_15])), (a_19, .inl (cy 1, 2100, .inl f_6)), (a_16, .inr (1, [.ref a_21, .ref a_22, .int i_16, .int i_17, .int i_18])), (a_21, .inl (cy 1, 2100, .inl f_7)), (a_0, .inr (2, [.ref a_1, .ref a_23, .ref a_24])), (a_23, .inl (cy 1, 36, .inl z14_15_991)), (a_24, .inl (cy 1, 64, .inl g1030))] H) (hD : va_D A [(a_1, .inr (10, [.ref a_2, .ref a_3])), (a_2, .inr (0, [.int i_2, .int i_3, .int i_4, .int i_5, .int i_6, .int i_7, .int i_8, .int i_9, .ref a_4, .ref a_5, .ref a_6, .ref a_7, .ref a_8, .ref a_9, .ref a_10, .ref a_11, .ref a_12, .ref a_13])), (a_4, .inl (cy 1, 9, .inl f_0)), (a_5, .inl (cy 1, 9, .inl f_1)), (a_8, .inl (cy 1, 6, .inl f_2)), (a_9, .inl (cy 1, 48, .inl f_3)), (a_10, .inl (cy 1, 30, .inl f_4)), (a_3, .inl (cy 5, 3, .inr (.inr (.inr (.inr (va_up (va_up (va_up (fun _ => none) 0 (some a_14)) 1 (some a_15)) 2 (some a_16))))))), (a_14, .inr (1, [.ref a_17, .ref a_18, .int i_10, .int i_11, .int i_12])), (a_17, .inl (cy 1, 2100, .inl f_5)), (a_15, .inr (1, [.ref a_19, .ref a_20, .int i_13, .int i_14, .int i_15])), (a_19, .inl (cy 1, 2100, .inl f_6)), (a_16, .inr (1, [.ref a_21, .ref a_22, .int i_16, .int i_17, .int i_18])), (a_21, .inl (cy 1, 2100, .inl f_7)), (a_0, .inr (2, [.ref a_1, .ref a_23, .ref a_24])), (a_23, .inl (cy 1, 36, .inl z14_15_991)), (a_24, .inl (cy 1, 64, .inl g1030))]) hS
              obtain ⟨v1031, ev1031⟩ : ∃ y : Int32, y = x89_5_1020 + (-1) := ⟨_, rfl⟩
              refine lv_iinc (v := v1031) (lv' := [(5, .int v1031), (4, .int v995), (3, .int i_8), (0, .ref a_0), (1, .int i_0), (2, .int i_1)]) hx hb dX2_play_113 hl (k := 0) rfl (by rw [ev1031]; rfl) (by decide) rfl ?_
              clear hl
              clear ls
              intro ls hl
              have rv1031 : mm_rg v1031 (-1) 61 := mm_add ev1031 q1026 mm_km1 (by decide) (by decide)
              have tv1031 := mm_addEc ev1031 q1026 mm_km1 (by decide) (k := (-1)) (by decide)
              refine lv_goto (tgt := 89) hx hb dX2_play_116 (by decide) ?_
              exact ih89 v1031 g1030 (mm_wk rv1031 (by decide)) (mm_md hm89 tv1031 (by decide) (rv1031).1 (by decide)) H locs hP hD hS ls (lv_sub hl [0, 1, 2, 3, 4, 5] rfl)
        exact L89_1021 _ v997 g996 rv997 (Nat.lt_succ_self _) H locs hP hD hS ls (lv_sub hl [0, 1, 2, 3, 4, 5] rfl)
      · have q1032 := mm_ltL (h := 5) (mm_nle c993) rx14_4_990 h4 (by decide)
        have q1033 := mm_ltR (lo := 1) (mm_nle c993) rx14_4_990 h4 (by decide)
        refine lv_iconst (v := 0) hx hb dX2_play_20 (by decide) ?_
        refine lv_istore (lv' := [(5, .int 0), (4, .int x14_4_990), (3, .int i_8), (0, .ref a_0), (1, .int i_0), (2, .int i_1)]) hx hb dX2_play_21 hl (by decide) rfl ?_
        clear hl
        clear ls
        intro ls hl
        have L23_1115 : ∀ (n : Nat) (x23_5_1114 : Int32) (z23_15_1115 : Nat → Int32), mm_rg x23_5_1114 0 6 → (6 - x23_5_1114.toInt).toNat < n → ∀ (H : Heap) (locs : List Loc), va_P G vwCl [(a_1, .inr (10, [.ref a_2, .ref a_3])), (a_2, .inr (0, [.int i_2, .int i_3, .int i_4, .int i_5, .int i_6, .int i_7, .int i_8, .int i_9, .ref a_4, .ref a_5, .ref a_6, .ref a_7, .ref a_8, .ref a_9, .ref a_10, .ref a_11, .ref a_12, .ref a_13])), (a_4, .inl (cy 1, 9, .inl f_0)), (a_5, .inl (cy 1, 9, .inl f_1)), (a_8, .inl (cy 1, 6, .inl f_2)), (a_9, .inl (cy 1, 48, .inl f_3)), (a_10, .inl (cy 1, 30, .inl f_4)), (a_3, .inl (cy 5, 3, .inr (.inr (.inr (.inr (va_up (va_up (va_up (fun _ => none) 0 (some a_14)) 1 (some a_15)) 2 (some a_16))))))), (a_14, .inr (1, [.ref a_17, .ref a_18, .int i_10, .int i_11, .int i_12])), (a_17, .inl (cy 1, 2100, .inl f_5)), (a_15, .inr (1, [.ref a_19, .ref a_20, .int i_13, .int i_14, .int i_15])), (a_19, .inl (cy 1, 2100, .inl f_6)), (a_16, .inr (1, [.ref a_21, .ref a_22, .int i_16, .int i_17, .int i_18])), (a_21, .inl (cy 1, 2100, .inl f_7)), (a_0, .inr (2, [.ref a_1, .ref a_23, .ref a_24])), (a_23, .inl (cy 1, 36, .inl z23_15_1115)), (a_24, .inl (cy 1, 64, .inl f_9))] H → va_D A [(a_1, .inr (10, [.ref a_2, .ref a_3])), (a_2, .inr (0, [.int i_2, .int i_3, .int i_4, .int i_5, .int i_6, .int i_7, .int i_8, .int i_9, .ref a_4, .ref a_5, .ref a_6, .ref a_7, .ref a_8, .ref a_9, .ref a_10, .ref a_11, .ref a_12, .ref a_13])), (a_4, .inl (cy 1, 9, .inl f_0)), (a_5, .inl (cy 1, 9, .inl f_1)), (a_8, .inl (cy 1, 6, .inl f_2)), (a_9, .inl (cy 1, 48, .inl f_3)), (a_10, .inl (cy 1, 30, .inl f_4)), (a_3, .inl (cy 5, 3, .inr (.inr (.inr (.inr (va_up (va_up (va_up (fun _ => none) 0 (some a_14)) 1 (some a_15)) 2 (some a_16))))))), (a_14, .inr (1, [.ref a_17, .ref a_18, .int i_10, .int i_11, .int i_12])), (a_17, .inl (cy 1, 2100, .inl f_5)), (a_15, .inr (1, [.ref a_19, .ref a_20, .int i_13, .int i_14, .int i_15])), (a_19, .inl (cy 1, 2100, .inl f_6)), (a_16, .inr (1, [.ref a_21, .ref a_22, .int i_16, .int i_17, .int i_18])), (a_21, .inl (cy 1, 2100, .inl f_7)), (a_0, .inr (2, [.ref a_1, .ref a_23, .ref a_24])), (a_23, .inl (cy 1, 36, .inl z23_15_1115)), (a_24, .inl (cy 1, 64, .inl f_9))] → va_S A s.heap H locs → ∀ (ls : Array Slot), lv_has ls 6 [(5, .int x23_5_1114), (4, .int x14_4_990), (3, .int i_8), (0, .ref a_0), (1, .int i_0), (2, .int i_1)] → W p l e R s m args below meth c H locs 0 0 Q (F0 m 23 ls []) := by
          intro n
          induction n with
          | zero => intro x23_5_1114 z23_15_1115 rx23_5_1114 hm; exact absurd hm (Nat.not_lt_zero _)
          | succ n ih23 =>
            intro x23_5_1114 z23_15_1115 rx23_5_1114 hm23 H locs hP hD hS ls hl
            refine lv_iload hx hb dX2_play_23 (lv_at hl 0 rfl) ?_
            refine lv_iload_n hx hb dX2_play_25 rfl (lv_at hl 2 rfl) ?_
            refine lv_icmp_ge (tgt := 62) hx hb dX2_play_26 (by decide) (fun c1117 => ?_) (fun c1117 => ?_)
            · have q1118 := mm_leR (mm_le c1117) q1033 rx23_5_1114
              obtain ⟨v1119, ev1119⟩ : ∃ y : Int32, y = x14_4_990 + 1 := ⟨_, rfl⟩
              refine lv_iinc (v := v1119) (lv' := [(4, .int v1119), (5, .int x23_5_1114), (3, .int i_8), (0, .ref a_0), (1, .int i_0), (2, .int i_1)]) hx hb dX2_play_62 hl (k := 1) rfl (by rw [ev1119]; rfl) (by decide) rfl ?_
              clear hl
              clear ls
              intro ls hl
              have rv1119 : mm_rg v1119 1 6 := mm_add ev1119 q1032 mm_k1 (by decide) (by decide)
              have tv1119 := mm_addEc ev1119 q1032 mm_k1 (by decide) (k := 1) (by decide)
              refine lv_goto (tgt := 14) hx hb dX2_play_65 (by decide) ?_
              exact ih14 v1119 z23_15_1115 (mm_wk rv1119 (by decide)) (mm_mu hm14 tv1119 (by decide) (rv1119).2 (by decide)) H locs hP hD hS ls (lv_sub hl [0, 2, 3, 4, 5] rfl)
            · have q1120 := mm_ltL (h := 5) (mm_nle c1117) rx23_5_1114 q1033 (by decide)
              refine lv_aload_n hx hb dX2_play_29 rfl (lv_at hl 3 rfl) ?_
              refine va_get (D := G) (ci := 2) (v := .ref a_23) (C := RX2) (T := TX2) (N := 3) hx hb hts (mm_i inlX2) hown hK.1 hP 14 rfl rfl 1 (by decide) (mm_h hts mm_w129) (fun _ h9 => h9) rfl dX2_play_30 ?_
              refine lv_iload hx hb dX2_play_33 (lv_at hl 1 rfl) ?_
              refine lv_bipush (v := 6) hx hb dX2_play_35 (by decide) ?_
              refine lv_imul hx hb dX2_play_37 ?_
              refine lv_topi (fun v1121 ev1121 => ?_)
              have rv1121 : mm_rg v1121 0 30 := mm_mul ev1121 q1032 mm_k6 (by decide) (by decide)
              refine lv_iload hx hb dX2_play_38 (lv_at hl 0 rfl) ?_
              refine lv_iadd hx hb dX2_play_40 ?_
              refine lv_topi (fun v1122 ev1122 => ?_)
              have rv1122 : mm_rg v1122 0 35 := mm_add ev1122 rv1121 q1120 (by decide) (by decide)
              have tv1122 := mm_addE ev1122 rv1121 q1120 (by decide)
              refine lv_aload_n hx hb dX2_play_41 rfl (lv_at hl 3 rfl) ?_
              refine va_get (D := G) (ci := 2) (v := .ref a_1) (C := RX2) (T := TX2) (N := 3) hx hb hts (mm_i inlX2) hown hK.1 hP 14 rfl rfl 0 (by decide) (mm_h hts mm_w131) (fun _ h9 => h9) rfl dX2_play_42 ?_
              refine lv_iload_n hx hb dX2_play_45 rfl (lv_at hl 4 rfl) ?_
              refine lv_iload_n hx hb dX2_play_46 rfl (lv_at hl 5 rfl) ?_
              refine lv_iload hx hb dX2_play_47 (lv_at hl 1 rfl) ?_
              refine lv_iadd hx hb dX2_play_49 ?_
              refine lv_topi (fun v1123 ev1123 => ?_)
              have rv1123 : mm_rg v1123 0 1000000006 := mm_add ev1123 h1 q1032 (by decide) (by decide)
              have tv1123 := mm_addE ev1123 h1 q1032 (by decide)
              refine lv_iload hx hb dX2_play_50 (lv_at hl 0 rfl) ?_
              refine mm_finir (va_runV (As := [.int i_0, .int v1123, .int x23_5_1114]) (rest := [.int v1122, .ref a_23]) ⟨hx, hb, hml, hown, hts⟩ (K374_X10_leaving l G cy H.size a_1 i_0 v1123 x23_5_1114 a_2 a_3 i_2 i_3 i_4 i_5 i_6 i_7 i_8 i_9 a_4 a_5 a_6 a_7 a_8 a_9 a_10 a_11 a_12 a_13 f_0 f_1 f_2 f_3 f_4 a_14 a_15 a_16 a_17 a_18 i_10 i_11 i_12 f_5 a_19 a_20 i_13 i_14 i_15 f_6 a_21 a_22 i_16 i_17 i_18 f_7 h0 (mm_wk rv1123 (by decide)) q1120 h2 h3 h5 h6 h7 h8 h9 h10 h11 h12 h13 h14 h15) (cwV 3 hts (mm_gV mm_w1441 mm_w830 mm_w831 mm_w23 mm_w832) rfl rfl rfl hd_X10_leaving ⟨by rw [hRf]; exact Nat.le_of_ble_eq_true rfl, by rw [hRl]; exact Nat.le_of_ble_eq_true rfl⟩) (mm_preV hK hZ hS hA hP hD [0, 1, 2, 3, 4, 5, 6, 7, 8, 9, 10, 11, 12, 13] rfl rfl 0 rfl rfl rfl) rfl rfl hl.1 rfl (lv_room (Nat.le_of_ble_eq_true rfl)) dX2_play_52 ⟨by rw [hRc]; exact Nat.le_of_ble_eq_true rfl, by rw [hRs]; exact Nat.le_of_ble_eq_true rfl⟩) hP hD hS hA [0, 1, 2, 3, 4, 5, 6, 7, 8, 9, 10, 11, 12, 13] rfl (fun _ => rfl) ?_
              clear hP hD hS
              clear H locs
              intro v1124 _u H locs hw hP hD hS
              refine va_iast hx hb hK.1 hP hD hS 15 1 rfl rfl (mm_in rv1122 (by decide)) dX2_play_55 ?_
              clear hP hD hS
              clear H locs
              obtain ⟨g1125, eg1125⟩ : ∃ z : Nat → Int32, z = upd z23_15_1115 v1122.toNatClampNeg v1124 := ⟨_, rfl⟩
              rw [← eg1125]
              intro H locs (hP : va_P G vwCl [(a_1, .inr (10, [.ref a_2, .ref a_3])), (a_2, .inr (0, [.int i_2, .int i_3, .int i_4, .int i_5, .int i_6, .int i_7, .int i_8, .int i_9, .ref a_4, .ref a_5, .ref a_6, .ref a_7, .ref a_8, .ref a_9, .ref a_10, .ref a_11, .ref a_12, .ref a_13])), (a_4, .inl (cy 1, 9, .inl f_0)), (a_5, .inl (cy 1, 9, .inl f_1)), (a_8, .inl (cy 1, 6, .inl f_2)), (a_9, .inl (cy 1, 48, .inl f_3)), (a_10, .inl (cy 1, 30, .inl f_4)), (a_3, .inl (cy 5, 3, .inr (.inr (.inr (.inr (va_up (va_up (va_up (fun _ => none) 0 (some a_14)) 1 (some a_15)) 2 (some a_16))))))), (a_14, .inr (1, [.ref a_17, .ref a_18, .int i_10, .int i_11, .int i_12])), (a_17, .inl (cy 1, 2100, .inl f_5)), (a_15, .inr (1, [.ref a_19, .ref a_20, .int i_13, .int i_14, .int i_15])), (a_19, .inl (cy 1, 2100, .inl f_6)), (a_16, .inr (1, [.ref a_21, .ref a_22, .int i_16, .int i_17, .int i_18])), (a_21, .inl (cy 1, 2100, .inl f_7)), (a_0, .inr (2, [.ref a_1, .ref a_23, .ref a_24])), (a_23, .inl (cy 1, 36, .inl g1125)), (a_24, .inl (cy 1, 64, .inl f_9))] H) (hD : va_D A [(a_1, .inr (10, [.ref a_2, .ref a_3])), (a_2, .inr (0, [.int i_2, .int i_3, .int i_4, .int i_5, .int i_6, .int i_7, .int i_8, .int i_9, .ref a_4, .ref a_5, .ref a_6, .ref a_7, .ref a_8, .ref a_9, .ref a_10, .ref a_11, .ref a_12, .ref a_13])), (a_4, .inl (cy 1, 9, .inl f_0)), (a_5, .inl (cy 1, 9, .inl f_1)), (a_8, .inl (cy 1, 6, .inl f_2)), (a_9, .inl (cy 1, 48, .inl f_3)), (a_10, .inl (cy 1, 30, .inl f_4)), (a_3, .inl (cy 5, 3, .inr (.inr (.inr (.inr (va_up (va_up (va_up (fun _ => none) 0 (some a_14)) 1 (some a_15)) 2 (some a_16))))))), (a_14, .inr (1, [.ref a_17, .ref a_18, .int i_10, .int i_11, .int i_12])), (a_17, .inl (cy 1, 2100, .inl f_5)), (a_15, .inr (1, [.ref a_19, .ref a_20, .int i_13, .int i_14, .int i_15])), (a_19, .inl (cy 1, 2100, .inl f_6)), (a_16, .inr (1, [.ref a_21, .ref a_22, .int i_16, .int i_17, .int i_18])), (a_21, .inl (cy 1, 2100, .inl f_7)), (a_0, .inr (2, [.ref a_1, .ref a_23, .ref a_24])), (a_23, .inl (cy 1, 36, .inl g1125)), (a_24, .inl (cy 1, 64, .inl f_9))]) hS
              obtain ⟨v1126, ev1126⟩ : ∃ y : Int32, y = x23_5_1114 + 1 := ⟨_, rfl⟩
              refine lv_iinc (v := v1126) (lv' := [(5, .int v1126), (4, .int x14_4_990), (3, .int i_8), (0, .ref a_0), (1, .int i_0), (2, .int i_1)]) hx hb dX2_play_56 hl (k := 0) rfl (by rw [ev1126]; rfl) (by decide) rfl ?_
              clear hl
              clear ls
              intro ls hl
              have rv1126 : mm_rg v1126 1 6 := mm_add ev1126 q1120 mm_k1 (by decide) (by decide)
              have tv1126 := mm_addEc ev1126 q1120 mm_k1 (by decide) (k := 1) (by decide)
              refine lv_goto (tgt := 23) hx hb dX2_play_59 (by decide) ?_
              exact ih23 v1126 g1125 (mm_wk rv1126 (by decide)) (mm_mu hm23 tv1126 (by decide) (rv1126).2 (by decide)) H locs hP hD hS ls (lv_sub hl [0, 1, 2, 3, 4, 5] rfl)
        exact L23_1115 _ 0 z14_15_991 (mm_wk mm_k0 (by decide)) (Nat.lt_succ_self _) H locs hP hD hS ls (lv_sub hl [0, 1, 2, 3, 4, 5] rfl)
  exact L14_991 _ 0 f_8 (mm_wk mm_k0 (by decide)) (Nat.lt_succ_self _) H locs hP hD hS ls (lv_sub hl [0, 1, 2, 3, 4] rfl)

set_option maxHeartbeats 4000000 in
set_option maxRecDepth 100000 in
theorem K485_X11_heirs (l : Launch) (G : va_G) (cy : Nat → ClassId) (sz : Nat) (a_0 : Nat) (i_0 : Int32) (i_1 : Int32) (a_1 : Nat) (a_2 : Nat) (a_3 : Nat) (a_4 : Nat) (a_5 : Nat) (a_6 : Nat) (a_7 : Nat) (a_8 : Nat) (a_9 : Nat) (a_10 : Nat) (a_11 : Nat) (a_12 : Nat) (a_13 : Nat) (i_2 : Int32) (i_3 : Int32) (i_4 : Int32) (i_5 : Int32) (i_6 : Int32) (i_7 : Int32) (i_8 : Int32) (i_9 : Int32) (a_14 : Nat) (a_15 : Nat) (a_16 : Nat) (a_17 : Nat) (a_18 : Nat) (a_19 : Nat) (a_20 : Nat) (a_21 : Nat) (a_22 : Nat) (a_23 : Nat) (f_0 : Nat → Int32) (f_1 : Nat → Int32) (f_2 : Nat → Int32) (f_3 : Nat → Int32) (f_4 : Nat → Int32) (a_24 : Nat) (a_25 : Nat) (a_26 : Nat) (a_27 : Nat) (a_28 : Nat) (i_10 : Int32) (i_11 : Int32) (i_12 : Int32) (f_5 : Nat → Int32) (a_29 : Nat) (a_30 : Nat) (i_13 : Int32) (i_14 : Int32) (i_15 : Int32) (f_6 : Nat → Int32) (a_31 : Nat) (a_32 : Nat) (i_16 : Int32) (i_17 : Int32) (i_18 : Int32) (f_7 : Nat → Int32) (a_33 : Nat) (a_34 : Nat) (f_8 : Nat → Int32) (f_9 : Nat → Int32) (h0 : mm_rg i_5 0 99) (h1 : mm_rg i_6 0 9) (h2 : mm_rg i_7 0 3) (h3 : mm_rg i_8 0 6) (h4 : mm_ar f_0 (-1) 4) (h5 : mm_ar f_1 0 99) (h6 : mm_ar f_2 0 8) (h7 : mm_ar f_3 0 9) (h8 : mm_ar f_4 0 9) (h9 : mm_rg i_12 (-2147483648) 210) (h10 : mm_ar f_5 0 9) (h11 : mm_rg i_15 (-2147483648) 210) (h12 : mm_ar f_6 0 9) (h13 : mm_rg i_18 (-2147483648) 210) (h14 : mm_ar f_7 0 9)  : mm_CI l yX11_heirs (mm_ws yX11_heirs cX11_heirs 3 (some .int)) ({ frames := 5, cells := 0, slots := 0, locals := 136 } : Room) G cy sz [(a_0, .inr (11, [.ref a_1, .ref a_2, .ref a_3, .ref a_4, .ref a_5, .ref a_6, .ref a_7, .ref a_8, .ref a_9, .ref a_10, .ref a_11])), (a_3, .inr (10, [.ref a_12, .ref a_13])), (a_12, .inr (0, [.int i_2, .int i_3, .int i_4, .int i_5, .int i_6, .int i_7, .int i_8, .int i_9, .ref a_14, .ref a_15, .ref a_16, .ref a_17, .ref a_18, .ref a_19, .ref a_20, .ref a_21, .ref a_22, .ref a_23])), (a_14, .inl (cy 1, 9, .inl f_0)), (a_15, .inl (cy 1, 9, .inl f_1)), (a_18, .inl (cy 1, 6, .inl f_2)), (a_19, .inl (cy 1, 48, .inl f_3)), (a_20, .inl (cy 1, 30, .inl f_4)), (a_13, .inl (cy 5, 3, .inr (.inr (.inr (.inr (va_up (va_up (va_up (fun _ => none) 0 (some a_24)) 1 (some a_25)) 2 (some a_26))))))), (a_24, .inr (1, [.ref a_27, .ref a_28, .int i_10, .int i_11, .int i_12])), (a_27, .inl (cy 1, 2100, .inl f_5)), (a_25, .inr (1, [.ref a_29, .ref a_30, .int i_13, .int i_14, .int i_15])), (a_29, .inl (cy 1, 2100, .inl f_6)), (a_26, .inr (1, [.ref a_31, .ref a_32, .int i_16, .int i_17, .int i_18])), (a_31, .inl (cy 1, 2100, .inl f_7)), (a_10, .inr (2, [.ref a_3, .ref a_33, .ref a_34])), (a_33, .inl (cy 1, 36, .inl f_8)), (a_34, .inl (cy 1, 64, .inl f_9))] [.ref a_0, .int i_0, .int i_1] (fun u : (Nat → Int32) × (Nat → Int32) => [(a_0, .inr (11, [.ref a_1, .ref a_2, .ref a_3, .ref a_4, .ref a_5, .ref a_6, .ref a_7, .ref a_8, .ref a_9, .ref a_10, .ref a_11])), (a_3, .inr (10, [.ref a_12, .ref a_13])), (a_12, .inr (0, [.int i_2, .int i_3, .int i_4, .int i_5, .int i_6, .int i_7, .int i_8, .int i_9, .ref a_14, .ref a_15, .ref a_16, .ref a_17, .ref a_18, .ref a_19, .ref a_20, .ref a_21, .ref a_22, .ref a_23])), (a_14, .inl (cy 1, 9, .inl f_0)), (a_15, .inl (cy 1, 9, .inl f_1)), (a_18, .inl (cy 1, 6, .inl f_2)), (a_19, .inl (cy 1, 48, .inl f_3)), (a_20, .inl (cy 1, 30, .inl f_4)), (a_13, .inl (cy 5, 3, .inr (.inr (.inr (.inr (va_up (va_up (va_up (fun _ => none) 0 (some a_24)) 1 (some a_25)) 2 (some a_26))))))), (a_24, .inr (1, [.ref a_27, .ref a_28, .int i_10, .int i_11, .int i_12])), (a_27, .inl (cy 1, 2100, .inl f_5)), (a_25, .inr (1, [.ref a_29, .ref a_30, .int i_13, .int i_14, .int i_15])), (a_29, .inl (cy 1, 2100, .inl f_6)), (a_26, .inr (1, [.ref a_31, .ref a_32, .int i_16, .int i_17, .int i_18])), (a_31, .inl (cy 1, 2100, .inl f_7)), (a_10, .inr (2, [.ref a_3, .ref a_33, .ref a_34])), (a_33, .inl (cy 1, 36, .inl u.1)), (a_34, .inl (cy 1, 64, .inl u.2))]) (fun (r : Int32) (u : (Nat → Int32) × (Nat → Int32)) => True) 0 0 := by
  refine mm_begin (lv := [(0, .ref a_0), (1, .int i_0), (2, .int i_1)]) (by decide) (Nat.le_of_ble_eq_true rfl) rfl ?_
  intro p e s m below meth c A ls R args Q H locs hRe hQ hAe hx hb hr hlocks hml hown hnm hts hsz hA hS hP hK hD hZ hl
  have hRf : R.frames = 5 := by rw [hRe]
  have hRl : R.locals = 136 := by rw [hRe]
  have hRc : R.cells = 0 := by rw [hRe]
  have hRs : R.slots = 0 := by rw [hRe]
  refine lv_aload_n hx hb dX11_heirs_0 rfl (lv_at hl 0 rfl) ?_
  refine lv_iload_n hx hb dX11_heirs_1 rfl (lv_at hl 1 rfl) ?_
  refine mm_finir (va_runV (As := [.int i_0]) (rest := []) ⟨hx, hb, hml, hown, hts⟩ (K350_X11_isLand l G cy H.size a_0 i_0 a_1 a_2 a_3 a_4 a_5 a_6 a_7 a_8 a_9 a_10 a_11 a_12 a_13 i_2 i_3 i_4 i_5 i_6 i_7 i_8 i_9 a_14 a_15 a_16 a_17 a_18 a_19 a_20 a_21 a_22 a_23 h2) (cwV 1 hts (mm_gV mm_w626 mm_w627 mm_w628 mm_w2 mm_w629) rfl rfl rfl hd_X11_isLand ⟨by rw [hRf]; exact Nat.le_of_ble_eq_true rfl, by rw [hRl]; exact Nat.le_of_ble_eq_true rfl⟩) (mm_preV hK hZ hS hA hP hD [0, 1, 2] rfl rfl 0 rfl rfl rfl) rfl rfl hl.1 rfl (lv_room (Nat.le_of_ble_eq_true rfl)) dX11_heirs_2 ⟨by rw [hRc]; exact Nat.le_of_ble_eq_true rfl, by rw [hRs]; exact Nat.le_of_ble_eq_true rfl⟩) hP hD hS hA [0, 1, 2] rfl (fun _ => rfl) ?_
  clear hP hD hS
  clear H locs
  intro v1 _u H locs hw hP hD hS
  rcases hw with ⟨rfl, w2⟩ | ⟨rfl, w3⟩
  · refine lv_if_eq (tgt := 15) hx hb dX11_heirs_5 (by decide) (fun c4 => ?_) (fun c4 => ?_)
    · refine lv_ldcw (v := (-100000)) hx hb hown (mm_h hts mm_w1434) dX11_heirs_15 ?_
      subst hAe
      rw [hQ]
      exact W.iret (v := (-100000)) hx hb hr (fun t ht hW => ⟨⟨(-100000), (f_8, f_9), rfl, trivial, by rw [ht]; exact hP, hK.warm hW, hD⟩, hS.F ht⟩) hS.2.2 dX11_heirs_18
    · have q5 := mm_neL (lo := 1) (mm_ne c4) mm_k0 mm_k0 (by decide) (by decide)
      exact mm_no q5 (by decide)
  · refine lv_if_eq (tgt := 15) hx hb dX11_heirs_5 (by decide) (fun c6 => ?_) (fun c6 => ?_)
    · exact mm_eqN c6.symm mm_k0 mm_k1 (by decide)
    · refine lv_iload_n hx hb dX11_heirs_8 rfl (lv_at hl 2 rfl) ?_
      refine mm_finir (va_runS (As := [.int i_1]) (rest := []) ⟨hx, hb, hml, hown, hts⟩ (K353_X11_isDay l G cy H.size i_1 ) (va_cwS 1 hts (mm_gS mm_w661 mm_w662 mm_w2 mm_w663) rfl rfl rfl hs_X11_isDay ⟨by rw [hRf]; exact Nat.le_of_ble_eq_true rfl, by rw [hRl]; exact Nat.le_of_ble_eq_true rfl⟩) (mm_preS hK hZ hS hA hP hD [] rfl rfl) rfl rfl hl.1 rfl (lv_room (Nat.le_of_ble_eq_true rfl)) dX11_heirs_9 ⟨by rw [hRc]; exact Nat.le_of_ble_eq_true rfl, by rw [hRs]; exact Nat.le_of_ble_eq_true rfl⟩) hP hD hS hA [] rfl (fun _ => rfl) ?_
      clear hP hD hS
      clear H locs
      intro v7 _u H locs hw hP hD hS
      rcases hw with ⟨rfl, w8⟩ | ⟨rfl, w9⟩
      · refine lv_if_ne (tgt := 19) hx hb dX11_heirs_12 (by decide) (fun c10 => ?_) (fun c10 => ?_)
        · have q11 := mm_neL (lo := 1) (mm_ne c10) mm_k0 mm_k0 (by decide) (by decide)
          exact mm_no q11 (by decide)
        · refine lv_ldcw (v := (-100000)) hx hb hown (mm_h hts mm_w1434) dX11_heirs_15 ?_
          subst hAe
          rw [hQ]
          exact W.iret (v := (-100000)) hx hb hr (fun t ht hW => ⟨⟨(-100000), (f_8, f_9), rfl, trivial, by rw [ht]; exact hP, hK.warm hW, hD⟩, hS.F ht⟩) hS.2.2 dX11_heirs_18
      · refine lv_if_ne (tgt := 19) hx hb dX11_heirs_12 (by decide) (fun c12 => ?_) (fun c12 => ?_)
        · refine lv_aload_n hx hb dX11_heirs_19 rfl (lv_at hl 0 rfl) ?_
          refine va_get (D := G) (ci := 11) (v := .ref a_10) (C := RX11) (T := TX11) (N := 11) hx hb hts (mm_i inlX11) hown hK.1 hP 0 rfl rfl 9 (by decide) (mm_h hts mm_w50) (fun _ h9 => h9) rfl dX11_heirs_20 ?_
          refine lv_iload_n hx hb dX11_heirs_23 rfl (lv_at hl 1 rfl) ?_
          refine lv_iload_n hx hb dX11_heirs_24 rfl (lv_at hl 2 rfl) ?_
          refine mm_fini (va_runV (As := [.int i_0, .int i_1]) (rest := []) ⟨hx, hb, hml, hown, hts⟩ (K484_X2_play l G cy H.size a_10 i_0 i_1 a_3 a_12 a_13 i_2 i_3 i_4 i_5 i_6 i_7 i_8 i_9 a_14 a_15 a_16 a_17 a_18 a_19 a_20 a_21 a_22 a_23 f_0 f_1 f_2 f_3 f_4 a_24 a_25 a_26 a_27 a_28 i_10 i_11 i_12 f_5 a_29 a_30 i_13 i_14 i_15 f_6 a_31 a_32 i_16 i_17 i_18 f_7 a_33 a_34 f_8 f_9 w3 (mm_wk w9 (by decide)) h0 h1 h3 h4 h5 h6 h7 h8 h9 h10 h11 h12 h13 h14) (cwV 2 hts (mm_gV mm_w1435 mm_w1436 mm_w1437 mm_w49 mm_w1438) rfl rfl rfl hd_X2_play ⟨by rw [hRf]; exact Nat.le_of_ble_eq_true rfl, by rw [hRl]; exact Nat.le_of_ble_eq_true rfl⟩) (mm_preV hK hZ hS hA hP hD [1, 2, 3, 4, 5, 6, 7, 8, 9, 10, 11, 12, 13, 14, 15, 16, 17] rfl rfl 15 rfl rfl rfl) rfl rfl hl.1 rfl (lv_room (Nat.le_of_ble_eq_true rfl)) dX11_heirs_25 ⟨by rw [hRc]; exact Nat.le_of_ble_eq_true rfl, by rw [hRs]; exact Nat.le_of_ble_eq_true rfl⟩) hP hD hS hA (fun u : (Nat → Int32) × (Nat → Int32) => [(a_0, .inr (11, [.ref a_1, .ref a_2, .ref a_3, .ref a_4, .ref a_5, .ref a_6, .ref a_7, .ref a_8, .ref a_9, .ref a_10, .ref a_11])), (a_3, .inr (10, [.ref a_12, .ref a_13])), (a_12, .inr (0, [.int i_2, .int i_3, .int i_4, .int i_5, .int i_6, .int i_7, .int i_8, .int i_9, .ref a_14, .ref a_15, .ref a_16, .ref a_17, .ref a_18, .ref a_19, .ref a_20, .ref a_21, .ref a_22, .ref a_23])), (a_14, .inl (cy 1, 9, .inl f_0)), (a_15, .inl (cy 1, 9, .inl f_1)), (a_18, .inl (cy 1, 6, .inl f_2)), (a_19, .inl (cy 1, 48, .inl f_3)), (a_20, .inl (cy 1, 30, .inl f_4)), (a_13, .inl (cy 5, 3, .inr (.inr (.inr (.inr (va_up (va_up (va_up (fun _ => none) 0 (some a_24)) 1 (some a_25)) 2 (some a_26))))))), (a_24, .inr (1, [.ref a_27, .ref a_28, .int i_10, .int i_11, .int i_12])), (a_27, .inl (cy 1, 2100, .inl f_5)), (a_25, .inr (1, [.ref a_29, .ref a_30, .int i_13, .int i_14, .int i_15])), (a_29, .inl (cy 1, 2100, .inl f_6)), (a_26, .inr (1, [.ref a_31, .ref a_32, .int i_16, .int i_17, .int i_18])), (a_31, .inl (cy 1, 2100, .inl f_7)), (a_10, .inr (2, [.ref a_3, .ref a_33, .ref a_34])), (a_33, .inl (cy 1, 36, .inl u.1)), (a_34, .inl (cy 1, 64, .inl u.2))]) [1, 2, 3, 4, 5, 6, 7, 8, 9, 10, 11, 12, 13, 14, 15, 16, 17] [0] (n := 18) (fun _ => rfl) (by decide +kernel) (by decide +kernel) rfl (fun _ => rfl) (wr := [(a_0, .inr (11, [.ref a_1, .ref a_2, .ref a_3, .ref a_4, .ref a_5, .ref a_6, .ref a_7, .ref a_8, .ref a_9, .ref a_10, .ref a_11]))]) rfl (fun _ => rfl) (fun _ => rfl) ?_
          clear hP hD hS
          clear H locs
          intro v15 u
          obtain ⟨n13, n14⟩ := u
          intro H locs hw (hP : va_P G vwCl [(a_0, .inr (11, [.ref a_1, .ref a_2, .ref a_3, .ref a_4, .ref a_5, .ref a_6, .ref a_7, .ref a_8, .ref a_9, .ref a_10, .ref a_11])), (a_3, .inr (10, [.ref a_12, .ref a_13])), (a_12, .inr (0, [.int i_2, .int i_3, .int i_4, .int i_5, .int i_6, .int i_7, .int i_8, .int i_9, .ref a_14, .ref a_15, .ref a_16, .ref a_17, .ref a_18, .ref a_19, .ref a_20, .ref a_21, .ref a_22, .ref a_23])), (a_14, .inl (cy 1, 9, .inl f_0)), (a_15, .inl (cy 1, 9, .inl f_1)), (a_18, .inl (cy 1, 6, .inl f_2)), (a_19, .inl (cy 1, 48, .inl f_3)), (a_20, .inl (cy 1, 30, .inl f_4)), (a_13, .inl (cy 5, 3, .inr (.inr (.inr (.inr (va_up (va_up (va_up (fun _ => none) 0 (some a_24)) 1 (some a_25)) 2 (some a_26))))))), (a_24, .inr (1, [.ref a_27, .ref a_28, .int i_10, .int i_11, .int i_12])), (a_27, .inl (cy 1, 2100, .inl f_5)), (a_25, .inr (1, [.ref a_29, .ref a_30, .int i_13, .int i_14, .int i_15])), (a_29, .inl (cy 1, 2100, .inl f_6)), (a_26, .inr (1, [.ref a_31, .ref a_32, .int i_16, .int i_17, .int i_18])), (a_31, .inl (cy 1, 2100, .inl f_7)), (a_10, .inr (2, [.ref a_3, .ref a_33, .ref a_34])), (a_33, .inl (cy 1, 36, .inl n13)), (a_34, .inl (cy 1, 64, .inl n14))] H) (hD : va_D A [(a_0, .inr (11, [.ref a_1, .ref a_2, .ref a_3, .ref a_4, .ref a_5, .ref a_6, .ref a_7, .ref a_8, .ref a_9, .ref a_10, .ref a_11])), (a_3, .inr (10, [.ref a_12, .ref a_13])), (a_12, .inr (0, [.int i_2, .int i_3, .int i_4, .int i_5, .int i_6, .int i_7, .int i_8, .int i_9, .ref a_14, .ref a_15, .ref a_16, .ref a_17, .ref a_18, .ref a_19, .ref a_20, .ref a_21, .ref a_22, .ref a_23])), (a_14, .inl (cy 1, 9, .inl f_0)), (a_15, .inl (cy 1, 9, .inl f_1)), (a_18, .inl (cy 1, 6, .inl f_2)), (a_19, .inl (cy 1, 48, .inl f_3)), (a_20, .inl (cy 1, 30, .inl f_4)), (a_13, .inl (cy 5, 3, .inr (.inr (.inr (.inr (va_up (va_up (va_up (fun _ => none) 0 (some a_24)) 1 (some a_25)) 2 (some a_26))))))), (a_24, .inr (1, [.ref a_27, .ref a_28, .int i_10, .int i_11, .int i_12])), (a_27, .inl (cy 1, 2100, .inl f_5)), (a_25, .inr (1, [.ref a_29, .ref a_30, .int i_13, .int i_14, .int i_15])), (a_29, .inl (cy 1, 2100, .inl f_6)), (a_26, .inr (1, [.ref a_31, .ref a_32, .int i_16, .int i_17, .int i_18])), (a_31, .inl (cy 1, 2100, .inl f_7)), (a_10, .inr (2, [.ref a_3, .ref a_33, .ref a_34])), (a_33, .inl (cy 1, 36, .inl n13)), (a_34, .inl (cy 1, 64, .inl n14))]) hS
          subst hAe
          rw [hQ]
          exact W.iret (v := v15) hx hb hr (fun t ht hW => ⟨⟨v15, (n13, n14), rfl, trivial, by rw [ht]; exact hP, hK.warm hW, hD⟩, hS.F ht⟩) hS.2.2 dX11_heirs_28
        · exact mm_eqN c12.symm mm_k0 mm_k1 (by decide)

set_option maxHeartbeats 4000000 in
set_option maxRecDepth 100000 in
theorem K486_X2_opening (l : Launch) (G : va_G) (cy : Nat → ClassId) (sz : Nat) (a_0 : Nat) (a_1 : Nat) (a_2 : Nat) (a_3 : Nat) (i_0 : Int32) (i_1 : Int32) (i_2 : Int32) (i_3 : Int32) (i_4 : Int32) (i_5 : Int32) (i_6 : Int32) (i_7 : Int32) (a_4 : Nat) (a_5 : Nat) (a_6 : Nat) (a_7 : Nat) (a_8 : Nat) (a_9 : Nat) (a_10 : Nat) (a_11 : Nat) (a_12 : Nat) (a_13 : Nat) (a_14 : Nat) (a_15 : Nat) (f_0 : Nat → Int32) (f_1 : Nat → Int32) (h0 : mm_rg i_6 0 6)  : mm_CI l yX2_opening (mm_ws yX2_opening cX2_opening 1 (some .int)) ({ frames := 3, cells := 0, slots := 0, locals := 67 } : Room) G cy sz [(a_1, .inr (10, [.ref a_2, .ref a_3])), (a_2, .inr (0, [.int i_0, .int i_1, .int i_2, .int i_3, .int i_4, .int i_5, .int i_6, .int i_7, .ref a_4, .ref a_5, .ref a_6, .ref a_7, .ref a_8, .ref a_9, .ref a_10, .ref a_11, .ref a_12, .ref a_13])), (a_0, .inr (2, [.ref a_1, .ref a_14, .ref a_15])), (a_14, .inl (cy 1, 36, .inl f_0)), (a_15, .inl (cy 1, 64, .inl f_1))] [.ref a_0] (fun u : Unit => [(a_1, .inr (10, [.ref a_2, .ref a_3])), (a_2, .inr (0, [.int i_0, .int i_1, .int i_2, .int i_3, .int i_4, .int i_5, .int i_6, .int i_7, .ref a_4, .ref a_5, .ref a_6, .ref a_7, .ref a_8, .ref a_9, .ref a_10, .ref a_11, .ref a_12, .ref a_13])), (a_0, .inr (2, [.ref a_1, .ref a_14, .ref a_15])), (a_14, .inl (cy 1, 36, .inl f_0)), (a_15, .inl (cy 1, 64, .inl f_1))]) (fun (r : Int32) (u : Unit) => mm_rg r (-1) 5) 0 0 := by
  refine mm_begin (lv := [(0, .ref a_0)]) (by decide) (Nat.le_of_ble_eq_true rfl) rfl ?_
  intro p e s m below meth c A ls R args Q H locs hRe hQ hAe hx hb hr hlocks hml hown hnm hts hsz hA hS hP hK hD hZ hl
  have hRf : R.frames = 3 := by rw [hRe]
  have hRl : R.locals = 67 := by rw [hRe]
  have hRc : R.cells = 0 := by rw [hRe]
  have hRs : R.slots = 0 := by rw [hRe]
  refine lv_aload_n hx hb dX2_opening_0 rfl (lv_at hl 0 rfl) ?_
  refine lv_iconst (v := 0) hx hb dX2_opening_1 (by decide) ?_
  refine mm_finir (va_runV (As := [.int 0]) (rest := []) ⟨hx, hb, hml, hown, hts⟩ (K483_X2_bestMove l G cy H.size a_0 0 a_1 a_2 a_3 i_0 i_1 i_2 i_3 i_4 i_5 i_6 i_7 a_4 a_5 a_6 a_7 a_8 a_9 a_10 a_11 a_12 a_13 a_14 a_15 f_0 f_1 (mm_wk mm_k0 (by decide)) h0) (cwV 1 hts (mm_gV mm_w1442 mm_w1443 mm_w1444 mm_w49 mm_w1445) rfl rfl rfl hd_X2_bestMove ⟨by rw [hRf]; exact Nat.le_of_ble_eq_true rfl, by rw [hRl]; exact Nat.le_of_ble_eq_true rfl⟩) (mm_preV hK hZ hS hA hP hD [0, 1, 2, 3, 4] rfl rfl 2 rfl rfl rfl) rfl rfl hl.1 rfl (lv_room (Nat.le_of_ble_eq_true rfl)) dX2_opening_2 ⟨by rw [hRc]; exact Nat.le_of_ble_eq_true rfl, by rw [hRs]; exact Nat.le_of_ble_eq_true rfl⟩) hP hD hS hA [0, 1, 2, 3, 4] rfl (fun _ => rfl) ?_
  clear hP hD hS
  clear H locs
  intro v1 _u H locs hw hP hD hS
  have w2 := hw
  subst hAe
  rw [hQ]
  exact W.iret (v := v1) hx hb hr (fun t ht hW => ⟨⟨v1, (), rfl, w2, by rw [ht]; exact hP, hK.warm hW, hD⟩, hS.F ht⟩) hS.2.2 dX2_opening_5

set_option maxHeartbeats 4000000 in
set_option maxRecDepth 100000 in
theorem K487_X11_takes (l : Launch) (G : va_G) (cy : Nat → ClassId) (sz : Nat) (a_0 : Nat) (i_0 : Int32) (i_1 : Int32) (a_1 : Nat) (a_2 : Nat) (a_3 : Nat) (a_4 : Nat) (a_5 : Nat) (a_6 : Nat) (a_7 : Nat) (a_8 : Nat) (a_9 : Nat) (a_10 : Nat) (a_11 : Nat) (a_12 : Nat) (a_13 : Nat) (i_2 : Int32) (i_3 : Int32) (i_4 : Int32) (i_5 : Int32) (i_6 : Int32) (i_7 : Int32) (i_8 : Int32) (i_9 : Int32) (a_14 : Nat) (a_15 : Nat) (a_16 : Nat) (a_17 : Nat) (a_18 : Nat) (a_19 : Nat) (a_20 : Nat) (a_21 : Nat) (a_22 : Nat) (a_23 : Nat) (f_0 : Nat → Int32) (f_1 : Nat → Int32) (f_2 : Nat → Int32) (f_3 : Nat → Int32) (f_4 : Nat → Int32) (a_24 : Nat) (a_25 : Nat) (a_26 : Nat) (a_27 : Nat) (a_28 : Nat) (i_10 : Int32) (i_11 : Int32) (i_12 : Int32) (f_5 : Nat → Int32) (a_29 : Nat) (a_30 : Nat) (i_13 : Int32) (i_14 : Int32) (i_15 : Int32) (f_6 : Nat → Int32) (a_31 : Nat) (a_32 : Nat) (i_16 : Int32) (i_17 : Int32) (i_18 : Int32) (f_7 : Nat → Int32) (a_33 : Nat) (a_34 : Nat) (f_8 : Nat → Int32) (f_9 : Nat → Int32) (h0 : mm_rg i_5 0 99) (h1 : mm_rg i_6 0 9) (h2 : mm_rg i_7 0 3) (h3 : mm_rg i_8 0 6) (h4 : mm_ar f_0 (-1) 4) (h5 : mm_ar f_1 0 99) (h6 : mm_ar f_2 0 8) (h7 : mm_ar f_3 0 9) (h8 : mm_ar f_4 0 9) (h9 : mm_rg i_12 (-2147483648) 210) (h10 : mm_ar f_5 0 9) (h11 : mm_rg i_15 (-2147483648) 210) (h12 : mm_ar f_6 0 9) (h13 : mm_rg i_18 (-2147483648) 210) (h14 : mm_ar f_7 0 9)  : mm_CI l yX11_takes (mm_ws yX11_takes cX11_takes 3 (some .int)) ({ frames := 5, cells := 0, slots := 0, locals := 136 } : Room) G cy sz [(a_0, .inr (11, [.ref a_1, .ref a_2, .ref a_3, .ref a_4, .ref a_5, .ref a_6, .ref a_7, .ref a_8, .ref a_9, .ref a_10, .ref a_11])), (a_3, .inr (10, [.ref a_12, .ref a_13])), (a_12, .inr (0, [.int i_2, .int i_3, .int i_4, .int i_5, .int i_6, .int i_7, .int i_8, .int i_9, .ref a_14, .ref a_15, .ref a_16, .ref a_17, .ref a_18, .ref a_19, .ref a_20, .ref a_21, .ref a_22, .ref a_23])), (a_14, .inl (cy 1, 9, .inl f_0)), (a_15, .inl (cy 1, 9, .inl f_1)), (a_18, .inl (cy 1, 6, .inl f_2)), (a_19, .inl (cy 1, 48, .inl f_3)), (a_20, .inl (cy 1, 30, .inl f_4)), (a_13, .inl (cy 5, 3, .inr (.inr (.inr (.inr (va_up (va_up (va_up (fun _ => none) 0 (some a_24)) 1 (some a_25)) 2 (some a_26))))))), (a_24, .inr (1, [.ref a_27, .ref a_28, .int i_10, .int i_11, .int i_12])), (a_27, .inl (cy 1, 2100, .inl f_5)), (a_25, .inr (1, [.ref a_29, .ref a_30, .int i_13, .int i_14, .int i_15])), (a_29, .inl (cy 1, 2100, .inl f_6)), (a_26, .inr (1, [.ref a_31, .ref a_32, .int i_16, .int i_17, .int i_18])), (a_31, .inl (cy 1, 2100, .inl f_7)), (a_10, .inr (2, [.ref a_3, .ref a_33, .ref a_34])), (a_33, .inl (cy 1, 36, .inl f_8)), (a_34, .inl (cy 1, 64, .inl f_9))] [.ref a_0, .int i_0, .int i_1] (fun u : (Nat → Int32) × (Nat → Int32) => [(a_0, .inr (11, [.ref a_1, .ref a_2, .ref a_3, .ref a_4, .ref a_5, .ref a_6, .ref a_7, .ref a_8, .ref a_9, .ref a_10, .ref a_11])), (a_3, .inr (10, [.ref a_12, .ref a_13])), (a_12, .inr (0, [.int i_2, .int i_3, .int i_4, .int i_5, .int i_6, .int i_7, .int i_8, .int i_9, .ref a_14, .ref a_15, .ref a_16, .ref a_17, .ref a_18, .ref a_19, .ref a_20, .ref a_21, .ref a_22, .ref a_23])), (a_14, .inl (cy 1, 9, .inl f_0)), (a_15, .inl (cy 1, 9, .inl f_1)), (a_18, .inl (cy 1, 6, .inl f_2)), (a_19, .inl (cy 1, 48, .inl f_3)), (a_20, .inl (cy 1, 30, .inl f_4)), (a_13, .inl (cy 5, 3, .inr (.inr (.inr (.inr (va_up (va_up (va_up (fun _ => none) 0 (some a_24)) 1 (some a_25)) 2 (some a_26))))))), (a_24, .inr (1, [.ref a_27, .ref a_28, .int i_10, .int i_11, .int i_12])), (a_27, .inl (cy 1, 2100, .inl f_5)), (a_25, .inr (1, [.ref a_29, .ref a_30, .int i_13, .int i_14, .int i_15])), (a_29, .inl (cy 1, 2100, .inl f_6)), (a_26, .inr (1, [.ref a_31, .ref a_32, .int i_16, .int i_17, .int i_18])), (a_31, .inl (cy 1, 2100, .inl f_7)), (a_10, .inr (2, [.ref a_3, .ref a_33, .ref a_34])), (a_33, .inl (cy 1, 36, .inl u.1)), (a_34, .inl (cy 1, 64, .inl u.2))]) (fun (r : Int32) (u : (Nat → Int32) × (Nat → Int32)) => mm_rg r (-2) 5) 0 0 := by
  refine mm_begin (lv := [(0, .ref a_0), (1, .int i_0), (2, .int i_1)]) (by decide) (Nat.le_of_ble_eq_true rfl) rfl ?_
  intro p e s m below meth c A ls R args Q H locs hRe hQ hAe hx hb hr hlocks hml hown hnm hts hsz hA hS hP hK hD hZ hl
  have hRf : R.frames = 5 := by rw [hRe]
  have hRl : R.locals = 136 := by rw [hRe]
  have hRc : R.cells = 0 := by rw [hRe]
  have hRs : R.slots = 0 := by rw [hRe]
  refine lv_aload_n hx hb dX11_takes_0 rfl (lv_at hl 0 rfl) ?_
  refine lv_iload_n hx hb dX11_takes_1 rfl (lv_at hl 1 rfl) ?_
  refine mm_finir (va_runV (As := [.int i_0]) (rest := []) ⟨hx, hb, hml, hown, hts⟩ (K350_X11_isLand l G cy H.size a_0 i_0 a_1 a_2 a_3 a_4 a_5 a_6 a_7 a_8 a_9 a_10 a_11 a_12 a_13 i_2 i_3 i_4 i_5 i_6 i_7 i_8 i_9 a_14 a_15 a_16 a_17 a_18 a_19 a_20 a_21 a_22 a_23 h2) (cwV 1 hts (mm_gV mm_w626 mm_w627 mm_w628 mm_w2 mm_w629) rfl rfl rfl hd_X11_isLand ⟨by rw [hRf]; exact Nat.le_of_ble_eq_true rfl, by rw [hRl]; exact Nat.le_of_ble_eq_true rfl⟩) (mm_preV hK hZ hS hA hP hD [0, 1, 2] rfl rfl 0 rfl rfl rfl) rfl rfl hl.1 rfl (lv_room (Nat.le_of_ble_eq_true rfl)) dX11_takes_2 ⟨by rw [hRc]; exact Nat.le_of_ble_eq_true rfl, by rw [hRs]; exact Nat.le_of_ble_eq_true rfl⟩) hP hD hS hA [0, 1, 2] rfl (fun _ => rfl) ?_
  clear hP hD hS
  clear H locs
  intro v1 _u H locs hw hP hD hS
  rcases hw with ⟨rfl, w2⟩ | ⟨rfl, w3⟩
  · refine lv_if_eq (tgt := 15) hx hb dX11_takes_5 (by decide) (fun c4 => ?_) (fun c4 => ?_)
    · refine lv_bipush (v := (-2)) hx hb dX11_takes_15 (by decide) ?_
      subst hAe
      rw [hQ]
      exact W.iret (v := (-2)) hx hb hr (fun t ht hW => ⟨⟨(-2), (f_8, f_9), rfl, (mm_wk mm_km2 (by decide)), by rw [ht]; exact hP, hK.warm hW, hD⟩, hS.F ht⟩) hS.2.2 dX11_takes_17
    · have q5 := mm_neL (lo := 1) (mm_ne c4) mm_k0 mm_k0 (by decide) (by decide)
      exact mm_no q5 (by decide)
  · refine lv_if_eq (tgt := 15) hx hb dX11_takes_5 (by decide) (fun c6 => ?_) (fun c6 => ?_)
    · exact mm_eqN c6.symm mm_k0 mm_k1 (by decide)
    · refine lv_iload_n hx hb dX11_takes_8 rfl (lv_at hl 2 rfl) ?_
      refine mm_finir (va_runS (As := [.int i_1]) (rest := []) ⟨hx, hb, hml, hown, hts⟩ (K353_X11_isDay l G cy H.size i_1 ) (va_cwS 1 hts (mm_gS mm_w661 mm_w662 mm_w2 mm_w663) rfl rfl rfl hs_X11_isDay ⟨by rw [hRf]; exact Nat.le_of_ble_eq_true rfl, by rw [hRl]; exact Nat.le_of_ble_eq_true rfl⟩) (mm_preS hK hZ hS hA hP hD [] rfl rfl) rfl rfl hl.1 rfl (lv_room (Nat.le_of_ble_eq_true rfl)) dX11_takes_9 ⟨by rw [hRc]; exact Nat.le_of_ble_eq_true rfl, by rw [hRs]; exact Nat.le_of_ble_eq_true rfl⟩) hP hD hS hA [] rfl (fun _ => rfl) ?_
      clear hP hD hS
      clear H locs
      intro v7 _u H locs hw hP hD hS
      rcases hw with ⟨rfl, w8⟩ | ⟨rfl, w9⟩
      · refine lv_if_ne (tgt := 18) hx hb dX11_takes_12 (by decide) (fun c10 => ?_) (fun c10 => ?_)
        · have q11 := mm_neL (lo := 1) (mm_ne c10) mm_k0 mm_k0 (by decide) (by decide)
          exact mm_no q11 (by decide)
        · refine lv_bipush (v := (-2)) hx hb dX11_takes_15 (by decide) ?_
          subst hAe
          rw [hQ]
          exact W.iret (v := (-2)) hx hb hr (fun t ht hW => ⟨⟨(-2), (f_8, f_9), rfl, (mm_wk mm_km2 (by decide)), by rw [ht]; exact hP, hK.warm hW, hD⟩, hS.F ht⟩) hS.2.2 dX11_takes_17
      · refine lv_if_ne (tgt := 18) hx hb dX11_takes_12 (by decide) (fun c12 => ?_) (fun c12 => ?_)
        · refine lv_aload_n hx hb dX11_takes_18 rfl (lv_at hl 0 rfl) ?_
          refine va_get (D := G) (ci := 11) (v := .ref a_10) (C := RX11) (T := TX11) (N := 11) hx hb hts (mm_i inlX11) hown hK.1 hP 0 rfl rfl 9 (by decide) (mm_h hts mm_w50) (fun _ h9 => h9) rfl dX11_takes_19 ?_
          refine lv_iload_n hx hb dX11_takes_22 rfl (lv_at hl 1 rfl) ?_
          refine lv_iload_n hx hb dX11_takes_23 rfl (lv_at hl 2 rfl) ?_
          refine mm_fini (va_runV (As := [.int i_0, .int i_1]) (rest := []) ⟨hx, hb, hml, hown, hts⟩ (K484_X2_play l G cy H.size a_10 i_0 i_1 a_3 a_12 a_13 i_2 i_3 i_4 i_5 i_6 i_7 i_8 i_9 a_14 a_15 a_16 a_17 a_18 a_19 a_20 a_21 a_22 a_23 f_0 f_1 f_2 f_3 f_4 a_24 a_25 a_26 a_27 a_28 i_10 i_11 i_12 f_5 a_29 a_30 i_13 i_14 i_15 f_6 a_31 a_32 i_16 i_17 i_18 f_7 a_33 a_34 f_8 f_9 w3 (mm_wk w9 (by decide)) h0 h1 h3 h4 h5 h6 h7 h8 h9 h10 h11 h12 h13 h14) (cwV 2 hts (mm_gV mm_w1435 mm_w1436 mm_w1437 mm_w49 mm_w1438) rfl rfl rfl hd_X2_play ⟨by rw [hRf]; exact Nat.le_of_ble_eq_true rfl, by rw [hRl]; exact Nat.le_of_ble_eq_true rfl⟩) (mm_preV hK hZ hS hA hP hD [1, 2, 3, 4, 5, 6, 7, 8, 9, 10, 11, 12, 13, 14, 15, 16, 17] rfl rfl 15 rfl rfl rfl) rfl rfl hl.1 rfl (lv_room (Nat.le_of_ble_eq_true rfl)) dX11_takes_24 ⟨by rw [hRc]; exact Nat.le_of_ble_eq_true rfl, by rw [hRs]; exact Nat.le_of_ble_eq_true rfl⟩) hP hD hS hA (fun u : (Nat → Int32) × (Nat → Int32) => [(a_0, .inr (11, [.ref a_1, .ref a_2, .ref a_3, .ref a_4, .ref a_5, .ref a_6, .ref a_7, .ref a_8, .ref a_9, .ref a_10, .ref a_11])), (a_3, .inr (10, [.ref a_12, .ref a_13])), (a_12, .inr (0, [.int i_2, .int i_3, .int i_4, .int i_5, .int i_6, .int i_7, .int i_8, .int i_9, .ref a_14, .ref a_15, .ref a_16, .ref a_17, .ref a_18, .ref a_19, .ref a_20, .ref a_21, .ref a_22, .ref a_23])), (a_14, .inl (cy 1, 9, .inl f_0)), (a_15, .inl (cy 1, 9, .inl f_1)), (a_18, .inl (cy 1, 6, .inl f_2)), (a_19, .inl (cy 1, 48, .inl f_3)), (a_20, .inl (cy 1, 30, .inl f_4)), (a_13, .inl (cy 5, 3, .inr (.inr (.inr (.inr (va_up (va_up (va_up (fun _ => none) 0 (some a_24)) 1 (some a_25)) 2 (some a_26))))))), (a_24, .inr (1, [.ref a_27, .ref a_28, .int i_10, .int i_11, .int i_12])), (a_27, .inl (cy 1, 2100, .inl f_5)), (a_25, .inr (1, [.ref a_29, .ref a_30, .int i_13, .int i_14, .int i_15])), (a_29, .inl (cy 1, 2100, .inl f_6)), (a_26, .inr (1, [.ref a_31, .ref a_32, .int i_16, .int i_17, .int i_18])), (a_31, .inl (cy 1, 2100, .inl f_7)), (a_10, .inr (2, [.ref a_3, .ref a_33, .ref a_34])), (a_33, .inl (cy 1, 36, .inl u.1)), (a_34, .inl (cy 1, 64, .inl u.2))]) [1, 2, 3, 4, 5, 6, 7, 8, 9, 10, 11, 12, 13, 14, 15, 16, 17] [0] (n := 18) (fun _ => rfl) (by decide +kernel) (by decide +kernel) rfl (fun _ => rfl) (wr := [(a_0, .inr (11, [.ref a_1, .ref a_2, .ref a_3, .ref a_4, .ref a_5, .ref a_6, .ref a_7, .ref a_8, .ref a_9, .ref a_10, .ref a_11]))]) rfl (fun _ => rfl) (fun _ => rfl) ?_
          clear hP hD hS
          clear H locs
          intro v15 u
          obtain ⟨n13, n14⟩ := u
          intro H locs hw (hP : va_P G vwCl [(a_0, .inr (11, [.ref a_1, .ref a_2, .ref a_3, .ref a_4, .ref a_5, .ref a_6, .ref a_7, .ref a_8, .ref a_9, .ref a_10, .ref a_11])), (a_3, .inr (10, [.ref a_12, .ref a_13])), (a_12, .inr (0, [.int i_2, .int i_3, .int i_4, .int i_5, .int i_6, .int i_7, .int i_8, .int i_9, .ref a_14, .ref a_15, .ref a_16, .ref a_17, .ref a_18, .ref a_19, .ref a_20, .ref a_21, .ref a_22, .ref a_23])), (a_14, .inl (cy 1, 9, .inl f_0)), (a_15, .inl (cy 1, 9, .inl f_1)), (a_18, .inl (cy 1, 6, .inl f_2)), (a_19, .inl (cy 1, 48, .inl f_3)), (a_20, .inl (cy 1, 30, .inl f_4)), (a_13, .inl (cy 5, 3, .inr (.inr (.inr (.inr (va_up (va_up (va_up (fun _ => none) 0 (some a_24)) 1 (some a_25)) 2 (some a_26))))))), (a_24, .inr (1, [.ref a_27, .ref a_28, .int i_10, .int i_11, .int i_12])), (a_27, .inl (cy 1, 2100, .inl f_5)), (a_25, .inr (1, [.ref a_29, .ref a_30, .int i_13, .int i_14, .int i_15])), (a_29, .inl (cy 1, 2100, .inl f_6)), (a_26, .inr (1, [.ref a_31, .ref a_32, .int i_16, .int i_17, .int i_18])), (a_31, .inl (cy 1, 2100, .inl f_7)), (a_10, .inr (2, [.ref a_3, .ref a_33, .ref a_34])), (a_33, .inl (cy 1, 36, .inl n13)), (a_34, .inl (cy 1, 64, .inl n14))] H) (hD : va_D A [(a_0, .inr (11, [.ref a_1, .ref a_2, .ref a_3, .ref a_4, .ref a_5, .ref a_6, .ref a_7, .ref a_8, .ref a_9, .ref a_10, .ref a_11])), (a_3, .inr (10, [.ref a_12, .ref a_13])), (a_12, .inr (0, [.int i_2, .int i_3, .int i_4, .int i_5, .int i_6, .int i_7, .int i_8, .int i_9, .ref a_14, .ref a_15, .ref a_16, .ref a_17, .ref a_18, .ref a_19, .ref a_20, .ref a_21, .ref a_22, .ref a_23])), (a_14, .inl (cy 1, 9, .inl f_0)), (a_15, .inl (cy 1, 9, .inl f_1)), (a_18, .inl (cy 1, 6, .inl f_2)), (a_19, .inl (cy 1, 48, .inl f_3)), (a_20, .inl (cy 1, 30, .inl f_4)), (a_13, .inl (cy 5, 3, .inr (.inr (.inr (.inr (va_up (va_up (va_up (fun _ => none) 0 (some a_24)) 1 (some a_25)) 2 (some a_26))))))), (a_24, .inr (1, [.ref a_27, .ref a_28, .int i_10, .int i_11, .int i_12])), (a_27, .inl (cy 1, 2100, .inl f_5)), (a_25, .inr (1, [.ref a_29, .ref a_30, .int i_13, .int i_14, .int i_15])), (a_29, .inl (cy 1, 2100, .inl f_6)), (a_26, .inr (1, [.ref a_31, .ref a_32, .int i_16, .int i_17, .int i_18])), (a_31, .inl (cy 1, 2100, .inl f_7)), (a_10, .inr (2, [.ref a_3, .ref a_33, .ref a_34])), (a_33, .inl (cy 1, 36, .inl n13)), (a_34, .inl (cy 1, 64, .inl n14))]) hS
          refine lv_pop hx hb dX11_takes_27 rfl ?_
          refine lv_aload_n hx hb dX11_takes_28 rfl (lv_at hl 0 rfl) ?_
          refine va_get (D := G) (ci := 11) (v := .ref a_10) (C := RX11) (T := TX11) (N := 11) hx hb hts (mm_i inlX11) hown hK.1 hP 0 rfl rfl 9 (by decide) (mm_h hts mm_w50) (fun _ h9 => h9) rfl dX11_takes_29 ?_
          refine mm_finir (va_runV (As := []) (rest := []) ⟨hx, hb, hml, hown, hts⟩ (K486_X2_opening l G cy H.size a_10 a_3 a_12 a_13 i_2 i_3 i_4 i_5 i_6 i_7 i_8 i_9 a_14 a_15 a_16 a_17 a_18 a_19 a_20 a_21 a_22 a_23 a_33 a_34 n13 n14 h3) (cwV 0 hts (mm_gV mm_w1468 mm_w1469 mm_w1470 mm_w49 mm_w1471) rfl rfl rfl hd_X2_opening ⟨by rw [hRf]; exact Nat.le_of_ble_eq_true rfl, by rw [hRl]; exact Nat.le_of_ble_eq_true rfl⟩) (mm_preV hK hZ hS hA hP hD [1, 2, 15, 16, 17] rfl rfl 15 rfl rfl rfl) rfl rfl hl.1 rfl (lv_room (Nat.le_of_ble_eq_true rfl)) dX11_takes_32 ⟨by rw [hRc]; exact Nat.le_of_ble_eq_true rfl, by rw [hRs]; exact Nat.le_of_ble_eq_true rfl⟩) hP hD hS hA [1, 2, 15, 16, 17] rfl (fun _ => rfl) ?_
          clear hP hD hS
          clear H locs
          intro v16 _u H locs hw hP hD hS
          have w17 := hw
          subst hAe
          rw [hQ]
          exact W.iret (v := v16) hx hb hr (fun t ht hW => ⟨⟨v16, (n13, n14), rfl, (mm_wk w17 (by decide)), by rw [ht]; exact hP, hK.warm hW, hD⟩, hS.F ht⟩) hS.2.2 dX11_takes_35
        · exact mm_eqN c12.symm mm_k0 mm_k1 (by decide)

set_option maxHeartbeats 4000000 in
set_option maxRecDepth 100000 in
theorem K488_X2_playGreedily (l : Launch) (G : va_G) (cy : Nat → ClassId) (sz : Nat) (a_0 : Nat) (i_0 : Int32) (i_1 : Int32) (a_1 : Nat) (a_2 : Nat) (a_3 : Nat) (i_2 : Int32) (i_3 : Int32) (i_4 : Int32) (i_5 : Int32) (i_6 : Int32) (i_7 : Int32) (i_8 : Int32) (i_9 : Int32) (a_4 : Nat) (a_5 : Nat) (a_6 : Nat) (a_7 : Nat) (a_8 : Nat) (a_9 : Nat) (a_10 : Nat) (a_11 : Nat) (a_12 : Nat) (a_13 : Nat) (f_0 : Nat → Int32) (f_1 : Nat → Int32) (f_2 : Nat → Int32) (f_3 : Nat → Int32) (f_4 : Nat → Int32) (a_14 : Nat) (a_15 : Nat) (a_16 : Nat) (a_17 : Nat) (a_18 : Nat) (i_10 : Int32) (i_11 : Int32) (i_12 : Int32) (f_5 : Nat → Int32) (a_19 : Nat) (a_20 : Nat) (i_13 : Int32) (i_14 : Int32) (i_15 : Int32) (f_6 : Nat → Int32) (a_21 : Nat) (a_22 : Nat) (i_16 : Int32) (i_17 : Int32) (i_18 : Int32) (f_7 : Nat → Int32) (a_23 : Nat) (a_24 : Nat) (h0 : mm_rg i_0 0 2) (h1 : mm_rg i_1 0 1000000001) (h2 : mm_rg i_5 0 99) (h3 : mm_rg i_6 0 9) (h4 : mm_rg i_8 0 6) (h5 : mm_ar f_0 (-1) 4) (h6 : mm_ar f_1 0 99) (h7 : mm_ar f_2 0 8) (h8 : mm_ar f_3 0 9) (h9 : mm_ar f_4 0 9) (h10 : mm_rg i_12 (-2147483648) 210) (h11 : mm_ar f_5 0 9) (h12 : mm_rg i_15 (-2147483648) 210) (h13 : mm_ar f_6 0 9) (h14 : mm_rg i_18 (-2147483648) 210) (h15 : mm_ar f_7 0 9)  : mm_CI l yX2_playGreedily (mm_ws yX2_playGreedily cX2_playGreedily 8 (some .int)) ({ frames := 5, cells := 0, slots := 0, locals := 138 } : Room) G cy sz [(a_1, .inr (10, [.ref a_2, .ref a_3])), (a_2, .inr (0, [.int i_2, .int i_3, .int i_4, .int i_5, .int i_6, .int i_7, .int i_8, .int i_9, .ref a_4, .ref a_5, .ref a_6, .ref a_7, .ref a_8, .ref a_9, .ref a_10, .ref a_11, .ref a_12, .ref a_13])), (a_4, .inl (cy 1, 9, .inl f_0)), (a_5, .inl (cy 1, 9, .inl f_1)), (a_8, .inl (cy 1, 6, .inl f_2)), (a_9, .inl (cy 1, 48, .inl f_3)), (a_10, .inl (cy 1, 30, .inl f_4)), (a_3, .inl (cy 5, 3, .inr (.inr (.inr (.inr (va_up (va_up (va_up (fun _ => none) 0 (some a_14)) 1 (some a_15)) 2 (some a_16))))))), (a_14, .inr (1, [.ref a_17, .ref a_18, .int i_10, .int i_11, .int i_12])), (a_17, .inl (cy 1, 2100, .inl f_5)), (a_15, .inr (1, [.ref a_19, .ref a_20, .int i_13, .int i_14, .int i_15])), (a_19, .inl (cy 1, 2100, .inl f_6)), (a_16, .inr (1, [.ref a_21, .ref a_22, .int i_16, .int i_17, .int i_18])), (a_21, .inl (cy 1, 2100, .inl f_7)), (a_0, .inr (2, [.ref a_1, .ref a_23, .ref a_24]))] [.ref a_0, .int i_0, .int i_1] (fun u : Unit => [(a_1, .inr (10, [.ref a_2, .ref a_3])), (a_2, .inr (0, [.int i_2, .int i_3, .int i_4, .int i_5, .int i_6, .int i_7, .int i_8, .int i_9, .ref a_4, .ref a_5, .ref a_6, .ref a_7, .ref a_8, .ref a_9, .ref a_10, .ref a_11, .ref a_12, .ref a_13])), (a_4, .inl (cy 1, 9, .inl f_0)), (a_5, .inl (cy 1, 9, .inl f_1)), (a_8, .inl (cy 1, 6, .inl f_2)), (a_9, .inl (cy 1, 48, .inl f_3)), (a_10, .inl (cy 1, 30, .inl f_4)), (a_3, .inl (cy 5, 3, .inr (.inr (.inr (.inr (va_up (va_up (va_up (fun _ => none) 0 (some a_14)) 1 (some a_15)) 2 (some a_16))))))), (a_14, .inr (1, [.ref a_17, .ref a_18, .int i_10, .int i_11, .int i_12])), (a_17, .inl (cy 1, 2100, .inl f_5)), (a_15, .inr (1, [.ref a_19, .ref a_20, .int i_13, .int i_14, .int i_15])), (a_19, .inl (cy 1, 2100, .inl f_6)), (a_16, .inr (1, [.ref a_21, .ref a_22, .int i_16, .int i_17, .int i_18])), (a_21, .inl (cy 1, 2100, .inl f_7)), (a_0, .inr (2, [.ref a_1, .ref a_23, .ref a_24]))]) (fun (r : Int32) (u : Unit) => True) 0 0 := by
  refine mm_begin (lv := [(0, .ref a_0), (1, .int i_0), (2, .int i_1)]) (by decide) (Nat.le_of_ble_eq_true rfl) rfl ?_
  intro p e s m below meth c A ls R args Q H locs hRe hQ hAe hx hb hr hlocks hml hown hnm hts hsz hA hS hP hK hD hZ hl
  have hRf : R.frames = 5 := by rw [hRe]
  have hRl : R.locals = 138 := by rw [hRe]
  have hRc : R.cells = 0 := by rw [hRe]
  have hRs : R.slots = 0 := by rw [hRe]
  refine lv_iconst (v := 0) hx hb dX2_playGreedily_0 (by decide) ?_
  refine lv_istore_n (lv' := [(3, .int 0), (0, .ref a_0), (1, .int i_0), (2, .int i_1)]) hx hb dX2_playGreedily_1 rfl hl (by decide) rfl ?_
  clear hl
  clear ls
  intro ls hl
  refine lv_iconst (v := 1) hx hb dX2_playGreedily_2 (by decide) ?_
  refine lv_istore (lv' := [(4, .int 1), (3, .int 0), (0, .ref a_0), (1, .int i_0), (2, .int i_1)]) hx hb dX2_playGreedily_3 hl (by decide) rfl ?_
  clear hl
  clear ls
  intro ls hl
  refine lv_iconst (v := 0) hx hb dX2_playGreedily_5 (by decide) ?_
  refine lv_istore (lv' := [(5, .int 0), (4, .int 1), (3, .int 0), (0, .ref a_0), (1, .int i_0), (2, .int i_1)]) hx hb dX2_playGreedily_6 hl (by decide) rfl ?_
  clear hl
  clear ls
  intro ls hl
  refine lv_iconst (v := 0) hx hb dX2_playGreedily_8 (by decide) ?_
  refine lv_istore (lv' := [(6, .int 0), (5, .int 0), (4, .int 1), (3, .int 0), (0, .ref a_0), (1, .int i_0), (2, .int i_1)]) hx hb dX2_playGreedily_9 hl (by decide) rfl ?_
  clear hl
  clear ls
  intro ls hl
  have L11_154 : ∀ (n : Nat) (x11_6_151 : Int32) (x11_5_152 : Int32) (x11_4_153 : Int32) (x11_3_154 : Int32), mm_rg x11_6_151 0 6 → mm_rg x11_5_152 0 63 → (6 - x11_6_151.toInt).toNat < n → ∀ (H : Heap) (locs : List Loc), va_P G vwCl [(a_1, .inr (10, [.ref a_2, .ref a_3])), (a_2, .inr (0, [.int i_2, .int i_3, .int i_4, .int i_5, .int i_6, .int i_7, .int i_8, .int i_9, .ref a_4, .ref a_5, .ref a_6, .ref a_7, .ref a_8, .ref a_9, .ref a_10, .ref a_11, .ref a_12, .ref a_13])), (a_4, .inl (cy 1, 9, .inl f_0)), (a_5, .inl (cy 1, 9, .inl f_1)), (a_8, .inl (cy 1, 6, .inl f_2)), (a_9, .inl (cy 1, 48, .inl f_3)), (a_10, .inl (cy 1, 30, .inl f_4)), (a_3, .inl (cy 5, 3, .inr (.inr (.inr (.inr (va_up (va_up (va_up (fun _ => none) 0 (some a_14)) 1 (some a_15)) 2 (some a_16))))))), (a_14, .inr (1, [.ref a_17, .ref a_18, .int i_10, .int i_11, .int i_12])), (a_17, .inl (cy 1, 2100, .inl f_5)), (a_15, .inr (1, [.ref a_19, .ref a_20, .int i_13, .int i_14, .int i_15])), (a_19, .inl (cy 1, 2100, .inl f_6)), (a_16, .inr (1, [.ref a_21, .ref a_22, .int i_16, .int i_17, .int i_18])), (a_21, .inl (cy 1, 2100, .inl f_7)), (a_0, .inr (2, [.ref a_1, .ref a_23, .ref a_24]))] H → va_D A [(a_1, .inr (10, [.ref a_2, .ref a_3])), (a_2, .inr (0, [.int i_2, .int i_3, .int i_4, .int i_5, .int i_6, .int i_7, .int i_8, .int i_9, .ref a_4, .ref a_5, .ref a_6, .ref a_7, .ref a_8, .ref a_9, .ref a_10, .ref a_11, .ref a_12, .ref a_13])), (a_4, .inl (cy 1, 9, .inl f_0)), (a_5, .inl (cy 1, 9, .inl f_1)), (a_8, .inl (cy 1, 6, .inl f_2)), (a_9, .inl (cy 1, 48, .inl f_3)), (a_10, .inl (cy 1, 30, .inl f_4)), (a_3, .inl (cy 5, 3, .inr (.inr (.inr (.inr (va_up (va_up (va_up (fun _ => none) 0 (some a_14)) 1 (some a_15)) 2 (some a_16))))))), (a_14, .inr (1, [.ref a_17, .ref a_18, .int i_10, .int i_11, .int i_12])), (a_17, .inl (cy 1, 2100, .inl f_5)), (a_15, .inr (1, [.ref a_19, .ref a_20, .int i_13, .int i_14, .int i_15])), (a_19, .inl (cy 1, 2100, .inl f_6)), (a_16, .inr (1, [.ref a_21, .ref a_22, .int i_16, .int i_17, .int i_18])), (a_21, .inl (cy 1, 2100, .inl f_7)), (a_0, .inr (2, [.ref a_1, .ref a_23, .ref a_24]))] → va_S A s.heap H locs → ∀ (ls : Array Slot), lv_has ls 8 [(6, .int x11_6_151), (5, .int x11_5_152), (4, .int x11_4_153), (3, .int x11_3_154), (0, .ref a_0), (1, .int i_0), (2, .int i_1)] → W p l e R s m args below meth c H locs 0 0 Q (F0 m 11 ls []) := by
    intro n
    induction n with
    | zero => intro x11_6_151 x11_5_152 x11_4_153 x11_3_154 rx11_6_151 rx11_5_152 hm; exact absurd hm (Nat.not_lt_zero _)
    | succ n ih11 =>
      intro x11_6_151 x11_5_152 x11_4_153 x11_3_154 rx11_6_151 rx11_5_152 hm11 H locs hP hD hS ls hl
      refine lv_iload hx hb dX2_playGreedily_11 (lv_at hl 0 rfl) ?_
      refine lv_aload_n hx hb dX2_playGreedily_13 rfl (lv_at hl 4 rfl) ?_
      refine va_get (D := G) (ci := 2) (v := .ref a_1) (C := RX2) (T := TX2) (N := 3) hx hb hts (mm_i inlX2) hown hK.1 hP 14 rfl rfl 0 (by decide) (mm_h hts mm_w131) (fun _ h9 => h9) rfl dX2_playGreedily_14 ?_
      refine va_get (D := G) (ci := 10) (v := .ref a_2) (C := RX10) (T := TX10) (N := 2) hx hb hts (mm_i inlX10) hown hK.1 hP 0 rfl rfl 0 (by decide) (mm_h hts mm_w1439) (fun _ h9 => h9) rfl dX2_playGreedily_17 ?_
      refine va_get (D := G) (ci := 0) (v := .int i_8) (C := RX0) (T := TX0) (N := 18) hx hb hts (mm_i inlX0) hown hK.1 hP 1 rfl rfl 6 (by decide) (mm_h hts mm_w1440) (fun _ h9 => h9) rfl dX2_playGreedily_20 ?_
      refine lv_icmp_ge (tgt := 88) hx hb dX2_playGreedily_23 (by decide) (fun c156 => ?_) (fun c156 => ?_)
      · refine lv_iload_n hx hb dX2_playGreedily_88 rfl (lv_at hl 3 rfl) ?_
        subst hAe
        rw [hQ]
        exact W.iret (v := x11_3_154) hx hb hr (fun t ht hW => ⟨⟨x11_3_154, (), rfl, trivial, by rw [ht]; exact hP, hK.warm hW, hD⟩, hS.F ht⟩) hS.2.2 dX2_playGreedily_89
      · have q157 := mm_ltL (h := 5) (mm_nle c156) rx11_6_151 h4 (by decide)
        have q158 := mm_ltR (lo := 1) (mm_nle c156) rx11_6_151 h4 (by decide)
        refine lv_aload_n hx hb dX2_playGreedily_26 rfl (lv_at hl 4 rfl) ?_
        refine va_get (D := G) (ci := 2) (v := .ref a_1) (C := RX2) (T := TX2) (N := 3) hx hb hts (mm_i inlX2) hown hK.1 hP 14 rfl rfl 0 (by decide) (mm_h hts mm_w131) (fun _ h9 => h9) rfl dX2_playGreedily_27 ?_
        refine lv_iload_n hx hb dX2_playGreedily_30 rfl (lv_at hl 5 rfl) ?_
        refine lv_iload_n hx hb dX2_playGreedily_31 rfl (lv_at hl 6 rfl) ?_
        refine lv_iload hx hb dX2_playGreedily_32 (lv_at hl 0 rfl) ?_
        refine lv_iadd hx hb dX2_playGreedily_34 ?_
        refine lv_topi (fun v159 ev159 => ?_)
        have rv159 : mm_rg v159 0 1000000006 := mm_add ev159 h1 q157 (by decide) (by decide)
        have tv159 := mm_addE ev159 h1 q157 (by decide)
        refine lv_iload hx hb dX2_playGreedily_35 (lv_at hl 1 rfl) ?_
        refine mm_finir (va_runV (As := [.int i_0, .int v159, .int x11_5_152]) (rest := []) ⟨hx, hb, hml, hown, hts⟩ (K419_X10_richestOf l G cy H.size a_1 i_0 v159 x11_5_152 a_2 a_3 i_2 i_3 i_4 i_5 i_6 i_7 i_8 i_9 a_4 a_5 a_6 a_7 a_8 a_9 a_10 a_11 a_12 a_13 f_0 f_1 f_2 f_3 f_4 a_14 a_15 a_16 a_17 a_18 i_10 i_11 i_12 f_5 a_19 a_20 i_13 i_14 i_15 f_6 a_21 a_22 i_16 i_17 i_18 f_7 h0 (mm_wk rv159 (by decide)) rx11_5_152 h2 h3 (mm_wk q158 (by decide)) h5 h6 h7 h8 h9 h10 h11 h12 h13 h14 h15) (cwV 3 hts (mm_gV mm_w1484 mm_w1079 mm_w1080 mm_w23 mm_w1081) rfl rfl rfl hd_X10_richestOf ⟨by rw [hRf]; exact Nat.le_of_ble_eq_true rfl, by rw [hRl]; exact Nat.le_of_ble_eq_true rfl⟩) (mm_preV hK hZ hS hA hP hD [0, 1, 2, 3, 4, 5, 6, 7, 8, 9, 10, 11, 12, 13] rfl rfl 0 rfl rfl rfl) rfl rfl hl.1 rfl (lv_room (Nat.le_of_ble_eq_true rfl)) dX2_playGreedily_37 ⟨by rw [hRc]; exact Nat.le_of_ble_eq_true rfl, by rw [hRs]; exact Nat.le_of_ble_eq_true rfl⟩) hP hD hS hA [0, 1, 2, 3, 4, 5, 6, 7, 8, 9, 10, 11, 12, 13] rfl (fun _ => rfl) ?_
        clear hP hD hS
        clear H locs
        intro v160 _u H locs hw hP hD hS
        have w161 := hw
        refine lv_istore (lv' := [(7, .int v160), (6, .int x11_6_151), (5, .int x11_5_152), (4, .int x11_4_153), (3, .int x11_3_154), (0, .ref a_0), (1, .int i_0), (2, .int i_1)]) hx hb dX2_playGreedily_40 hl (by decide) rfl ?_
        clear hl
        clear ls
        intro ls hl
        refine lv_iload hx hb dX2_playGreedily_42 (lv_at hl 0 rfl) ?_
        refine lv_iconst (v := (-1)) hx hb dX2_playGreedily_44 (by decide) ?_
        refine lv_icmp_eq (tgt := 77) hx hb dX2_playGreedily_45 (by decide) (fun c162 => ?_) (fun c162 => ?_)
        · have q163 := mm_eqI (lo := (-1)) (hi := (-1)) c162 w161 mm_km1 (by decide)
          refine lv_iload hx hb dX2_playGreedily_77 (lv_at hl 3 rfl) ?_
          refine lv_ineg hx hb dX2_playGreedily_79 ?_
          refine lv_topi (fun v164 ev164 => ?_)
          refine lv_istore (lv' := [(4, .int v164), (7, .int v160), (6, .int x11_6_151), (5, .int x11_5_152), (3, .int x11_3_154), (0, .ref a_0), (1, .int i_0), (2, .int i_1)]) hx hb dX2_playGreedily_80 hl (by decide) rfl ?_
          clear hl
          clear ls
          intro ls hl
          obtain ⟨v165, ev165⟩ : ∃ y : Int32, y = x11_6_151 + 1 := ⟨_, rfl⟩
          refine lv_iinc (v := v165) (lv' := [(6, .int v165), (4, .int v164), (7, .int v160), (5, .int x11_5_152), (3, .int x11_3_154), (0, .ref a_0), (1, .int i_0), (2, .int i_1)]) hx hb dX2_playGreedily_82 hl (k := 2) rfl (by rw [ev165]; rfl) (by decide) rfl ?_
          clear hl
          clear ls
          intro ls hl
          have rv165 : mm_rg v165 1 6 := mm_add ev165 q157 mm_k1 (by decide) (by decide)
          have tv165 := mm_addEc ev165 q157 mm_k1 (by decide) (k := 1) (by decide)
          refine lv_goto (tgt := 11) hx hb dX2_playGreedily_85 (by decide) ?_
          exact ih11 v165 x11_5_152 v164 x11_3_154 (mm_wk rv165 (by decide)) rx11_5_152 (mm_mu hm11 tv165 (by decide) (rv165).2 (by decide)) H locs hP hD hS ls (lv_sub hl [0, 3, 1, 4, 5, 6, 7] rfl)
        · have q166 := mm_neL (lo := 0) (mm_ne c162) w161 mm_km1 (by decide) (by decide)
          refine lv_iload_n hx hb dX2_playGreedily_48 rfl (lv_at hl 4 rfl) ?_
          refine lv_iload hx hb dX2_playGreedily_49 (lv_at hl 3 rfl) ?_
          refine lv_aload_n hx hb dX2_playGreedily_51 rfl (lv_at hl 5 rfl) ?_
          refine va_get (D := G) (ci := 2) (v := .ref a_1) (C := RX2) (T := TX2) (N := 3) hx hb hts (mm_i inlX2) hown hK.1 hP 14 rfl rfl 0 (by decide) (mm_h hts mm_w131) (fun _ h9 => h9) rfl dX2_playGreedily_52 ?_
          refine lv_iload_n hx hb dX2_playGreedily_55 rfl (lv_at hl 6 rfl) ?_
          refine lv_iload_n hx hb dX2_playGreedily_56 rfl (lv_at hl 7 rfl) ?_
          refine lv_iload hx hb dX2_playGreedily_57 (lv_at hl 1 rfl) ?_
          refine lv_iadd hx hb dX2_playGreedily_59 ?_
          refine lv_topi (fun v167 ev167 => ?_)
          have rv167 : mm_rg v167 0 1000000006 := mm_add ev167 h1 q157 (by decide) (by decide)
          have tv167 := mm_addE ev167 h1 q157 (by decide)
          refine lv_iload hx hb dX2_playGreedily_60 (lv_at hl 0 rfl) ?_
          refine mm_finir (va_runV (As := [.int i_0, .int v167, .int v160]) (rest := [.int x11_4_153, .int x11_3_154]) ⟨hx, hb, hml, hown, hts⟩ (K374_X10_leaving l G cy H.size a_1 i_0 v167 v160 a_2 a_3 i_2 i_3 i_4 i_5 i_6 i_7 i_8 i_9 a_4 a_5 a_6 a_7 a_8 a_9 a_10 a_11 a_12 a_13 f_0 f_1 f_2 f_3 f_4 a_14 a_15 a_16 a_17 a_18 i_10 i_11 i_12 f_5 a_19 a_20 i_13 i_14 i_15 f_6 a_21 a_22 i_16 i_17 i_18 f_7 h0 (mm_wk rv167 (by decide)) q166 h2 h3 h5 h6 h7 h8 h9 h10 h11 h12 h13 h14 h15) (cwV 3 hts (mm_gV mm_w1441 mm_w830 mm_w831 mm_w23 mm_w832) rfl rfl rfl hd_X10_leaving ⟨by rw [hRf]; exact Nat.le_of_ble_eq_true rfl, by rw [hRl]; exact Nat.le_of_ble_eq_true rfl⟩) (mm_preV hK hZ hS hA hP hD [0, 1, 2, 3, 4, 5, 6, 7, 8, 9, 10, 11, 12, 13] rfl rfl 0 rfl rfl rfl) rfl rfl hl.1 rfl (lv_room (Nat.le_of_ble_eq_true rfl)) dX2_playGreedily_62 ⟨by rw [hRc]; exact Nat.le_of_ble_eq_true rfl, by rw [hRs]; exact Nat.le_of_ble_eq_true rfl⟩) hP hD hS hA [0, 1, 2, 3, 4, 5, 6, 7, 8, 9, 10, 11, 12, 13] rfl (fun _ => rfl) ?_
          clear hP hD hS
          clear H locs
          intro v168 _u H locs hw hP hD hS
          refine lv_imul hx hb dX2_playGreedily_65 ?_
          refine lv_topi (fun v169 ev169 => ?_)
          refine lv_iadd hx hb dX2_playGreedily_66 ?_
          refine lv_topi (fun v170 ev170 => ?_)
          refine lv_istore_n (lv' := [(3, .int v170), (7, .int v160), (6, .int x11_6_151), (5, .int x11_5_152), (4, .int x11_4_153), (0, .ref a_0), (1, .int i_0), (2, .int i_1)]) hx hb dX2_playGreedily_67 rfl hl (by decide) rfl ?_
          clear hl
          clear ls
          intro ls hl
          refine lv_iload hx hb dX2_playGreedily_68 (lv_at hl 3 rfl) ?_
          refine lv_iconst (v := 1) hx hb dX2_playGreedily_70 (by decide) ?_
          refine lv_iload hx hb dX2_playGreedily_71 (lv_at hl 1 rfl) ?_
          refine lv_ishl hx hb dX2_playGreedily_73 ?_
          refine lv_topi (fun v171 ev171 => ?_)
          have rv171 : mm_rg v171 1 32 := mm_shl1 ev171 q166 (by decide)
          refine lv_ior hx hb dX2_playGreedily_74 ?_
          refine lv_topi (fun v172 ev172 => ?_)
          have rv172 : mm_rg v172 0 63 := mm_or ev172 6 rx11_5_152 rv171 (by decide)
          refine lv_istore (lv' := [(5, .int v172), (3, .int v170), (7, .int v160), (6, .int x11_6_151), (4, .int x11_4_153), (0, .ref a_0), (1, .int i_0), (2, .int i_1)]) hx hb dX2_playGreedily_75 hl (by decide) rfl ?_
          clear hl
          clear ls
          intro ls hl
          refine lv_iload hx hb dX2_playGreedily_77 (lv_at hl 4 rfl) ?_
          refine lv_ineg hx hb dX2_playGreedily_79 ?_
          refine lv_topi (fun v173 ev173 => ?_)
          refine lv_istore (lv' := [(4, .int v173), (5, .int v172), (3, .int v170), (7, .int v160), (6, .int x11_6_151), (0, .ref a_0), (1, .int i_0), (2, .int i_1)]) hx hb dX2_playGreedily_80 hl (by decide) rfl ?_
          clear hl
          clear ls
          intro ls hl
          obtain ⟨v174, ev174⟩ : ∃ y : Int32, y = x11_6_151 + 1 := ⟨_, rfl⟩
          refine lv_iinc (v := v174) (lv' := [(6, .int v174), (4, .int v173), (5, .int v172), (3, .int v170), (7, .int v160), (0, .ref a_0), (1, .int i_0), (2, .int i_1)]) hx hb dX2_playGreedily_82 hl (k := 4) rfl (by rw [ev174]; rfl) (by decide) rfl ?_
          clear hl
          clear ls
          intro ls hl
          have rv174 : mm_rg v174 1 6 := mm_add ev174 q157 mm_k1 (by decide) (by decide)
          have tv174 := mm_addEc ev174 q157 mm_k1 (by decide) (k := 1) (by decide)
          refine lv_goto (tgt := 11) hx hb dX2_playGreedily_85 (by decide) ?_
          exact ih11 v174 v172 v173 v170 (mm_wk rv174 (by decide)) rv172 (mm_mu hm11 tv174 (by decide) (rv174).2 (by decide)) H locs hP hD hS ls (lv_sub hl [0, 2, 1, 3, 5, 6, 7] rfl)
  exact L11_154 _ 0 0 1 0 (mm_wk mm_k0 (by decide)) (mm_wk mm_k0 (by decide)) (Nat.lt_succ_self _) H locs hP hD hS ls (lv_sub hl [0, 1, 2, 3, 4, 5, 6] rfl)

set_option maxHeartbeats 4000000 in
set_option maxRecDepth 100000 in
theorem K489_X11_greedy (l : Launch) (G : va_G) (cy : Nat → ClassId) (sz : Nat) (a_0 : Nat) (i_0 : Int32) (i_1 : Int32) (a_1 : Nat) (a_2 : Nat) (a_3 : Nat) (a_4 : Nat) (a_5 : Nat) (a_6 : Nat) (a_7 : Nat) (a_8 : Nat) (a_9 : Nat) (a_10 : Nat) (a_11 : Nat) (a_12 : Nat) (a_13 : Nat) (i_2 : Int32) (i_3 : Int32) (i_4 : Int32) (i_5 : Int32) (i_6 : Int32) (i_7 : Int32) (i_8 : Int32) (i_9 : Int32) (a_14 : Nat) (a_15 : Nat) (a_16 : Nat) (a_17 : Nat) (a_18 : Nat) (a_19 : Nat) (a_20 : Nat) (a_21 : Nat) (a_22 : Nat) (a_23 : Nat) (f_0 : Nat → Int32) (f_1 : Nat → Int32) (f_2 : Nat → Int32) (f_3 : Nat → Int32) (f_4 : Nat → Int32) (a_24 : Nat) (a_25 : Nat) (a_26 : Nat) (a_27 : Nat) (a_28 : Nat) (i_10 : Int32) (i_11 : Int32) (i_12 : Int32) (f_5 : Nat → Int32) (a_29 : Nat) (a_30 : Nat) (i_13 : Int32) (i_14 : Int32) (i_15 : Int32) (f_6 : Nat → Int32) (a_31 : Nat) (a_32 : Nat) (i_16 : Int32) (i_17 : Int32) (i_18 : Int32) (f_7 : Nat → Int32) (a_33 : Nat) (a_34 : Nat) (h0 : mm_rg i_5 0 99) (h1 : mm_rg i_6 0 9) (h2 : mm_rg i_7 0 3) (h3 : mm_rg i_8 0 6) (h4 : mm_ar f_0 (-1) 4) (h5 : mm_ar f_1 0 99) (h6 : mm_ar f_2 0 8) (h7 : mm_ar f_3 0 9) (h8 : mm_ar f_4 0 9) (h9 : mm_rg i_12 (-2147483648) 210) (h10 : mm_ar f_5 0 9) (h11 : mm_rg i_15 (-2147483648) 210) (h12 : mm_ar f_6 0 9) (h13 : mm_rg i_18 (-2147483648) 210) (h14 : mm_ar f_7 0 9)  : mm_CI l yX11_greedy (mm_ws yX11_greedy cX11_greedy 3 (some .int)) ({ frames := 6, cells := 0, slots := 0, locals := 165 } : Room) G cy sz [(a_0, .inr (11, [.ref a_1, .ref a_2, .ref a_3, .ref a_4, .ref a_5, .ref a_6, .ref a_7, .ref a_8, .ref a_9, .ref a_10, .ref a_11])), (a_3, .inr (10, [.ref a_12, .ref a_13])), (a_12, .inr (0, [.int i_2, .int i_3, .int i_4, .int i_5, .int i_6, .int i_7, .int i_8, .int i_9, .ref a_14, .ref a_15, .ref a_16, .ref a_17, .ref a_18, .ref a_19, .ref a_20, .ref a_21, .ref a_22, .ref a_23])), (a_14, .inl (cy 1, 9, .inl f_0)), (a_15, .inl (cy 1, 9, .inl f_1)), (a_18, .inl (cy 1, 6, .inl f_2)), (a_19, .inl (cy 1, 48, .inl f_3)), (a_20, .inl (cy 1, 30, .inl f_4)), (a_13, .inl (cy 5, 3, .inr (.inr (.inr (.inr (va_up (va_up (va_up (fun _ => none) 0 (some a_24)) 1 (some a_25)) 2 (some a_26))))))), (a_24, .inr (1, [.ref a_27, .ref a_28, .int i_10, .int i_11, .int i_12])), (a_27, .inl (cy 1, 2100, .inl f_5)), (a_25, .inr (1, [.ref a_29, .ref a_30, .int i_13, .int i_14, .int i_15])), (a_29, .inl (cy 1, 2100, .inl f_6)), (a_26, .inr (1, [.ref a_31, .ref a_32, .int i_16, .int i_17, .int i_18])), (a_31, .inl (cy 1, 2100, .inl f_7)), (a_10, .inr (2, [.ref a_3, .ref a_33, .ref a_34]))] [.ref a_0, .int i_0, .int i_1] (fun u : Unit => [(a_0, .inr (11, [.ref a_1, .ref a_2, .ref a_3, .ref a_4, .ref a_5, .ref a_6, .ref a_7, .ref a_8, .ref a_9, .ref a_10, .ref a_11])), (a_3, .inr (10, [.ref a_12, .ref a_13])), (a_12, .inr (0, [.int i_2, .int i_3, .int i_4, .int i_5, .int i_6, .int i_7, .int i_8, .int i_9, .ref a_14, .ref a_15, .ref a_16, .ref a_17, .ref a_18, .ref a_19, .ref a_20, .ref a_21, .ref a_22, .ref a_23])), (a_14, .inl (cy 1, 9, .inl f_0)), (a_15, .inl (cy 1, 9, .inl f_1)), (a_18, .inl (cy 1, 6, .inl f_2)), (a_19, .inl (cy 1, 48, .inl f_3)), (a_20, .inl (cy 1, 30, .inl f_4)), (a_13, .inl (cy 5, 3, .inr (.inr (.inr (.inr (va_up (va_up (va_up (fun _ => none) 0 (some a_24)) 1 (some a_25)) 2 (some a_26))))))), (a_24, .inr (1, [.ref a_27, .ref a_28, .int i_10, .int i_11, .int i_12])), (a_27, .inl (cy 1, 2100, .inl f_5)), (a_25, .inr (1, [.ref a_29, .ref a_30, .int i_13, .int i_14, .int i_15])), (a_29, .inl (cy 1, 2100, .inl f_6)), (a_26, .inr (1, [.ref a_31, .ref a_32, .int i_16, .int i_17, .int i_18])), (a_31, .inl (cy 1, 2100, .inl f_7)), (a_10, .inr (2, [.ref a_3, .ref a_33, .ref a_34]))]) (fun (r : Int32) (u : Unit) => True) 0 0 := by
  refine mm_begin (lv := [(0, .ref a_0), (1, .int i_0), (2, .int i_1)]) (by decide) (Nat.le_of_ble_eq_true rfl) rfl ?_
  intro p e s m below meth c A ls R args Q H locs hRe hQ hAe hx hb hr hlocks hml hown hnm hts hsz hA hS hP hK hD hZ hl
  have hRf : R.frames = 6 := by rw [hRe]
  have hRl : R.locals = 165 := by rw [hRe]
  have hRc : R.cells = 0 := by rw [hRe]
  have hRs : R.slots = 0 := by rw [hRe]
  refine lv_aload_n hx hb dX11_greedy_0 rfl (lv_at hl 0 rfl) ?_
  refine lv_iload_n hx hb dX11_greedy_1 rfl (lv_at hl 1 rfl) ?_
  refine mm_finir (va_runV (As := [.int i_0]) (rest := []) ⟨hx, hb, hml, hown, hts⟩ (K350_X11_isLand l G cy H.size a_0 i_0 a_1 a_2 a_3 a_4 a_5 a_6 a_7 a_8 a_9 a_10 a_11 a_12 a_13 i_2 i_3 i_4 i_5 i_6 i_7 i_8 i_9 a_14 a_15 a_16 a_17 a_18 a_19 a_20 a_21 a_22 a_23 h2) (cwV 1 hts (mm_gV mm_w626 mm_w627 mm_w628 mm_w2 mm_w629) rfl rfl rfl hd_X11_isLand ⟨by rw [hRf]; exact Nat.le_of_ble_eq_true rfl, by rw [hRl]; exact Nat.le_of_ble_eq_true rfl⟩) (mm_preV hK hZ hS hA hP hD [0, 1, 2] rfl rfl 0 rfl rfl rfl) rfl rfl hl.1 rfl (lv_room (Nat.le_of_ble_eq_true rfl)) dX11_greedy_2 ⟨by rw [hRc]; exact Nat.le_of_ble_eq_true rfl, by rw [hRs]; exact Nat.le_of_ble_eq_true rfl⟩) hP hD hS hA [0, 1, 2] rfl (fun _ => rfl) ?_
  clear hP hD hS
  clear H locs
  intro v1 _u H locs hw hP hD hS
  rcases hw with ⟨rfl, w2⟩ | ⟨rfl, w3⟩
  · refine lv_if_eq (tgt := 15) hx hb dX11_greedy_5 (by decide) (fun c4 => ?_) (fun c4 => ?_)
    · refine lv_ldcw (v := (-100000)) hx hb hown (mm_h hts mm_w1434) dX11_greedy_15 ?_
      subst hAe
      rw [hQ]
      exact W.iret (v := (-100000)) hx hb hr (fun t ht hW => ⟨⟨(-100000), (), rfl, trivial, by rw [ht]; exact hP, hK.warm hW, hD⟩, hS.F ht⟩) hS.2.2 dX11_greedy_18
    · have q5 := mm_neL (lo := 1) (mm_ne c4) mm_k0 mm_k0 (by decide) (by decide)
      exact mm_no q5 (by decide)
  · refine lv_if_eq (tgt := 15) hx hb dX11_greedy_5 (by decide) (fun c6 => ?_) (fun c6 => ?_)
    · exact mm_eqN c6.symm mm_k0 mm_k1 (by decide)
    · refine lv_iload_n hx hb dX11_greedy_8 rfl (lv_at hl 2 rfl) ?_
      refine mm_finir (va_runS (As := [.int i_1]) (rest := []) ⟨hx, hb, hml, hown, hts⟩ (K353_X11_isDay l G cy H.size i_1 ) (va_cwS 1 hts (mm_gS mm_w661 mm_w662 mm_w2 mm_w663) rfl rfl rfl hs_X11_isDay ⟨by rw [hRf]; exact Nat.le_of_ble_eq_true rfl, by rw [hRl]; exact Nat.le_of_ble_eq_true rfl⟩) (mm_preS hK hZ hS hA hP hD [] rfl rfl) rfl rfl hl.1 rfl (lv_room (Nat.le_of_ble_eq_true rfl)) dX11_greedy_9 ⟨by rw [hRc]; exact Nat.le_of_ble_eq_true rfl, by rw [hRs]; exact Nat.le_of_ble_eq_true rfl⟩) hP hD hS hA [] rfl (fun _ => rfl) ?_
      clear hP hD hS
      clear H locs
      intro v7 _u H locs hw hP hD hS
      rcases hw with ⟨rfl, w8⟩ | ⟨rfl, w9⟩
      · refine lv_if_ne (tgt := 19) hx hb dX11_greedy_12 (by decide) (fun c10 => ?_) (fun c10 => ?_)
        · have q11 := mm_neL (lo := 1) (mm_ne c10) mm_k0 mm_k0 (by decide) (by decide)
          exact mm_no q11 (by decide)
        · refine lv_ldcw (v := (-100000)) hx hb hown (mm_h hts mm_w1434) dX11_greedy_15 ?_
          subst hAe
          rw [hQ]
          exact W.iret (v := (-100000)) hx hb hr (fun t ht hW => ⟨⟨(-100000), (), rfl, trivial, by rw [ht]; exact hP, hK.warm hW, hD⟩, hS.F ht⟩) hS.2.2 dX11_greedy_18
      · refine lv_if_ne (tgt := 19) hx hb dX11_greedy_12 (by decide) (fun c12 => ?_) (fun c12 => ?_)
        · refine lv_aload_n hx hb dX11_greedy_19 rfl (lv_at hl 0 rfl) ?_
          refine va_get (D := G) (ci := 11) (v := .ref a_10) (C := RX11) (T := TX11) (N := 11) hx hb hts (mm_i inlX11) hown hK.1 hP 0 rfl rfl 9 (by decide) (mm_h hts mm_w50) (fun _ h9 => h9) rfl dX11_greedy_20 ?_
          refine lv_iload_n hx hb dX11_greedy_23 rfl (lv_at hl 1 rfl) ?_
          refine lv_iload_n hx hb dX11_greedy_24 rfl (lv_at hl 2 rfl) ?_
          refine mm_finir (va_runV (As := [.int i_0, .int i_1]) (rest := []) ⟨hx, hb, hml, hown, hts⟩ (K488_X2_playGreedily l G cy H.size a_10 i_0 i_1 a_3 a_12 a_13 i_2 i_3 i_4 i_5 i_6 i_7 i_8 i_9 a_14 a_15 a_16 a_17 a_18 a_19 a_20 a_21 a_22 a_23 f_0 f_1 f_2 f_3 f_4 a_24 a_25 a_26 a_27 a_28 i_10 i_11 i_12 f_5 a_29 a_30 i_13 i_14 i_15 f_6 a_31 a_32 i_16 i_17 i_18 f_7 a_33 a_34 w3 (mm_wk w9 (by decide)) h0 h1 h3 h4 h5 h6 h7 h8 h9 h10 h11 h12 h13 h14) (cwV 2 hts (mm_gV mm_w1480 mm_w1481 mm_w1482 mm_w49 mm_w1483) rfl rfl rfl hd_X2_playGreedily ⟨by rw [hRf]; exact Nat.le_of_ble_eq_true rfl, by rw [hRl]; exact Nat.le_of_ble_eq_true rfl⟩) (mm_preV hK hZ hS hA hP hD [1, 2, 3, 4, 5, 6, 7, 8, 9, 10, 11, 12, 13, 14, 15] rfl rfl 15 rfl rfl rfl) rfl rfl hl.1 rfl (lv_room (Nat.le_of_ble_eq_true rfl)) dX11_greedy_25 ⟨by rw [hRc]; exact Nat.le_of_ble_eq_true rfl, by rw [hRs]; exact Nat.le_of_ble_eq_true rfl⟩) hP hD hS hA [1, 2, 3, 4, 5, 6, 7, 8, 9, 10, 11, 12, 13, 14, 15] rfl (fun _ => rfl) ?_
          clear hP hD hS
          clear H locs
          intro v13 _u H locs hw hP hD hS
          subst hAe
          rw [hQ]
          exact W.iret (v := v13) hx hb hr (fun t ht hW => ⟨⟨v13, (), rfl, trivial, by rw [ht]; exact hP, hK.warm hW, hD⟩, hS.F ht⟩) hS.2.2 dX11_greedy_28
        · exact mm_eqN c12.symm mm_k0 mm_k1 (by decide)

set_option maxHeartbeats 4000000 in
set_option maxRecDepth 100000 in
theorem K490_X11_isNights (l : Launch) (G : va_G) (cy : Nat → ClassId) (sz : Nat) (i_0 : Int32)   : mm_CI l yX11_isNights (mm_ws yX11_isNights cX11_isNights 1 (some .boolean)) ({ frames := 0, cells := 0, slots := 0, locals := 0 } : Room) G cy sz [] [.int i_0] (fun u : Unit => []) (fun (r : Int32) (u : Unit) => ((0 = r ∧ mm_rg i_0 (-2147483648) 2147483647) ∨ (1 = r ∧ mm_rg i_0 0 7))) 0 0 := by
  refine mm_begin (lv := [(0, .int i_0)]) (by decide) (Nat.le_of_ble_eq_true rfl) rfl ?_
  intro p e s m below meth c A ls R args Q H locs hRe hQ hAe hx hb hr hlocks hml hown hnm hts hsz hA hS hP hK hD hZ hl
  have hRf : R.frames = 0 := by rw [hRe]
  have hRl : R.locals = 0 := by rw [hRe]
  have hRc : R.cells = 0 := by rw [hRe]
  have hRs : R.slots = 0 := by rw [hRe]
  refine lv_iload_n hx hb dX11_isNights_0 rfl (lv_at hl 0 rfl) ?_
  refine lv_if_lt (tgt := 14) hx hb dX11_isNights_1 (by decide) (fun c1 => ?_) (fun c1 => ?_)
  · have q2 := mm_ltL (h := (-1)) (mm_lt c1) (mm_top i_0) mm_k0 (by decide)
    refine lv_iconst (v := 0) hx hb dX11_isNights_14 (by decide) ?_
    subst hAe
    rw [hQ]
    exact W.zret (v := 0) hx hb hr rfl (fun t ht hW => ⟨⟨0, (), rfl, (Or.inl ⟨rfl, (mm_wk q2 (by decide))⟩), by rw [ht]; exact hP, hK.warm hW, hD⟩, hS.F ht⟩) hS.2.2 dX11_isNights_15
  · have q3 := mm_leR (mm_nlt c1) mm_k0 (mm_top i_0)
    refine lv_iload_n hx hb dX11_isNights_4 rfl (lv_at hl 0 rfl) ?_
    refine lv_bipush (v := 7) hx hb dX11_isNights_5 (by decide) ?_
    refine lv_icmp_gt (tgt := 14) hx hb dX11_isNights_7 (by decide) (fun c4 => ?_) (fun c4 => ?_)
    · have q5 := mm_ltR (lo := 8) (mm_lt c4) mm_k7 q3 (by decide)
      refine lv_iconst (v := 0) hx hb dX11_isNights_14 (by decide) ?_
      subst hAe
      rw [hQ]
      exact W.zret (v := 0) hx hb hr rfl (fun t ht hW => ⟨⟨0, (), rfl, (Or.inl ⟨rfl, (mm_wk q5 (by decide))⟩), by rw [ht]; exact hP, hK.warm hW, hD⟩, hS.F ht⟩) hS.2.2 dX11_isNights_15
    · have q6 := mm_leL (mm_nlt c4) q3 mm_k7
      refine lv_iconst (v := 1) hx hb dX11_isNights_10 (by decide) ?_
      refine lv_goto (tgt := 15) hx hb dX11_isNights_11 (by decide) ?_
      subst hAe
      rw [hQ]
      exact W.zret (v := 1) hx hb hr rfl (fun t ht hW => ⟨⟨1, (), rfl, (Or.inr ⟨rfl, q6⟩), by rw [ht]; exact hP, hK.warm hW, hD⟩, hS.F ht⟩) hS.2.2 dX11_isNights_15

set_option maxHeartbeats 4000000 in
set_option maxRecDepth 100000 in
theorem K491_J7_fill_d0a16 (l : Launch) (G : va_G) (cy : Nat → ClassId) (sz : Nat) (a_0 : Nat) (f_0 : Nat → Int64)   : mm_CV l yJ7_fill_d0a16 (mm_ws yJ7_fill_d0a16 cJ7_fill_d0a16 5 (none)) ({ frames := 0, cells := 0, slots := 0, locals := 0 } : Room) G cy sz [(a_0, .inl (cy 2, 8, .inr (.inl f_0)))] [.ref a_0, .long 0] (fun u : (Nat → Int64) => [(a_0, .inl (cy 2, 8, .inr (.inl u)))]) (fun u : (Nat → Int64) => True) 0 0 := by
  refine mm_begin (lv := [(0, .ref a_0), (1, .long 0)]) (by decide) (Nat.le_of_ble_eq_true rfl) rfl ?_
  intro p e s m below meth c A ls R args Q H locs hRe hQ hAe hx hb hr hlocks hml hown hnm hts hsz hA hS hP hK hD hZ hl
  have hRf : R.frames = 0 := by rw [hRe]
  have hRl : R.locals = 0 := by rw [hRe]
  have hRc : R.cells = 0 := by rw [hRe]
  have hRs : R.slots = 0 := by rw [hRe]
  refine lv_iconst (v := 0) hx hb dJ7_fill_d0a16_0 (by decide) ?_
  refine lv_istore_n (lv' := [(3, .int 0), (0, .ref a_0), (1, .long 0)]) hx hb dJ7_fill_d0a16_1 rfl hl (by decide) rfl ?_
  clear hl
  clear ls
  intro ls hl
  refine lv_aload_n hx hb dJ7_fill_d0a16_2 rfl (lv_at hl 1 rfl) ?_
  refine va_alen (v := 8) hx hb hK.1 hP 0 2 rfl rfl rfl dJ7_fill_d0a16_3 ?_
  refine lv_istore (lv' := [(4, .int 8), (3, .int 0), (0, .ref a_0), (1, .long 0)]) hx hb dJ7_fill_d0a16_4 hl (by decide) rfl ?_
  clear hl
  clear ls
  intro ls hl
  have L6_42 : ∀ (n : Nat) (x6_3_41 : Int32) (z6_0_42 : Nat → Int64), mm_rg x6_3_41 0 8 → (8 - x6_3_41.toInt).toNat < n → ∀ (H : Heap) (locs : List Loc), va_P G vwCl [(a_0, .inl (cy 2, 8, .inr (.inl z6_0_42)))] H → va_D A [(a_0, .inl (cy 2, 8, .inr (.inl z6_0_42)))] → va_S A s.heap H locs → ∀ (ls : Array Slot), lv_has ls 5 [(4, .int 8), (3, .int x6_3_41), (0, .ref a_0), (1, .long 0)] → W p l e R s m args below meth c H locs 0 0 Q (F0 m 6 ls []) := by
    intro n
    induction n with
    | zero => intro x6_3_41 z6_0_42 rx6_3_41 hm; exact absurd hm (Nat.not_lt_zero _)
    | succ n ih6 =>
      intro x6_3_41 z6_0_42 rx6_3_41 hm6 H locs hP hD hS ls hl
      refine lv_iload_n hx hb dJ7_fill_d0a16_6 rfl (lv_at hl 1 rfl) ?_
      refine lv_iload hx hb dJ7_fill_d0a16_7 (lv_at hl 0 rfl) ?_
      refine lv_icmp_ge (tgt := 22) hx hb dJ7_fill_d0a16_9 (by decide) (fun c44 => ?_) (fun c44 => ?_)
      · have q45 := mm_leR (mm_le c44) mm_k8 rx6_3_41
        subst hAe
        rw [hQ]
        exact W.vret hx hb hr (fun t ht hW => ⟨⟨z6_0_42, rfl, trivial, by rw [ht]; exact hP, hK.warm hW, hD⟩, hS.F ht⟩) hS.2.2 dJ7_fill_d0a16_22
      · have q46 := mm_ltL (h := 7) (mm_nle c44) rx6_3_41 mm_k8 (by decide)
        refine lv_aload_n hx hb dJ7_fill_d0a16_12 rfl (lv_at hl 2 rfl) ?_
        refine lv_iload_n hx hb dJ7_fill_d0a16_13 rfl (lv_at hl 1 rfl) ?_
        refine lv_lload_n hx hb dJ7_fill_d0a16_14 rfl (lv_at hl 3 rfl) ?_
        refine va_last hx hb hK.1 hP hD hS 0 2 rfl rfl (mm_in q46 (by decide)) dJ7_fill_d0a16_15 ?_
        clear hP hD hS
        clear H locs
        obtain ⟨g47, eg47⟩ : ∃ z : Nat → Int64, z = vp_updL z6_0_42 x6_3_41.toNatClampNeg 0 := ⟨_, rfl⟩
        rw [← eg47]
        intro H locs (hP : va_P G vwCl [(a_0, .inl (cy 2, 8, .inr (.inl g47)))] H) (hD : va_D A [(a_0, .inl (cy 2, 8, .inr (.inl g47)))]) hS
        obtain ⟨v48, ev48⟩ : ∃ y : Int32, y = x6_3_41 + 1 := ⟨_, rfl⟩
        refine lv_iinc (v := v48) (lv' := [(3, .int v48), (4, .int 8), (0, .ref a_0), (1, .long 0)]) hx hb dJ7_fill_d0a16_16 hl (k := 1) rfl (by rw [ev48]; rfl) (by decide) rfl ?_
        clear hl
        clear ls
        intro ls hl
        have rv48 : mm_rg v48 1 8 := mm_add ev48 q46 mm_k1 (by decide) (by decide)
        have tv48 := mm_addEc ev48 q46 mm_k1 (by decide) (k := 1) (by decide)
        refine lv_goto (tgt := 6) hx hb dJ7_fill_d0a16_19 (by decide) ?_
        exact ih6 v48 g47 (mm_wk rv48 (by decide)) (mm_mu hm6 tv48 (by decide) (rv48).2 (by decide)) H locs hP hD hS ls (lv_sub hl [1, 0, 2, 3] rfl)
  exact L6_42 _ 0 f_0 (mm_wk mm_k0 (by decide)) (Nat.lt_succ_self _) H locs hP hD hS ls (lv_sub hl [0, 1, 2, 3] rfl)

set_option maxHeartbeats 4000000 in
set_option maxRecDepth 100000 in
theorem K492_X5_weigh (l : Launch) (G : va_G) (cy : Nat → ClassId) (sz : Nat) (a_0 : Nat) (i_0 : Int32) (a_1 : Nat) (a_2 : Nat) (a_3 : Nat) (i_1 : Int32) (i_2 : Int32) (i_3 : Int32) (i_4 : Int32) (i_5 : Int32) (i_6 : Int32) (i_7 : Int32) (i_8 : Int32) (a_4 : Nat) (a_5 : Nat) (a_6 : Nat) (a_7 : Nat) (a_8 : Nat) (a_9 : Nat) (a_10 : Nat) (a_11 : Nat) (a_12 : Nat) (a_13 : Nat) (a_14 : Nat) (f_0 : Nat → Int64) (h0 : mm_rg i_0 0 7) (h1 : mm_rg i_2 0 10)  : mm_CL l yX5_weigh (mm_ws yX5_weigh cX5_weigh 6 (some .long)) ({ frames := 1, cells := 0, slots := 0, locals := 24 } : Room) G cy sz [(a_1, .inr (10, [.ref a_2, .ref a_3])), (a_2, .inr (0, [.int i_1, .int i_2, .int i_3, .int i_4, .int i_5, .int i_6, .int i_7, .int i_8, .ref a_4, .ref a_5, .ref a_6, .ref a_7, .ref a_8, .ref a_9, .ref a_10, .ref a_11, .ref a_12, .ref a_13])), (a_0, .inr (5, [.ref a_1, .ref a_14])), (a_14, .inl (cy 2, 8, .inr (.inl f_0)))] [.ref a_0, .int i_0] (fun u : (Nat → Int64) => [(a_1, .inr (10, [.ref a_2, .ref a_3])), (a_2, .inr (0, [.int i_1, .int i_2, .int i_3, .int i_4, .int i_5, .int i_6, .int i_7, .int i_8, .ref a_4, .ref a_5, .ref a_6, .ref a_7, .ref a_8, .ref a_9, .ref a_10, .ref a_11, .ref a_12, .ref a_13])), (a_0, .inr (5, [.ref a_1, .ref a_14])), (a_14, .inl (cy 2, 8, .inr (.inl u)))]) (fun (r : Int64) (u : (Nat → Int64)) => True) 0 0 := by
  refine mm_begin (lv := [(0, .ref a_0), (1, .int i_0)]) (by decide) (Nat.le_of_ble_eq_true rfl) rfl ?_
  intro p e s m below meth c A ls R args Q H locs hRe hQ hAe hx hb hr hlocks hml hown hnm hts hsz hA hS hP hK hD hZ hl
  have hRf : R.frames = 1 := by rw [hRe]
  have hRl : R.locals = 24 := by rw [hRe]
  have hRc : R.cells = 0 := by rw [hRe]
  have hRs : R.slots = 0 := by rw [hRe]
  refine lv_aload_n hx hb dX5_weigh_0 rfl (lv_at hl 0 rfl) ?_
  refine va_get (D := G) (ci := 5) (v := .ref a_14) (C := RX5) (T := TX5) (N := 2) hx hb hts (mm_i inlX5) hown hK.1 hP 2 rfl rfl 1 (by decide) (mm_h hts mm_w136) (fun _ h9 => h9) rfl dX5_weigh_1 ?_
  refine lv_lconst (v := 0) hx hb dX5_weigh_4 (by decide) ?_
  refine mm_finv (va_runS (As := [.ref a_14, .long 0]) (rest := []) ⟨hx, hb, hml, hown, hts⟩ (K491_J7_fill_d0a16 l G cy H.size a_14 f_0 ) (va_cwS 2 hts (mm_gS mm_w1504 mm_w1505 mm_w225 mm_w1506) rfl rfl rfl hs_J7_fill_d0a16 ⟨by rw [hRf]; exact Nat.le_of_ble_eq_true rfl, by rw [hRl]; exact Nat.le_of_ble_eq_true rfl⟩) (mm_preS hK hZ hS hA hP hD [3] rfl rfl) rfl rfl hl.1 rfl (lv_room (Nat.le_of_ble_eq_true rfl)) dX5_weigh_5 ⟨by rw [hRc]; exact Nat.le_of_ble_eq_true rfl, by rw [hRs]; exact Nat.le_of_ble_eq_true rfl⟩) hP hD hS hA (fun u : (Nat → Int64) => [(a_1, .inr (10, [.ref a_2, .ref a_3])), (a_2, .inr (0, [.int i_1, .int i_2, .int i_3, .int i_4, .int i_5, .int i_6, .int i_7, .int i_8, .ref a_4, .ref a_5, .ref a_6, .ref a_7, .ref a_8, .ref a_9, .ref a_10, .ref a_11, .ref a_12, .ref a_13])), (a_0, .inr (5, [.ref a_1, .ref a_14])), (a_14, .inl (cy 2, 8, .inr (.inl u)))]) [3] [0, 1, 2] (n := 4) (fun _ => rfl) (by decide +kernel) (by decide +kernel) rfl (fun _ => rfl) (wr := [(a_1, .inr (10, [.ref a_2, .ref a_3])), (a_2, .inr (0, [.int i_1, .int i_2, .int i_3, .int i_4, .int i_5, .int i_6, .int i_7, .int i_8, .ref a_4, .ref a_5, .ref a_6, .ref a_7, .ref a_8, .ref a_9, .ref a_10, .ref a_11, .ref a_12, .ref a_13])), (a_0, .inr (5, [.ref a_1, .ref a_14]))]) rfl (fun _ => rfl) (fun _ => rfl) ?_
  clear hP hD hS
  clear H locs
  intro n1 H locs hw (hP : va_P G vwCl [(a_1, .inr (10, [.ref a_2, .ref a_3])), (a_2, .inr (0, [.int i_1, .int i_2, .int i_3, .int i_4, .int i_5, .int i_6, .int i_7, .int i_8, .ref a_4, .ref a_5, .ref a_6, .ref a_7, .ref a_8, .ref a_9, .ref a_10, .ref a_11, .ref a_12, .ref a_13])), (a_0, .inr (5, [.ref a_1, .ref a_14])), (a_14, .inl (cy 2, 8, .inr (.inl n1)))] H) (hD : va_D A [(a_1, .inr (10, [.ref a_2, .ref a_3])), (a_2, .inr (0, [.int i_1, .int i_2, .int i_3, .int i_4, .int i_5, .int i_6, .int i_7, .int i_8, .ref a_4, .ref a_5, .ref a_6, .ref a_7, .ref a_8, .ref a_9, .ref a_10, .ref a_11, .ref a_12, .ref a_13])), (a_0, .inr (5, [.ref a_1, .ref a_14])), (a_14, .inl (cy 2, 8, .inr (.inl n1)))]) hS
  refine lv_aload_n hx hb dX5_weigh_8 rfl (lv_at hl 0 rfl) ?_
  refine va_get (D := G) (ci := 5) (v := .ref a_14) (C := RX5) (T := TX5) (N := 2) hx hb hts (mm_i inlX5) hown hK.1 hP 2 rfl rfl 1 (by decide) (mm_h hts mm_w136) (fun _ h9 => h9) rfl dX5_weigh_9 ?_
  refine lv_iconst (v := 0) hx hb dX5_weigh_12 (by decide) ?_
  refine lv_lconst (v := 1) hx hb dX5_weigh_13 (by decide) ?_
  refine va_last hx hb hK.1 hP hD hS 3 2 rfl rfl (mm_in mm_k0 (by decide)) dX5_weigh_14 ?_
  clear hP hD hS
  clear H locs
  obtain ⟨g2, eg2⟩ : ∃ z : Nat → Int64, z = vp_updL n1 (0 : Int32).toNatClampNeg 1 := ⟨_, rfl⟩
  rw [← eg2]
  intro H locs (hP : va_P G vwCl [(a_1, .inr (10, [.ref a_2, .ref a_3])), (a_2, .inr (0, [.int i_1, .int i_2, .int i_3, .int i_4, .int i_5, .int i_6, .int i_7, .int i_8, .ref a_4, .ref a_5, .ref a_6, .ref a_7, .ref a_8, .ref a_9, .ref a_10, .ref a_11, .ref a_12, .ref a_13])), (a_0, .inr (5, [.ref a_1, .ref a_14])), (a_14, .inl (cy 2, 8, .inr (.inl g2)))] H) (hD : va_D A [(a_1, .inr (10, [.ref a_2, .ref a_3])), (a_2, .inr (0, [.int i_1, .int i_2, .int i_3, .int i_4, .int i_5, .int i_6, .int i_7, .int i_8, .ref a_4, .ref a_5, .ref a_6, .ref a_7, .ref a_8, .ref a_9, .ref a_10, .ref a_11, .ref a_12, .ref a_13])), (a_0, .inr (5, [.ref a_1, .ref a_14])), (a_14, .inl (cy 2, 8, .inr (.inl g2)))]) hS
  refine lv_lconst (v := 1) hx hb dX5_weigh_15 (by decide) ?_
  refine lv_lstore_n (lv' := [(2, .long 1), (0, .ref a_0), (1, .int i_0)]) hx hb dX5_weigh_16 rfl hl (by decide) rfl ?_
  clear hl
  clear ls
  intro ls hl
  refine lv_iconst (v := 0) hx hb dX5_weigh_17 (by decide) ?_
  refine lv_istore (lv' := [(4, .int 0), (2, .long 1), (0, .ref a_0), (1, .int i_0)]) hx hb dX5_weigh_18 hl (by decide) rfl ?_
  clear hl
  clear ls
  intro ls hl
  have L20_695 : ∀ (n : Nat) (x20_4_693 : Int32) (x20_2_694 : Int64) (z20_3_695 : Nat → Int64), mm_rg x20_4_693 0 7 → (7 - x20_4_693.toInt).toNat < n → ∀ (H : Heap) (locs : List Loc), va_P G vwCl [(a_1, .inr (10, [.ref a_2, .ref a_3])), (a_2, .inr (0, [.int i_1, .int i_2, .int i_3, .int i_4, .int i_5, .int i_6, .int i_7, .int i_8, .ref a_4, .ref a_5, .ref a_6, .ref a_7, .ref a_8, .ref a_9, .ref a_10, .ref a_11, .ref a_12, .ref a_13])), (a_0, .inr (5, [.ref a_1, .ref a_14])), (a_14, .inl (cy 2, 8, .inr (.inl z20_3_695)))] H → va_D A [(a_1, .inr (10, [.ref a_2, .ref a_3])), (a_2, .inr (0, [.int i_1, .int i_2, .int i_3, .int i_4, .int i_5, .int i_6, .int i_7, .int i_8, .ref a_4, .ref a_5, .ref a_6, .ref a_7, .ref a_8, .ref a_9, .ref a_10, .ref a_11, .ref a_12, .ref a_13])), (a_0, .inr (5, [.ref a_1, .ref a_14])), (a_14, .inl (cy 2, 8, .inr (.inl z20_3_695)))] → va_S A s.heap H locs → ∀ (ls : Array Slot), lv_has ls 6 [(4, .int x20_4_693), (2, .long x20_2_694), (0, .ref a_0), (1, .int i_0)] → W p l e R s m args below meth c H locs 0 0 Q (F0 m 20 ls []) := by
    intro n
    induction n with
    | zero => intro x20_4_693 x20_2_694 z20_3_695 rx20_4_693 hm; exact absurd hm (Nat.not_lt_zero _)
    | succ n ih20 =>
      intro x20_4_693 x20_2_694 z20_3_695 rx20_4_693 hm20 H locs hP hD hS ls hl
      refine lv_iload hx hb dX5_weigh_20 (lv_at hl 0 rfl) ?_
      refine lv_iload_n hx hb dX5_weigh_22 rfl (lv_at hl 3 rfl) ?_
      refine lv_icmp_ge (tgt := 137) hx hb dX5_weigh_23 (by decide) (fun c697 => ?_) (fun c697 => ?_)
      · refine lv_lload_n hx hb dX5_weigh_137 rfl (lv_at hl 1 rfl) ?_
        subst hAe
        rw [hQ]
        exact W.lret (v := x20_2_694) hx hb hr (fun t ht hW => ⟨⟨x20_2_694, z20_3_695, rfl, trivial, by rw [ht]; exact hP, hK.warm hW, hD⟩, hS.F ht⟩) hS.2.2 dX5_weigh_138
      · have q698 := mm_ltL (h := 6) (mm_nle c697) rx20_4_693 h0 (by decide)
        have q699 := mm_ltR (lo := 1) (mm_nle c697) rx20_4_693 h0 (by decide)
        refine lv_iload hx hb dX5_weigh_26 (lv_at hl 0 rfl) ?_
        refine lv_bipush (v := 7) hx hb dX5_weigh_28 (by decide) ?_
        refine lv_icmp_ge (tgt := 137) hx hb dX5_weigh_30 (by decide) (fun c700 => ?_) (fun c700 => ?_)
        · have q701 := mm_leL (mm_le c700) mm_k7 q698
          exact mm_no q701 (by decide)
        · refine lv_iload hx hb dX5_weigh_33 (lv_at hl 0 rfl) ?_
          refine lv_iconst (v := 1) hx hb dX5_weigh_35 (by decide) ?_
          refine lv_iadd hx hb dX5_weigh_36 ?_
          refine lv_topi (fun v702 ev702 => ?_)
          have rv702 : mm_rg v702 1 7 := mm_add ev702 q698 mm_k1 (by decide) (by decide)
          have tv702 := mm_addEc ev702 q698 mm_k1 (by decide) (k := 1) (by decide)
          refine lv_istore (lv' := [(5, .int v702), (4, .int x20_4_693), (2, .long x20_2_694), (0, .ref a_0), (1, .int i_0)]) hx hb dX5_weigh_37 hl (by decide) rfl ?_
          clear hl
          clear ls
          intro ls hl
          have L39_751 : ∀ (n : Nat) (x39_5_750 : Int32) (z39_3_751 : Nat → Int64), mm_rg x39_5_750 0 7 → (x39_5_750.toInt - 0).toNat < n → ∀ (H : Heap) (locs : List Loc), va_P G vwCl [(a_1, .inr (10, [.ref a_2, .ref a_3])), (a_2, .inr (0, [.int i_1, .int i_2, .int i_3, .int i_4, .int i_5, .int i_6, .int i_7, .int i_8, .ref a_4, .ref a_5, .ref a_6, .ref a_7, .ref a_8, .ref a_9, .ref a_10, .ref a_11, .ref a_12, .ref a_13])), (a_0, .inr (5, [.ref a_1, .ref a_14])), (a_14, .inl (cy 2, 8, .inr (.inl z39_3_751)))] H → va_D A [(a_1, .inr (10, [.ref a_2, .ref a_3])), (a_2, .inr (0, [.int i_1, .int i_2, .int i_3, .int i_4, .int i_5, .int i_6, .int i_7, .int i_8, .ref a_4, .ref a_5, .ref a_6, .ref a_7, .ref a_8, .ref a_9, .ref a_10, .ref a_11, .ref a_12, .ref a_13])), (a_0, .inr (5, [.ref a_1, .ref a_14])), (a_14, .inl (cy 2, 8, .inr (.inl z39_3_751)))] → va_S A s.heap H locs → ∀ (ls : Array Slot), lv_has ls 6 [(5, .int x39_5_750), (4, .int x20_4_693), (2, .long x20_2_694), (0, .ref a_0), (1, .int i_0)] → W p l e R s m args below meth c H locs 0 0 Q (F0 m 39 ls []) := by
            intro n
            induction n with
            | zero => intro x39_5_750 z39_3_751 rx39_5_750 hm; exact absurd hm (Nat.not_lt_zero _)
            | succ n ih39 =>
              intro x39_5_750 z39_3_751 rx39_5_750 hm39 H locs hP hD hS ls hl
              refine lv_iload hx hb dX5_weigh_39 (lv_at hl 0 rfl) ?_
              refine lv_iconst (v := 1) hx hb dX5_weigh_41 (by decide) ?_
              refine lv_icmp_lt (tgt := 102) hx hb dX5_weigh_42 (by decide) (fun c753 => ?_) (fun c753 => ?_)
              · have q754 := mm_ltL (h := 0) (mm_lt c753) rx39_5_750 mm_k1 (by decide)
                refine lv_aload_n hx hb dX5_weigh_102 rfl (lv_at hl 3 rfl) ?_
                refine va_get (D := G) (ci := 5) (v := .ref a_14) (C := RX5) (T := TX5) (N := 2) hx hb hts (mm_i inlX5) hown hK.1 hP 2 rfl rfl 1 (by decide) (mm_h hts mm_w136) (fun _ h9 => h9) rfl dX5_weigh_103 ?_
                refine lv_iconst (v := 0) hx hb dX5_weigh_106 (by decide) ?_
                refine lv_dup2_11 hx hb dX5_weigh_107 rfl rfl ?_
                refine va_lald hx hb hK.1 hP 3 2 rfl rfl (mm_in mm_k0 (by decide)) dX5_weigh_108 ?_
                refine lv_topl (fun v755 ev755 => ?_)
                refine lv_bipush (v := 10) hx hb dX5_weigh_109 (by decide) ?_
                refine lv_aload_n hx hb dX5_weigh_111 rfl (lv_at hl 3 rfl) ?_
                refine va_get (D := G) (ci := 5) (v := .ref a_1) (C := RX5) (T := TX5) (N := 2) hx hb hts (mm_i inlX5) hown hK.1 hP 2 rfl rfl 0 (by decide) (mm_h hts mm_w137) (fun _ h9 => h9) rfl dX5_weigh_112 ?_
                refine va_get (D := G) (ci := 10) (v := .ref a_2) (C := RX10) (T := TX10) (N := 2) hx hb hts (mm_i inlX10) hown hK.1 hP 0 rfl rfl 0 (by decide) (mm_h hts mm_w1501) (fun _ h9 => h9) rfl dX5_weigh_115 ?_
                refine va_get (D := G) (ci := 0) (v := .int i_2) (C := RX0) (T := TX0) (N := 18) hx hb hts (mm_i inlX0) hown hK.1 hP 1 rfl rfl 1 (by decide) (mm_h hts mm_w1502) (fun _ h9 => h9) rfl dX5_weigh_118 ?_
                refine lv_isub hx hb dX5_weigh_121 ?_
                refine lv_topi (fun v756 ev756 => ?_)
                have rv756 : mm_rg v756 0 10 := mm_sub ev756 mm_k10 h1 (by decide) (by decide)
                have tv756 := mm_subE ev756 mm_k10 h1 (by decide)
                obtain ⟨v757, ev757⟩ : ∃ y : Int64, y = v756.toInt64 := ⟨_, rfl⟩
                refine lv_i2l hx hb dX5_weigh_122 ev757.symm ?_
                have rv757 : mm_rl v757 0 10 := mm_i2l ev757 rv756
                refine lv_lmul hx hb dX5_weigh_123 ?_
                refine lv_topl (fun v758 ev758 => ?_)
                refine va_last hx hb hK.1 hP hD hS 3 2 rfl rfl (mm_in mm_k0 (by decide)) dX5_weigh_124 ?_
                clear hP hD hS
                clear H locs
                obtain ⟨g759, eg759⟩ : ∃ z : Nat → Int64, z = vp_updL z39_3_751 (0 : Int32).toNatClampNeg v758 := ⟨_, rfl⟩
                rw [← eg759]
                intro H locs (hP : va_P G vwCl [(a_1, .inr (10, [.ref a_2, .ref a_3])), (a_2, .inr (0, [.int i_1, .int i_2, .int i_3, .int i_4, .int i_5, .int i_6, .int i_7, .int i_8, .ref a_4, .ref a_5, .ref a_6, .ref a_7, .ref a_8, .ref a_9, .ref a_10, .ref a_11, .ref a_12, .ref a_13])), (a_0, .inr (5, [.ref a_1, .ref a_14])), (a_14, .inl (cy 2, 8, .inr (.inl g759)))] H) (hD : va_D A [(a_1, .inr (10, [.ref a_2, .ref a_3])), (a_2, .inr (0, [.int i_1, .int i_2, .int i_3, .int i_4, .int i_5, .int i_6, .int i_7, .int i_8, .ref a_4, .ref a_5, .ref a_6, .ref a_7, .ref a_8, .ref a_9, .ref a_10, .ref a_11, .ref a_12, .ref a_13])), (a_0, .inr (5, [.ref a_1, .ref a_14])), (a_14, .inl (cy 2, 8, .inr (.inl g759)))]) hS
                refine lv_lload_n hx hb dX5_weigh_125 rfl (lv_at hl 2 rfl) ?_
                refine lv_ldc2 (v := 10) hx hb hown (mm_h hts mm_w1503) dX5_weigh_126 ?_
                refine lv_lmul hx hb dX5_weigh_129 ?_
                refine lv_topl (fun v760 ev760 => ?_)
                refine lv_lstore_n (lv' := [(2, .long v760), (5, .int x39_5_750), (4, .int x20_4_693), (0, .ref a_0), (1, .int i_0)]) hx hb dX5_weigh_130 rfl hl (by decide) rfl ?_
                clear hl
                clear ls
                intro ls hl
                obtain ⟨v761, ev761⟩ : ∃ y : Int32, y = x20_4_693 + 1 := ⟨_, rfl⟩
                refine lv_iinc (v := v761) (lv' := [(4, .int v761), (2, .long v760), (5, .int x39_5_750), (0, .ref a_0), (1, .int i_0)]) hx hb dX5_weigh_131 hl (k := 2) rfl (by rw [ev761]; rfl) (by decide) rfl ?_
                clear hl
                clear ls
                intro ls hl
                have rv761 : mm_rg v761 1 7 := mm_add ev761 q698 mm_k1 (by decide) (by decide)
                have tv761 := mm_addEc ev761 q698 mm_k1 (by decide) (k := 1) (by decide)
                refine lv_goto (tgt := 20) hx hb dX5_weigh_134 (by decide) ?_
                exact ih20 v761 v760 g759 (mm_wk rv761 (by decide)) (mm_mu hm20 tv761 (by decide) (rv761).2 (by decide)) H locs hP hD hS ls (lv_sub hl [0, 1, 3, 4] rfl)
              · have q762 := mm_leR (mm_nlt c753) mm_k1 rx39_5_750
                refine lv_aload_n hx hb dX5_weigh_45 rfl (lv_at hl 3 rfl) ?_
                refine va_get (D := G) (ci := 5) (v := .ref a_14) (C := RX5) (T := TX5) (N := 2) hx hb hts (mm_i inlX5) hown hK.1 hP 2 rfl rfl 1 (by decide) (mm_h hts mm_w136) (fun _ h9 => h9) rfl dX5_weigh_46 ?_
                refine lv_iload hx hb dX5_weigh_49 (lv_at hl 0 rfl) ?_
                refine lv_aload_n hx hb dX5_weigh_51 rfl (lv_at hl 3 rfl) ?_
                refine va_get (D := G) (ci := 5) (v := .ref a_14) (C := RX5) (T := TX5) (N := 2) hx hb hts (mm_i inlX5) hown hK.1 hP 2 rfl rfl 1 (by decide) (mm_h hts mm_w136) (fun _ h9 => h9) rfl dX5_weigh_52 ?_
                refine lv_iload hx hb dX5_weigh_55 (lv_at hl 0 rfl) ?_
                refine va_lald hx hb hK.1 hP 3 2 rfl rfl (mm_in q762 (by decide)) dX5_weigh_57 ?_
                refine lv_topl (fun v763 ev763 => ?_)
                refine lv_bipush (v := 10) hx hb dX5_weigh_58 (by decide) ?_
                refine lv_aload_n hx hb dX5_weigh_60 rfl (lv_at hl 3 rfl) ?_
                refine va_get (D := G) (ci := 5) (v := .ref a_1) (C := RX5) (T := TX5) (N := 2) hx hb hts (mm_i inlX5) hown hK.1 hP 2 rfl rfl 0 (by decide) (mm_h hts mm_w137) (fun _ h9 => h9) rfl dX5_weigh_61 ?_
                refine va_get (D := G) (ci := 10) (v := .ref a_2) (C := RX10) (T := TX10) (N := 2) hx hb hts (mm_i inlX10) hown hK.1 hP 0 rfl rfl 0 (by decide) (mm_h hts mm_w1501) (fun _ h9 => h9) rfl dX5_weigh_64 ?_
                refine va_get (D := G) (ci := 0) (v := .int i_2) (C := RX0) (T := TX0) (N := 18) hx hb hts (mm_i inlX0) hown hK.1 hP 1 rfl rfl 1 (by decide) (mm_h hts mm_w1502) (fun _ h9 => h9) rfl dX5_weigh_67 ?_
                refine lv_isub hx hb dX5_weigh_70 ?_
                refine lv_topi (fun v764 ev764 => ?_)
                have rv764 : mm_rg v764 0 10 := mm_sub ev764 mm_k10 h1 (by decide) (by decide)
                have tv764 := mm_subE ev764 mm_k10 h1 (by decide)
                obtain ⟨v765, ev765⟩ : ∃ y : Int64, y = v764.toInt64 := ⟨_, rfl⟩
                refine lv_i2l hx hb dX5_weigh_71 ev765.symm ?_
                have rv765 : mm_rl v765 0 10 := mm_i2l ev765 rv764
                refine lv_lmul hx hb dX5_weigh_72 ?_
                refine lv_topl (fun v766 ev766 => ?_)
                refine lv_aload_n hx hb dX5_weigh_73 rfl (lv_at hl 3 rfl) ?_
                refine va_get (D := G) (ci := 5) (v := .ref a_14) (C := RX5) (T := TX5) (N := 2) hx hb hts (mm_i inlX5) hown hK.1 hP 2 rfl rfl 1 (by decide) (mm_h hts mm_w136) (fun _ h9 => h9) rfl dX5_weigh_74 ?_
                refine lv_iload hx hb dX5_weigh_77 (lv_at hl 0 rfl) ?_
                refine lv_iconst (v := 1) hx hb dX5_weigh_79 (by decide) ?_
                refine lv_isub hx hb dX5_weigh_80 ?_
                refine lv_topi (fun v767 ev767 => ?_)
                have rv767 : mm_rg v767 0 6 := mm_sub ev767 q762 mm_k1 (by decide) (by decide)
                have tv767 := mm_subEc ev767 q762 mm_k1 (by decide) (k := (-1)) (by decide)
                refine va_lald hx hb hK.1 hP 3 2 rfl rfl (mm_in rv767 (by decide)) dX5_weigh_81 ?_
                refine lv_topl (fun v768 ev768 => ?_)
                refine lv_aload_n hx hb dX5_weigh_82 rfl (lv_at hl 3 rfl) ?_
                refine va_get (D := G) (ci := 5) (v := .ref a_1) (C := RX5) (T := TX5) (N := 2) hx hb hts (mm_i inlX5) hown hK.1 hP 2 rfl rfl 0 (by decide) (mm_h hts mm_w137) (fun _ h9 => h9) rfl dX5_weigh_83 ?_
                refine va_get (D := G) (ci := 10) (v := .ref a_2) (C := RX10) (T := TX10) (N := 2) hx hb hts (mm_i inlX10) hown hK.1 hP 0 rfl rfl 0 (by decide) (mm_h hts mm_w1501) (fun _ h9 => h9) rfl dX5_weigh_86 ?_
                refine va_get (D := G) (ci := 0) (v := .int i_2) (C := RX0) (T := TX0) (N := 18) hx hb hts (mm_i inlX0) hown hK.1 hP 1 rfl rfl 1 (by decide) (mm_h hts mm_w1502) (fun _ h9 => h9) rfl dX5_weigh_89 ?_
                obtain ⟨v769, ev769⟩ : ∃ y : Int64, y = i_2.toInt64 := ⟨_, rfl⟩
                refine lv_i2l hx hb dX5_weigh_92 ev769.symm ?_
                have rv769 : mm_rl v769 0 10 := mm_i2l ev769 h1
                refine lv_lmul hx hb dX5_weigh_93 ?_
                refine lv_topl (fun v770 ev770 => ?_)
                refine lv_ladd hx hb dX5_weigh_94 ?_
                refine lv_topl (fun v771 ev771 => ?_)
                refine va_last hx hb hK.1 hP hD hS 3 2 rfl rfl (mm_in q762 (by decide)) dX5_weigh_95 ?_
                clear hP hD hS
                clear H locs
                obtain ⟨g772, eg772⟩ : ∃ z : Nat → Int64, z = vp_updL z39_3_751 x39_5_750.toNatClampNeg v771 := ⟨_, rfl⟩
                rw [← eg772]
                intro H locs (hP : va_P G vwCl [(a_1, .inr (10, [.ref a_2, .ref a_3])), (a_2, .inr (0, [.int i_1, .int i_2, .int i_3, .int i_4, .int i_5, .int i_6, .int i_7, .int i_8, .ref a_4, .ref a_5, .ref a_6, .ref a_7, .ref a_8, .ref a_9, .ref a_10, .ref a_11, .ref a_12, .ref a_13])), (a_0, .inr (5, [.ref a_1, .ref a_14])), (a_14, .inl (cy 2, 8, .inr (.inl g772)))] H) (hD : va_D A [(a_1, .inr (10, [.ref a_2, .ref a_3])), (a_2, .inr (0, [.int i_1, .int i_2, .int i_3, .int i_4, .int i_5, .int i_6, .int i_7, .int i_8, .ref a_4, .ref a_5, .ref a_6, .ref a_7, .ref a_8, .ref a_9, .ref a_10, .ref a_11, .ref a_12, .ref a_13])), (a_0, .inr (5, [.ref a_1, .ref a_14])), (a_14, .inl (cy 2, 8, .inr (.inl g772)))]) hS
                obtain ⟨v773, ev773⟩ : ∃ y : Int32, y = x39_5_750 + (-1) := ⟨_, rfl⟩
                refine lv_iinc (v := v773) (lv' := [(5, .int v773), (4, .int x20_4_693), (2, .long x20_2_694), (0, .ref a_0), (1, .int i_0)]) hx hb dX5_weigh_96 hl (k := 0) rfl (by rw [ev773]; rfl) (by decide) rfl ?_
                clear hl
                clear ls
                intro ls hl
                have rv773 : mm_rg v773 0 6 := mm_add ev773 q762 mm_km1 (by decide) (by decide)
                have tv773 := mm_addEc ev773 q762 mm_km1 (by decide) (k := (-1)) (by decide)
                refine lv_goto (tgt := 39) hx hb dX5_weigh_99 (by decide) ?_
                exact ih39 v773 g772 (mm_wk rv773 (by decide)) (mm_md hm39 tv773 (by decide) (rv773).1 (by decide)) H locs hP hD hS ls (lv_sub hl [0, 1, 2, 3, 4] rfl)
          exact L39_751 _ v702 z20_3_695 (mm_wk rv702 (by decide)) (Nat.lt_succ_self _) H locs hP hD hS ls (lv_sub hl [0, 1, 2, 3, 4] rfl)
  exact L20_695 _ 0 1 g2 (mm_wk mm_k0 (by decide)) (Nat.lt_succ_self _) H locs hP hD hS ls (lv_sub hl [0, 1, 2, 3] rfl)

set_option maxHeartbeats 4000000 in
set_option maxRecDepth 100000 in
theorem K493_X11_chance (l : Launch) (G : va_G) (cy : Nat → ClassId) (sz : Nat) (a_0 : Nat) (i_0 : Int32) (i_1 : Int32) (i_2 : Int32) (i_3 : Int32) (i_4 : Int32) (a_1 : Nat) (a_2 : Nat) (a_3 : Nat) (a_4 : Nat) (a_5 : Nat) (a_6 : Nat) (a_7 : Nat) (a_8 : Nat) (a_9 : Nat) (a_10 : Nat) (a_11 : Nat) (a_12 : Nat) (a_13 : Nat) (i_5 : Int32) (i_6 : Int32) (i_7 : Int32) (i_8 : Int32) (i_9 : Int32) (i_10 : Int32) (i_11 : Int32) (i_12 : Int32) (a_14 : Nat) (a_15 : Nat) (a_16 : Nat) (a_17 : Nat) (a_18 : Nat) (a_19 : Nat) (a_20 : Nat) (a_21 : Nat) (a_22 : Nat) (a_23 : Nat) (f_0 : Nat → Int32) (f_1 : Nat → Int32) (f_2 : Nat → Int32) (f_3 : Nat → Int32) (f_4 : Nat → Int32) (a_24 : Nat) (a_25 : Nat) (a_26 : Nat) (a_27 : Nat) (a_28 : Nat) (i_13 : Int32) (i_14 : Int32) (i_15 : Int32) (f_5 : Nat → Int32) (a_29 : Nat) (a_30 : Nat) (i_16 : Int32) (i_17 : Int32) (i_18 : Int32) (f_6 : Nat → Int32) (a_31 : Nat) (a_32 : Nat) (i_19 : Int32) (i_20 : Int32) (i_21 : Int32) (f_7 : Nat → Int32) (a_33 : Nat) (f_8 : Nat → Int64) (h0 : mm_rg i_6 0 10) (h1 : mm_rg i_8 0 99) (h2 : mm_rg i_9 0 9) (h3 : mm_rg i_10 0 3) (h4 : mm_rg i_11 0 6) (h5 : mm_ar f_0 (-1) 4) (h6 : mm_ar f_1 0 99) (h7 : mm_ar f_2 0 8) (h8 : mm_ar f_3 0 9) (h9 : mm_ar f_4 0 9) (h10 : mm_rg i_15 (-2147483648) 210) (h11 : mm_ar f_5 0 9) (h12 : mm_rg i_18 (-2147483648) 210) (h13 : mm_ar f_6 0 9) (h14 : mm_rg i_21 (-2147483648) 210) (h15 : mm_ar f_7 0 9)  : mm_CI l yX11_chance (mm_ws yX11_chance cX11_chance 11 (some .int)) ({ frames := 5, cells := 0, slots := 0, locals := 134 } : Room) G cy sz [(a_0, .inr (11, [.ref a_1, .ref a_2, .ref a_3, .ref a_4, .ref a_5, .ref a_6, .ref a_7, .ref a_8, .ref a_9, .ref a_10, .ref a_11])), (a_3, .inr (10, [.ref a_12, .ref a_13])), (a_12, .inr (0, [.int i_5, .int i_6, .int i_7, .int i_8, .int i_9, .int i_10, .int i_11, .int i_12, .ref a_14, .ref a_15, .ref a_16, .ref a_17, .ref a_18, .ref a_19, .ref a_20, .ref a_21, .ref a_22, .ref a_23])), (a_14, .inl (cy 1, 9, .inl f_0)), (a_15, .inl (cy 1, 9, .inl f_1)), (a_18, .inl (cy 1, 6, .inl f_2)), (a_19, .inl (cy 1, 48, .inl f_3)), (a_20, .inl (cy 1, 30, .inl f_4)), (a_13, .inl (cy 5, 3, .inr (.inr (.inr (.inr (va_up (va_up (va_up (fun _ => none) 0 (some a_24)) 1 (some a_25)) 2 (some a_26))))))), (a_24, .inr (1, [.ref a_27, .ref a_28, .int i_13, .int i_14, .int i_15])), (a_27, .inl (cy 1, 2100, .inl f_5)), (a_25, .inr (1, [.ref a_29, .ref a_30, .int i_16, .int i_17, .int i_18])), (a_29, .inl (cy 1, 2100, .inl f_6)), (a_26, .inr (1, [.ref a_31, .ref a_32, .int i_19, .int i_20, .int i_21])), (a_31, .inl (cy 1, 2100, .inl f_7)), (a_11, .inr (5, [.ref a_3, .ref a_33])), (a_33, .inl (cy 2, 8, .inr (.inl f_8)))] [.ref a_0, .int i_0, .int i_1, .int i_2, .int i_3, .int i_4] (fun u : (Nat → Int64) => [(a_0, .inr (11, [.ref a_1, .ref a_2, .ref a_3, .ref a_4, .ref a_5, .ref a_6, .ref a_7, .ref a_8, .ref a_9, .ref a_10, .ref a_11])), (a_3, .inr (10, [.ref a_12, .ref a_13])), (a_12, .inr (0, [.int i_5, .int i_6, .int i_7, .int i_8, .int i_9, .int i_10, .int i_11, .int i_12, .ref a_14, .ref a_15, .ref a_16, .ref a_17, .ref a_18, .ref a_19, .ref a_20, .ref a_21, .ref a_22, .ref a_23])), (a_14, .inl (cy 1, 9, .inl f_0)), (a_15, .inl (cy 1, 9, .inl f_1)), (a_18, .inl (cy 1, 6, .inl f_2)), (a_19, .inl (cy 1, 48, .inl f_3)), (a_20, .inl (cy 1, 30, .inl f_4)), (a_13, .inl (cy 5, 3, .inr (.inr (.inr (.inr (va_up (va_up (va_up (fun _ => none) 0 (some a_24)) 1 (some a_25)) 2 (some a_26))))))), (a_24, .inr (1, [.ref a_27, .ref a_28, .int i_13, .int i_14, .int i_15])), (a_27, .inl (cy 1, 2100, .inl f_5)), (a_25, .inr (1, [.ref a_29, .ref a_30, .int i_16, .int i_17, .int i_18])), (a_29, .inl (cy 1, 2100, .inl f_6)), (a_26, .inr (1, [.ref a_31, .ref a_32, .int i_19, .int i_20, .int i_21])), (a_31, .inl (cy 1, 2100, .inl f_7)), (a_11, .inr (5, [.ref a_3, .ref a_33])), (a_33, .inl (cy 2, 8, .inr (.inl u)))]) (fun (r : Int32) (u : (Nat → Int64)) => True) 0 0 := by
  refine mm_begin (lv := [(0, .ref a_0), (1, .int i_0), (2, .int i_1), (3, .int i_2), (4, .int i_3), (5, .int i_4)]) (by decide) (Nat.le_of_ble_eq_true rfl) rfl ?_
  intro p e s m below meth c A ls R args Q H locs hRe hQ hAe hx hb hr hlocks hml hown hnm hts hsz hA hS hP hK hD hZ hl
  have hRf : R.frames = 5 := by rw [hRe]
  have hRl : R.locals = 134 := by rw [hRe]
  have hRc : R.cells = 0 := by rw [hRe]
  have hRs : R.slots = 0 := by rw [hRe]
  refine lv_aload_n hx hb dX11_chance_0 rfl (lv_at hl 0 rfl) ?_
  refine lv_iload_n hx hb dX11_chance_1 rfl (lv_at hl 1 rfl) ?_
  refine lv_iload_n hx hb dX11_chance_2 rfl (lv_at hl 2 rfl) ?_
  refine lv_iload_n hx hb dX11_chance_3 rfl (lv_at hl 3 rfl) ?_
  refine mm_finir (va_runV (As := [.int i_0, .int i_1, .int i_2]) (rest := []) ⟨hx, hb, hml, hown, hts⟩ (K371_X11_isReading l G cy H.size a_0 i_0 i_1 i_2 a_1 a_2 a_3 a_4 a_5 a_6 a_7 a_8 a_9 a_10 a_11 a_12 a_13 i_5 i_6 i_7 i_8 i_9 i_10 i_11 i_12 a_14 a_15 a_16 a_17 a_18 a_19 a_20 a_21 a_22 a_23 h3 h4) (cwV 3 hts (mm_gV mm_w825 mm_w826 mm_w827 mm_w2 mm_w828) rfl rfl rfl hd_X11_isReading ⟨by rw [hRf]; exact Nat.le_of_ble_eq_true rfl, by rw [hRl]; exact Nat.le_of_ble_eq_true rfl⟩) (mm_preV hK hZ hS hA hP hD [0, 1, 2] rfl rfl 0 rfl rfl rfl) rfl rfl hl.1 rfl (lv_room (Nat.le_of_ble_eq_true rfl)) dX11_chance_4 ⟨by rw [hRc]; exact Nat.le_of_ble_eq_true rfl, by rw [hRs]; exact Nat.le_of_ble_eq_true rfl⟩) hP hD hS hA [0, 1, 2] rfl (fun _ => rfl) ?_
  clear hP hD hS
  clear H locs
  intro v1 _u H locs hw hP hD hS
  rcases hw with rfl | ⟨rfl, w2, w3, w4⟩
  · refine lv_if_eq (tgt := 26) hx hb dX11_chance_7 (by decide) (fun c5 => ?_) (fun c5 => ?_)
    · refine lv_bipush (v := (-2)) hx hb dX11_chance_26 (by decide) ?_
      subst hAe
      rw [hQ]
      exact W.iret (v := (-2)) hx hb hr (fun t ht hW => ⟨⟨(-2), f_8, rfl, trivial, by rw [ht]; exact hP, hK.warm hW, hD⟩, hS.F ht⟩) hS.2.2 dX11_chance_28
    · have q6 := mm_neL (lo := 1) (mm_ne c5) mm_k0 mm_k0 (by decide) (by decide)
      exact mm_no q6 (by decide)
  · refine lv_if_eq (tgt := 26) hx hb dX11_chance_7 (by decide) (fun c7 => ?_) (fun c7 => ?_)
    · exact mm_eqN c7.symm mm_k0 mm_k1 (by decide)
    · refine lv_iload hx hb dX11_chance_10 (lv_at hl 4 rfl) ?_
      refine mm_finir (va_runS (As := [.int i_3]) (rest := []) ⟨hx, hb, hml, hown, hts⟩ (K490_X11_isNights l G cy H.size i_3 ) (va_cwS 1 hts (mm_gS mm_w1494 mm_w1495 mm_w2 mm_w1496) rfl rfl rfl hs_X11_isNights ⟨by rw [hRf]; exact Nat.le_of_ble_eq_true rfl, by rw [hRl]; exact Nat.le_of_ble_eq_true rfl⟩) (mm_preS hK hZ hS hA hP hD [] rfl rfl) rfl rfl hl.1 rfl (lv_room (Nat.le_of_ble_eq_true rfl)) dX11_chance_12 ⟨by rw [hRc]; exact Nat.le_of_ble_eq_true rfl, by rw [hRs]; exact Nat.le_of_ble_eq_true rfl⟩) hP hD hS hA [] rfl (fun _ => rfl) ?_
      clear hP hD hS
      clear H locs
      intro v8 _u H locs hw hP hD hS
      rcases hw with ⟨rfl, w9⟩ | ⟨rfl, w10⟩
      · refine lv_if_eq (tgt := 26) hx hb dX11_chance_15 (by decide) (fun c11 => ?_) (fun c11 => ?_)
        · refine lv_bipush (v := (-2)) hx hb dX11_chance_26 (by decide) ?_
          subst hAe
          rw [hQ]
          exact W.iret (v := (-2)) hx hb hr (fun t ht hW => ⟨⟨(-2), f_8, rfl, trivial, by rw [ht]; exact hP, hK.warm hW, hD⟩, hS.F ht⟩) hS.2.2 dX11_chance_28
        · have q12 := mm_neL (lo := 1) (mm_ne c11) mm_k0 mm_k0 (by decide) (by decide)
          exact mm_no q12 (by decide)
      · refine lv_if_eq (tgt := 26) hx hb dX11_chance_15 (by decide) (fun c13 => ?_) (fun c13 => ?_)
        · exact mm_eqN c13.symm mm_k0 mm_k1 (by decide)
        · refine lv_iload hx hb dX11_chance_18 (lv_at hl 5 rfl) ?_
          refine mm_finir (va_runS (As := [.int i_4]) (rest := []) ⟨hx, hb, hml, hown, hts⟩ (K345_X11_isPart l G cy H.size i_4 ) (va_cwS 1 hts (mm_gS mm_w581 mm_w582 mm_w2 mm_w583) rfl rfl rfl hs_X11_isPart ⟨by rw [hRf]; exact Nat.le_of_ble_eq_true rfl, by rw [hRl]; exact Nat.le_of_ble_eq_true rfl⟩) (mm_preS hK hZ hS hA hP hD [] rfl rfl) rfl rfl hl.1 rfl (lv_room (Nat.le_of_ble_eq_true rfl)) dX11_chance_20 ⟨by rw [hRc]; exact Nat.le_of_ble_eq_true rfl, by rw [hRs]; exact Nat.le_of_ble_eq_true rfl⟩) hP hD hS hA [] rfl (fun _ => rfl) ?_
          clear hP hD hS
          clear H locs
          intro v14 _u H locs hw hP hD hS
          rcases hw with rfl | ⟨rfl, w15⟩
          · refine lv_if_ne (tgt := 29) hx hb dX11_chance_23 (by decide) (fun c16 => ?_) (fun c16 => ?_)
            · have q17 := mm_neL (lo := 1) (mm_ne c16) mm_k0 mm_k0 (by decide) (by decide)
              exact mm_no q17 (by decide)
            · refine lv_bipush (v := (-2)) hx hb dX11_chance_26 (by decide) ?_
              subst hAe
              rw [hQ]
              exact W.iret (v := (-2)) hx hb hr (fun t ht hW => ⟨⟨(-2), f_8, rfl, trivial, by rw [ht]; exact hP, hK.warm hW, hD⟩, hS.F ht⟩) hS.2.2 dX11_chance_28
          · refine lv_if_ne (tgt := 29) hx hb dX11_chance_23 (by decide) (fun c18 => ?_) (fun c18 => ?_)
            · refine lv_aload_n hx hb dX11_chance_29 rfl (lv_at hl 0 rfl) ?_
              refine va_get (D := G) (ci := 11) (v := .ref a_11) (C := RX11) (T := TX11) (N := 11) hx hb hts (mm_i inlX11) hown hK.1 hP 0 rfl rfl 10 (by decide) (mm_h hts mm_w54) (fun _ h9 => h9) rfl dX11_chance_30 ?_
              refine lv_iload hx hb dX11_chance_33 (lv_at hl 4 rfl) ?_
              refine mm_finl (va_runV (As := [.int i_3]) (rest := []) ⟨hx, hb, hml, hown, hts⟩ (K492_X5_weigh l G cy H.size a_11 i_3 a_3 a_12 a_13 i_5 i_6 i_7 i_8 i_9 i_10 i_11 i_12 a_14 a_15 a_16 a_17 a_18 a_19 a_20 a_21 a_22 a_23 a_33 f_8 w10 h0) (cwV 1 hts (mm_gV mm_w1497 mm_w1498 mm_w1499 mm_w53 mm_w1500) rfl rfl rfl hd_X5_weigh ⟨by rw [hRf]; exact Nat.le_of_ble_eq_true rfl, by rw [hRl]; exact Nat.le_of_ble_eq_true rfl⟩) (mm_preV hK hZ hS hA hP hD [1, 2, 15, 16] rfl rfl 15 rfl rfl rfl) rfl rfl hl.1 rfl (lv_room (Nat.le_of_ble_eq_true rfl)) dX11_chance_35 ⟨by rw [hRc]; exact Nat.le_of_ble_eq_true rfl, by rw [hRs]; exact Nat.le_of_ble_eq_true rfl⟩) hP hD hS hA (fun u : (Nat → Int64) => [(a_0, .inr (11, [.ref a_1, .ref a_2, .ref a_3, .ref a_4, .ref a_5, .ref a_6, .ref a_7, .ref a_8, .ref a_9, .ref a_10, .ref a_11])), (a_3, .inr (10, [.ref a_12, .ref a_13])), (a_12, .inr (0, [.int i_5, .int i_6, .int i_7, .int i_8, .int i_9, .int i_10, .int i_11, .int i_12, .ref a_14, .ref a_15, .ref a_16, .ref a_17, .ref a_18, .ref a_19, .ref a_20, .ref a_21, .ref a_22, .ref a_23])), (a_14, .inl (cy 1, 9, .inl f_0)), (a_15, .inl (cy 1, 9, .inl f_1)), (a_18, .inl (cy 1, 6, .inl f_2)), (a_19, .inl (cy 1, 48, .inl f_3)), (a_20, .inl (cy 1, 30, .inl f_4)), (a_13, .inl (cy 5, 3, .inr (.inr (.inr (.inr (va_up (va_up (va_up (fun _ => none) 0 (some a_24)) 1 (some a_25)) 2 (some a_26))))))), (a_24, .inr (1, [.ref a_27, .ref a_28, .int i_13, .int i_14, .int i_15])), (a_27, .inl (cy 1, 2100, .inl f_5)), (a_25, .inr (1, [.ref a_29, .ref a_30, .int i_16, .int i_17, .int i_18])), (a_29, .inl (cy 1, 2100, .inl f_6)), (a_26, .inr (1, [.ref a_31, .ref a_32, .int i_19, .int i_20, .int i_21])), (a_31, .inl (cy 1, 2100, .inl f_7)), (a_11, .inr (5, [.ref a_3, .ref a_33])), (a_33, .inl (cy 2, 8, .inr (.inl u)))]) [1, 2, 15, 16] [0, 3, 4, 5, 6, 7, 8, 9, 10, 11, 12, 13, 14] (n := 17) (fun _ => rfl) (by decide +kernel) (by decide +kernel) rfl (fun _ => rfl) (wr := [(a_0, .inr (11, [.ref a_1, .ref a_2, .ref a_3, .ref a_4, .ref a_5, .ref a_6, .ref a_7, .ref a_8, .ref a_9, .ref a_10, .ref a_11])), (a_14, .inl (cy 1, 9, .inl f_0)), (a_15, .inl (cy 1, 9, .inl f_1)), (a_18, .inl (cy 1, 6, .inl f_2)), (a_19, .inl (cy 1, 48, .inl f_3)), (a_20, .inl (cy 1, 30, .inl f_4)), (a_13, .inl (cy 5, 3, .inr (.inr (.inr (.inr (va_up (va_up (va_up (fun _ => none) 0 (some a_24)) 1 (some a_25)) 2 (some a_26))))))), (a_24, .inr (1, [.ref a_27, .ref a_28, .int i_13, .int i_14, .int i_15])), (a_27, .inl (cy 1, 2100, .inl f_5)), (a_25, .inr (1, [.ref a_29, .ref a_30, .int i_16, .int i_17, .int i_18])), (a_29, .inl (cy 1, 2100, .inl f_6)), (a_26, .inr (1, [.ref a_31, .ref a_32, .int i_19, .int i_20, .int i_21])), (a_31, .inl (cy 1, 2100, .inl f_7))]) rfl (fun _ => rfl) (fun _ => rfl) ?_
              clear hP hD hS
              clear H locs
              intro v20 n19 H locs hw (hP : va_P G vwCl [(a_0, .inr (11, [.ref a_1, .ref a_2, .ref a_3, .ref a_4, .ref a_5, .ref a_6, .ref a_7, .ref a_8, .ref a_9, .ref a_10, .ref a_11])), (a_3, .inr (10, [.ref a_12, .ref a_13])), (a_12, .inr (0, [.int i_5, .int i_6, .int i_7, .int i_8, .int i_9, .int i_10, .int i_11, .int i_12, .ref a_14, .ref a_15, .ref a_16, .ref a_17, .ref a_18, .ref a_19, .ref a_20, .ref a_21, .ref a_22, .ref a_23])), (a_14, .inl (cy 1, 9, .inl f_0)), (a_15, .inl (cy 1, 9, .inl f_1)), (a_18, .inl (cy 1, 6, .inl f_2)), (a_19, .inl (cy 1, 48, .inl f_3)), (a_20, .inl (cy 1, 30, .inl f_4)), (a_13, .inl (cy 5, 3, .inr (.inr (.inr (.inr (va_up (va_up (va_up (fun _ => none) 0 (some a_24)) 1 (some a_25)) 2 (some a_26))))))), (a_24, .inr (1, [.ref a_27, .ref a_28, .int i_13, .int i_14, .int i_15])), (a_27, .inl (cy 1, 2100, .inl f_5)), (a_25, .inr (1, [.ref a_29, .ref a_30, .int i_16, .int i_17, .int i_18])), (a_29, .inl (cy 1, 2100, .inl f_6)), (a_26, .inr (1, [.ref a_31, .ref a_32, .int i_19, .int i_20, .int i_21])), (a_31, .inl (cy 1, 2100, .inl f_7)), (a_11, .inr (5, [.ref a_3, .ref a_33])), (a_33, .inl (cy 2, 8, .inr (.inl n19)))] H) (hD : va_D A [(a_0, .inr (11, [.ref a_1, .ref a_2, .ref a_3, .ref a_4, .ref a_5, .ref a_6, .ref a_7, .ref a_8, .ref a_9, .ref a_10, .ref a_11])), (a_3, .inr (10, [.ref a_12, .ref a_13])), (a_12, .inr (0, [.int i_5, .int i_6, .int i_7, .int i_8, .int i_9, .int i_10, .int i_11, .int i_12, .ref a_14, .ref a_15, .ref a_16, .ref a_17, .ref a_18, .ref a_19, .ref a_20, .ref a_21, .ref a_22, .ref a_23])), (a_14, .inl (cy 1, 9, .inl f_0)), (a_15, .inl (cy 1, 9, .inl f_1)), (a_18, .inl (cy 1, 6, .inl f_2)), (a_19, .inl (cy 1, 48, .inl f_3)), (a_20, .inl (cy 1, 30, .inl f_4)), (a_13, .inl (cy 5, 3, .inr (.inr (.inr (.inr (va_up (va_up (va_up (fun _ => none) 0 (some a_24)) 1 (some a_25)) 2 (some a_26))))))), (a_24, .inr (1, [.ref a_27, .ref a_28, .int i_13, .int i_14, .int i_15])), (a_27, .inl (cy 1, 2100, .inl f_5)), (a_25, .inr (1, [.ref a_29, .ref a_30, .int i_16, .int i_17, .int i_18])), (a_29, .inl (cy 1, 2100, .inl f_6)), (a_26, .inr (1, [.ref a_31, .ref a_32, .int i_19, .int i_20, .int i_21])), (a_31, .inl (cy 1, 2100, .inl f_7)), (a_11, .inr (5, [.ref a_3, .ref a_33])), (a_33, .inl (cy 2, 8, .inr (.inl n19)))]) hS
              refine lv_lstore (lv' := [(6, .long v20), (0, .ref a_0), (1, .int i_0), (2, .int i_1), (3, .int i_2), (4, .int i_3), (5, .int i_4)]) hx hb dX11_chance_38 hl (by decide) rfl ?_
              clear hl
              clear ls
              intro ls hl
              refine lv_lconst (v := 0) hx hb dX11_chance_40 (by decide) ?_
              refine lv_lstore (lv' := [(8, .long 0), (6, .long v20), (0, .ref a_0), (1, .int i_0), (2, .int i_1), (3, .int i_2), (4, .int i_3), (5, .int i_4)]) hx hb dX11_chance_41 hl (by decide) rfl ?_
              clear hl
              clear ls
              intro ls hl
              refine lv_iconst (v := 0) hx hb dX11_chance_43 (by decide) ?_
              refine lv_istore (lv' := [(10, .int 0), (8, .long 0), (6, .long v20), (0, .ref a_0), (1, .int i_0), (2, .int i_1), (3, .int i_2), (4, .int i_3), (5, .int i_4)]) hx hb dX11_chance_44 hl (by decide) rfl ?_
              clear hl
              clear ls
              intro ls hl
              have L46_154 : ∀ (n : Nat) (x46_10_153 : Int32) (x46_8_154 : Int64), mm_rg x46_10_153 0 8 → (8 - x46_10_153.toInt).toNat < n → ∀ (H : Heap) (locs : List Loc), va_P G vwCl [(a_0, .inr (11, [.ref a_1, .ref a_2, .ref a_3, .ref a_4, .ref a_5, .ref a_6, .ref a_7, .ref a_8, .ref a_9, .ref a_10, .ref a_11])), (a_3, .inr (10, [.ref a_12, .ref a_13])), (a_12, .inr (0, [.int i_5, .int i_6, .int i_7, .int i_8, .int i_9, .int i_10, .int i_11, .int i_12, .ref a_14, .ref a_15, .ref a_16, .ref a_17, .ref a_18, .ref a_19, .ref a_20, .ref a_21, .ref a_22, .ref a_23])), (a_14, .inl (cy 1, 9, .inl f_0)), (a_15, .inl (cy 1, 9, .inl f_1)), (a_18, .inl (cy 1, 6, .inl f_2)), (a_19, .inl (cy 1, 48, .inl f_3)), (a_20, .inl (cy 1, 30, .inl f_4)), (a_13, .inl (cy 5, 3, .inr (.inr (.inr (.inr (va_up (va_up (va_up (fun _ => none) 0 (some a_24)) 1 (some a_25)) 2 (some a_26))))))), (a_24, .inr (1, [.ref a_27, .ref a_28, .int i_13, .int i_14, .int i_15])), (a_27, .inl (cy 1, 2100, .inl f_5)), (a_25, .inr (1, [.ref a_29, .ref a_30, .int i_16, .int i_17, .int i_18])), (a_29, .inl (cy 1, 2100, .inl f_6)), (a_26, .inr (1, [.ref a_31, .ref a_32, .int i_19, .int i_20, .int i_21])), (a_31, .inl (cy 1, 2100, .inl f_7)), (a_11, .inr (5, [.ref a_3, .ref a_33])), (a_33, .inl (cy 2, 8, .inr (.inl n19)))] H → va_D A [(a_0, .inr (11, [.ref a_1, .ref a_2, .ref a_3, .ref a_4, .ref a_5, .ref a_6, .ref a_7, .ref a_8, .ref a_9, .ref a_10, .ref a_11])), (a_3, .inr (10, [.ref a_12, .ref a_13])), (a_12, .inr (0, [.int i_5, .int i_6, .int i_7, .int i_8, .int i_9, .int i_10, .int i_11, .int i_12, .ref a_14, .ref a_15, .ref a_16, .ref a_17, .ref a_18, .ref a_19, .ref a_20, .ref a_21, .ref a_22, .ref a_23])), (a_14, .inl (cy 1, 9, .inl f_0)), (a_15, .inl (cy 1, 9, .inl f_1)), (a_18, .inl (cy 1, 6, .inl f_2)), (a_19, .inl (cy 1, 48, .inl f_3)), (a_20, .inl (cy 1, 30, .inl f_4)), (a_13, .inl (cy 5, 3, .inr (.inr (.inr (.inr (va_up (va_up (va_up (fun _ => none) 0 (some a_24)) 1 (some a_25)) 2 (some a_26))))))), (a_24, .inr (1, [.ref a_27, .ref a_28, .int i_13, .int i_14, .int i_15])), (a_27, .inl (cy 1, 2100, .inl f_5)), (a_25, .inr (1, [.ref a_29, .ref a_30, .int i_16, .int i_17, .int i_18])), (a_29, .inl (cy 1, 2100, .inl f_6)), (a_26, .inr (1, [.ref a_31, .ref a_32, .int i_19, .int i_20, .int i_21])), (a_31, .inl (cy 1, 2100, .inl f_7)), (a_11, .inr (5, [.ref a_3, .ref a_33])), (a_33, .inl (cy 2, 8, .inr (.inl n19)))] → va_S A s.heap H locs → ∀ (ls : Array Slot), lv_has ls 11 [(10, .int x46_10_153), (8, .long x46_8_154), (6, .long v20), (0, .ref a_0), (1, .int i_0), (2, .int i_1), (3, .int i_2), (4, .int i_3), (5, .int i_4)] → W p l e R s m args below meth c H locs 0 0 Q (F0 m 46 ls []) := by
                intro n
                induction n with
                | zero => intro x46_10_153 x46_8_154 rx46_10_153 hm; exact absurd hm (Nat.not_lt_zero _)
                | succ n ih46 =>
                  intro x46_10_153 x46_8_154 rx46_10_153 hm46 H locs hP hD hS ls hl
                  refine lv_iload hx hb dX11_chance_46 (lv_at hl 0 rfl) ?_
                  refine lv_iload hx hb dX11_chance_48 (lv_at hl 7 rfl) ?_
                  refine lv_icmp_gt (tgt := 90) hx hb dX11_chance_50 (by decide) (fun c156 => ?_) (fun c156 => ?_)
                  · have q157 := mm_ltR (lo := 1) (mm_lt c156) w10 rx46_10_153 (by decide)
                    refine lv_lload hx hb dX11_chance_90 (lv_at hl 1 rfl) ?_
                    refine lv_lload hx hb dX11_chance_92 (lv_at hl 2 rfl) ?_
                    refine lv_iload hx hb dX11_chance_94 (lv_at hl 8 rfl) ?_
                    refine mm_finlr (va_runS (As := [.long x46_8_154, .long v20, .int i_4]) (rest := []) ⟨hx, hb, hml, hown, hts⟩ (K413_X11_inLowestTerms l G cy H.size x46_8_154 v20 i_4 w15) (va_cwS 3 hts (mm_gS mm_w1033 mm_w1034 mm_w2 mm_w1035) rfl rfl rfl hs_X11_inLowestTerms ⟨by rw [hRf]; exact Nat.le_of_ble_eq_true rfl, by rw [hRl]; exact Nat.le_of_ble_eq_true rfl⟩) (mm_preS hK hZ hS hA hP hD [] rfl rfl) rfl rfl hl.1 rfl (lv_room (Nat.le_of_ble_eq_true rfl)) dX11_chance_96 ⟨by rw [hRc]; exact Nat.le_of_ble_eq_true rfl, by rw [hRs]; exact Nat.le_of_ble_eq_true rfl⟩) hP hD hS hA [] rfl (fun _ => rfl) ?_
                    clear hP hD hS
                    clear H locs
                    intro v158 _u H locs hw hP hD hS
                    obtain ⟨v159, ev159⟩ : ∃ y : Int32, y = v158.toInt32 := ⟨_, rfl⟩
                    refine lv_l2i hx hb dX11_chance_99 ev159.symm ?_
                    subst hAe
                    rw [hQ]
                    exact W.iret (v := v159) hx hb hr (fun t ht hW => ⟨⟨v159, n19, rfl, trivial, by rw [ht]; exact hP, hK.warm hW, hD⟩, hS.F ht⟩) hS.2.2 dX11_chance_100
                  · have q160 := mm_leL (mm_nlt c156) rx46_10_153 w10
                    refine lv_aload_n hx hb dX11_chance_53 rfl (lv_at hl 3 rfl) ?_
                    refine va_get (D := G) (ci := 11) (v := .ref a_3) (C := RX11) (T := TX11) (N := 11) hx hb hts (mm_i inlX11) hown hK.1 hP 0 rfl rfl 2 (by decide) (mm_h hts mm_w24) (fun _ h9 => h9) rfl dX11_chance_54 ?_
                    refine lv_iload_n hx hb dX11_chance_57 rfl (lv_at hl 4 rfl) ?_
                    refine lv_iload_n hx hb dX11_chance_58 rfl (lv_at hl 5 rfl) ?_
                    refine lv_iload hx hb dX11_chance_59 (lv_at hl 0 rfl) ?_
                    refine lv_iadd hx hb dX11_chance_61 ?_
                    refine lv_topi (fun v161 ev161 => ?_)
                    have rv161 : mm_rg v161 0 1000000007 := mm_add ev161 w3 q160 (by decide) (by decide)
                    have tv161 := mm_addE ev161 w3 q160 (by decide)
                    refine lv_iload_n hx hb dX11_chance_62 rfl (lv_at hl 6 rfl) ?_
                    refine mm_finir (va_runV (As := [.int i_0, .int v161, .int i_2]) (rest := []) ⟨hx, hb, hml, hown, hts⟩ (K411_X10_gains l G cy H.size a_3 i_0 v161 i_2 a_12 a_13 i_5 i_6 i_7 i_8 i_9 i_10 i_11 i_12 a_14 a_15 a_16 a_17 a_18 a_19 a_20 a_21 a_22 a_23 f_0 f_1 f_2 f_3 f_4 a_24 a_25 a_26 a_27 a_28 i_13 i_14 i_15 f_5 a_29 a_30 i_16 i_17 i_18 f_6 a_31 a_32 i_19 i_20 i_21 f_7 w2 (mm_wk rv161 (by decide)) w4 h1 h2 h5 h6 h7 h8 h9 h10 h11 h12 h13 h14 h15) (cwV 3 hts (mm_gV mm_w1021 mm_w1022 mm_w1023 mm_w23 mm_w1024) rfl rfl rfl hd_X10_gains ⟨by rw [hRf]; exact Nat.le_of_ble_eq_true rfl, by rw [hRl]; exact Nat.le_of_ble_eq_true rfl⟩) (mm_preV hK hZ hS hA hP hD [1, 2, 3, 4, 5, 6, 7, 8, 9, 10, 11, 12, 13, 14] rfl rfl 1 rfl rfl rfl) rfl rfl hl.1 rfl (lv_room (Nat.le_of_ble_eq_true rfl)) dX11_chance_63 ⟨by rw [hRc]; exact Nat.le_of_ble_eq_true rfl, by rw [hRs]; exact Nat.le_of_ble_eq_true rfl⟩) hP hD hS hA [1, 2, 3, 4, 5, 6, 7, 8, 9, 10, 11, 12, 13, 14] rfl (fun _ => rfl) ?_
                    clear hP hD hS
                    clear H locs
                    intro v162 _u H locs hw hP hD hS
                    rcases hw with rfl | rfl
                    · refine lv_if_eq (tgt := 84) hx hb dX11_chance_66 (by decide) (fun c163 => ?_) (fun c163 => ?_)
                      · obtain ⟨v164, ev164⟩ : ∃ y : Int32, y = x46_10_153 + 1 := ⟨_, rfl⟩
                        refine lv_iinc (v := v164) (lv' := [(10, .int v164), (8, .long x46_8_154), (6, .long v20), (0, .ref a_0), (1, .int i_0), (2, .int i_1), (3, .int i_2), (4, .int i_3), (5, .int i_4)]) hx hb dX11_chance_84 hl (k := 0) rfl (by rw [ev164]; rfl) (by decide) rfl ?_
                        clear hl
                        clear ls
                        intro ls hl
                        have rv164 : mm_rg v164 1 8 := mm_add ev164 q160 mm_k1 (by decide) (by decide)
                        have tv164 := mm_addEc ev164 q160 mm_k1 (by decide) (k := 1) (by decide)
                        refine lv_goto (tgt := 46) hx hb dX11_chance_87 (by decide) ?_
                        exact ih46 v164 x46_8_154 (mm_wk rv164 (by decide)) (mm_mu hm46 tv164 (by decide) (rv164).2 (by decide)) H locs hP hD hS ls (lv_sub hl [0, 1, 2, 3, 4, 5, 6, 7, 8] rfl)
                      · have q165 := mm_neL (lo := 1) (mm_ne c163) mm_k0 mm_k0 (by decide) (by decide)
                        exact mm_no q165 (by decide)
                    · refine lv_if_eq (tgt := 84) hx hb dX11_chance_66 (by decide) (fun c166 => ?_) (fun c166 => ?_)
                      · exact mm_eqN c166.symm mm_k0 mm_k1 (by decide)
                      · refine lv_lload hx hb dX11_chance_69 (lv_at hl 1 rfl) ?_
                        refine lv_aload_n hx hb dX11_chance_71 rfl (lv_at hl 3 rfl) ?_
                        refine va_get (D := G) (ci := 11) (v := .ref a_11) (C := RX11) (T := TX11) (N := 11) hx hb hts (mm_i inlX11) hown hK.1 hP 0 rfl rfl 10 (by decide) (mm_h hts mm_w54) (fun _ h9 => h9) rfl dX11_chance_72 ?_
                        refine va_get (D := G) (ci := 5) (v := .ref a_33) (C := RX5) (T := TX5) (N := 2) hx hb hts (mm_i inlX5) hown hK.1 hP 15 rfl rfl 1 (by decide) (mm_h hts mm_w1493) (fun _ h9 => h9) rfl dX11_chance_75 ?_
                        refine lv_iload hx hb dX11_chance_78 (lv_at hl 0 rfl) ?_
                        refine va_lald hx hb hK.1 hP 16 2 rfl rfl (mm_in q160 (by decide)) dX11_chance_80 ?_
                        refine lv_topl (fun v167 ev167 => ?_)
                        refine lv_ladd hx hb dX11_chance_81 ?_
                        refine lv_topl (fun v168 ev168 => ?_)
                        refine lv_lstore (lv' := [(8, .long v168), (10, .int x46_10_153), (6, .long v20), (0, .ref a_0), (1, .int i_0), (2, .int i_1), (3, .int i_2), (4, .int i_3), (5, .int i_4)]) hx hb dX11_chance_82 hl (by decide) rfl ?_
                        clear hl
                        clear ls
                        intro ls hl
                        obtain ⟨v169, ev169⟩ : ∃ y : Int32, y = x46_10_153 + 1 := ⟨_, rfl⟩
                        refine lv_iinc (v := v169) (lv' := [(10, .int v169), (8, .long v168), (6, .long v20), (0, .ref a_0), (1, .int i_0), (2, .int i_1), (3, .int i_2), (4, .int i_3), (5, .int i_4)]) hx hb dX11_chance_84 hl (k := 1) rfl (by rw [ev169]; rfl) (by decide) rfl ?_
                        clear hl
                        clear ls
                        intro ls hl
                        have rv169 : mm_rg v169 1 8 := mm_add ev169 q160 mm_k1 (by decide) (by decide)
                        have tv169 := mm_addEc ev169 q160 mm_k1 (by decide) (k := 1) (by decide)
                        refine lv_goto (tgt := 46) hx hb dX11_chance_87 (by decide) ?_
                        exact ih46 v169 v168 (mm_wk rv169 (by decide)) (mm_mu hm46 tv169 (by decide) (rv169).2 (by decide)) H locs hP hD hS ls (lv_sub hl [0, 1, 2, 3, 4, 5, 6, 7, 8] rfl)
              exact L46_154 _ 0 0 (mm_wk mm_k0 (by decide)) (Nat.lt_succ_self _) H locs hP hD hS ls (lv_sub hl [0, 1, 2, 3, 4, 5, 6, 7, 8] rfl)
            · exact mm_eqN c18.symm mm_k0 mm_k1 (by decide)

set_option maxHeartbeats 4000000 in
set_option maxRecDepth 100000 in
theorem K494_X11_mean (l : Launch) (G : va_G) (cy : Nat → ClassId) (sz : Nat) (a_0 : Nat) (i_0 : Int32) (i_1 : Int32) (i_2 : Int32) (i_3 : Int32) (i_4 : Int32) (a_1 : Nat) (a_2 : Nat) (a_3 : Nat) (a_4 : Nat) (a_5 : Nat) (a_6 : Nat) (a_7 : Nat) (a_8 : Nat) (a_9 : Nat) (a_10 : Nat) (a_11 : Nat) (a_12 : Nat) (a_13 : Nat) (i_5 : Int32) (i_6 : Int32) (i_7 : Int32) (i_8 : Int32) (i_9 : Int32) (i_10 : Int32) (i_11 : Int32) (i_12 : Int32) (a_14 : Nat) (a_15 : Nat) (a_16 : Nat) (a_17 : Nat) (a_18 : Nat) (a_19 : Nat) (a_20 : Nat) (a_21 : Nat) (a_22 : Nat) (a_23 : Nat) (f_0 : Nat → Int32) (f_1 : Nat → Int32) (f_2 : Nat → Int32) (f_3 : Nat → Int32) (f_4 : Nat → Int32) (a_24 : Nat) (a_25 : Nat) (a_26 : Nat) (a_27 : Nat) (a_28 : Nat) (i_13 : Int32) (i_14 : Int32) (i_15 : Int32) (f_5 : Nat → Int32) (a_29 : Nat) (a_30 : Nat) (i_16 : Int32) (i_17 : Int32) (i_18 : Int32) (f_6 : Nat → Int32) (a_31 : Nat) (a_32 : Nat) (i_19 : Int32) (i_20 : Int32) (i_21 : Int32) (f_7 : Nat → Int32) (a_33 : Nat) (f_8 : Nat → Int64) (h0 : mm_rg i_6 0 10) (h1 : mm_rg i_8 0 99) (h2 : mm_rg i_9 0 9) (h3 : mm_rg i_10 0 3) (h4 : mm_rg i_11 0 6) (h5 : mm_ar f_0 (-1) 4) (h6 : mm_ar f_1 0 99) (h7 : mm_ar f_2 0 8) (h8 : mm_ar f_3 0 9) (h9 : mm_ar f_4 0 9) (h10 : mm_rg i_15 (-2147483648) 210) (h11 : mm_ar f_5 0 9) (h12 : mm_rg i_18 (-2147483648) 210) (h13 : mm_ar f_6 0 9) (h14 : mm_rg i_21 (-2147483648) 210) (h15 : mm_ar f_7 0 9)  : mm_CL l yX11_mean (mm_ws yX11_mean cX11_mean 11 (some .long)) ({ frames := 4, cells := 0, slots := 0, locals := 111 } : Room) G cy sz [(a_0, .inr (11, [.ref a_1, .ref a_2, .ref a_3, .ref a_4, .ref a_5, .ref a_6, .ref a_7, .ref a_8, .ref a_9, .ref a_10, .ref a_11])), (a_3, .inr (10, [.ref a_12, .ref a_13])), (a_12, .inr (0, [.int i_5, .int i_6, .int i_7, .int i_8, .int i_9, .int i_10, .int i_11, .int i_12, .ref a_14, .ref a_15, .ref a_16, .ref a_17, .ref a_18, .ref a_19, .ref a_20, .ref a_21, .ref a_22, .ref a_23])), (a_14, .inl (cy 1, 9, .inl f_0)), (a_15, .inl (cy 1, 9, .inl f_1)), (a_18, .inl (cy 1, 6, .inl f_2)), (a_19, .inl (cy 1, 48, .inl f_3)), (a_20, .inl (cy 1, 30, .inl f_4)), (a_13, .inl (cy 5, 3, .inr (.inr (.inr (.inr (va_up (va_up (va_up (fun _ => none) 0 (some a_24)) 1 (some a_25)) 2 (some a_26))))))), (a_24, .inr (1, [.ref a_27, .ref a_28, .int i_13, .int i_14, .int i_15])), (a_27, .inl (cy 1, 2100, .inl f_5)), (a_25, .inr (1, [.ref a_29, .ref a_30, .int i_16, .int i_17, .int i_18])), (a_29, .inl (cy 1, 2100, .inl f_6)), (a_26, .inr (1, [.ref a_31, .ref a_32, .int i_19, .int i_20, .int i_21])), (a_31, .inl (cy 1, 2100, .inl f_7)), (a_11, .inr (5, [.ref a_3, .ref a_33])), (a_33, .inl (cy 2, 8, .inr (.inl f_8)))] [.ref a_0, .int i_0, .int i_1, .int i_2, .int i_3, .int i_4] (fun u : (Nat → Int64) => [(a_0, .inr (11, [.ref a_1, .ref a_2, .ref a_3, .ref a_4, .ref a_5, .ref a_6, .ref a_7, .ref a_8, .ref a_9, .ref a_10, .ref a_11])), (a_3, .inr (10, [.ref a_12, .ref a_13])), (a_12, .inr (0, [.int i_5, .int i_6, .int i_7, .int i_8, .int i_9, .int i_10, .int i_11, .int i_12, .ref a_14, .ref a_15, .ref a_16, .ref a_17, .ref a_18, .ref a_19, .ref a_20, .ref a_21, .ref a_22, .ref a_23])), (a_14, .inl (cy 1, 9, .inl f_0)), (a_15, .inl (cy 1, 9, .inl f_1)), (a_18, .inl (cy 1, 6, .inl f_2)), (a_19, .inl (cy 1, 48, .inl f_3)), (a_20, .inl (cy 1, 30, .inl f_4)), (a_13, .inl (cy 5, 3, .inr (.inr (.inr (.inr (va_up (va_up (va_up (fun _ => none) 0 (some a_24)) 1 (some a_25)) 2 (some a_26))))))), (a_24, .inr (1, [.ref a_27, .ref a_28, .int i_13, .int i_14, .int i_15])), (a_27, .inl (cy 1, 2100, .inl f_5)), (a_25, .inr (1, [.ref a_29, .ref a_30, .int i_16, .int i_17, .int i_18])), (a_29, .inl (cy 1, 2100, .inl f_6)), (a_26, .inr (1, [.ref a_31, .ref a_32, .int i_19, .int i_20, .int i_21])), (a_31, .inl (cy 1, 2100, .inl f_7)), (a_11, .inr (5, [.ref a_3, .ref a_33])), (a_33, .inl (cy 2, 8, .inr (.inl u)))]) (fun (r : Int64) (u : (Nat → Int64)) => True) 0 0 := by
  refine mm_begin (lv := [(0, .ref a_0), (1, .int i_0), (2, .int i_1), (3, .int i_2), (4, .int i_3), (5, .int i_4)]) (by decide) (Nat.le_of_ble_eq_true rfl) rfl ?_
  intro p e s m below meth c A ls R args Q H locs hRe hQ hAe hx hb hr hlocks hml hown hnm hts hsz hA hS hP hK hD hZ hl
  have hRf : R.frames = 4 := by rw [hRe]
  have hRl : R.locals = 111 := by rw [hRe]
  have hRc : R.cells = 0 := by rw [hRe]
  have hRs : R.slots = 0 := by rw [hRe]
  refine lv_aload_n hx hb dX11_mean_0 rfl (lv_at hl 0 rfl) ?_
  refine lv_iload_n hx hb dX11_mean_1 rfl (lv_at hl 1 rfl) ?_
  refine lv_iload_n hx hb dX11_mean_2 rfl (lv_at hl 2 rfl) ?_
  refine lv_iload_n hx hb dX11_mean_3 rfl (lv_at hl 3 rfl) ?_
  refine mm_finir (va_runV (As := [.int i_0, .int i_1, .int i_2]) (rest := []) ⟨hx, hb, hml, hown, hts⟩ (K371_X11_isReading l G cy H.size a_0 i_0 i_1 i_2 a_1 a_2 a_3 a_4 a_5 a_6 a_7 a_8 a_9 a_10 a_11 a_12 a_13 i_5 i_6 i_7 i_8 i_9 i_10 i_11 i_12 a_14 a_15 a_16 a_17 a_18 a_19 a_20 a_21 a_22 a_23 h3 h4) (cwV 3 hts (mm_gV mm_w825 mm_w826 mm_w827 mm_w2 mm_w828) rfl rfl rfl hd_X11_isReading ⟨by rw [hRf]; exact Nat.le_of_ble_eq_true rfl, by rw [hRl]; exact Nat.le_of_ble_eq_true rfl⟩) (mm_preV hK hZ hS hA hP hD [0, 1, 2] rfl rfl 0 rfl rfl rfl) rfl rfl hl.1 rfl (lv_room (Nat.le_of_ble_eq_true rfl)) dX11_mean_4 ⟨by rw [hRc]; exact Nat.le_of_ble_eq_true rfl, by rw [hRs]; exact Nat.le_of_ble_eq_true rfl⟩) hP hD hS hA [0, 1, 2] rfl (fun _ => rfl) ?_
  clear hP hD hS
  clear H locs
  intro v1 _u H locs hw hP hD hS
  rcases hw with rfl | ⟨rfl, w2, w3, w4⟩
  · refine lv_if_eq (tgt := 26) hx hb dX11_mean_7 (by decide) (fun c5 => ?_) (fun c5 => ?_)
    · refine lv_ldc2 (v := (-2)) hx hb hown (mm_h hts mm_w1530) dX11_mean_26 ?_
      subst hAe
      rw [hQ]
      exact W.lret (v := (-2)) hx hb hr (fun t ht hW => ⟨⟨(-2), f_8, rfl, trivial, by rw [ht]; exact hP, hK.warm hW, hD⟩, hS.F ht⟩) hS.2.2 dX11_mean_29
    · have q6 := mm_neL (lo := 1) (mm_ne c5) mm_k0 mm_k0 (by decide) (by decide)
      exact mm_no q6 (by decide)
  · refine lv_if_eq (tgt := 26) hx hb dX11_mean_7 (by decide) (fun c7 => ?_) (fun c7 => ?_)
    · exact mm_eqN c7.symm mm_k0 mm_k1 (by decide)
    · refine lv_iload hx hb dX11_mean_10 (lv_at hl 4 rfl) ?_
      refine mm_finir (va_runS (As := [.int i_3]) (rest := []) ⟨hx, hb, hml, hown, hts⟩ (K490_X11_isNights l G cy H.size i_3 ) (va_cwS 1 hts (mm_gS mm_w1494 mm_w1495 mm_w2 mm_w1496) rfl rfl rfl hs_X11_isNights ⟨by rw [hRf]; exact Nat.le_of_ble_eq_true rfl, by rw [hRl]; exact Nat.le_of_ble_eq_true rfl⟩) (mm_preS hK hZ hS hA hP hD [] rfl rfl) rfl rfl hl.1 rfl (lv_room (Nat.le_of_ble_eq_true rfl)) dX11_mean_12 ⟨by rw [hRc]; exact Nat.le_of_ble_eq_true rfl, by rw [hRs]; exact Nat.le_of_ble_eq_true rfl⟩) hP hD hS hA [] rfl (fun _ => rfl) ?_
      clear hP hD hS
      clear H locs
      intro v8 _u H locs hw hP hD hS
      rcases hw with ⟨rfl, w9⟩ | ⟨rfl, w10⟩
      · refine lv_if_eq (tgt := 26) hx hb dX11_mean_15 (by decide) (fun c11 => ?_) (fun c11 => ?_)
        · refine lv_ldc2 (v := (-2)) hx hb hown (mm_h hts mm_w1530) dX11_mean_26 ?_
          subst hAe
          rw [hQ]
          exact W.lret (v := (-2)) hx hb hr (fun t ht hW => ⟨⟨(-2), f_8, rfl, trivial, by rw [ht]; exact hP, hK.warm hW, hD⟩, hS.F ht⟩) hS.2.2 dX11_mean_29
        · have q12 := mm_neL (lo := 1) (mm_ne c11) mm_k0 mm_k0 (by decide) (by decide)
          exact mm_no q12 (by decide)
      · refine lv_if_eq (tgt := 26) hx hb dX11_mean_15 (by decide) (fun c13 => ?_) (fun c13 => ?_)
        · exact mm_eqN c13.symm mm_k0 mm_k1 (by decide)
        · refine lv_iload hx hb dX11_mean_18 (lv_at hl 5 rfl) ?_
          refine mm_finir (va_runS (As := [.int i_4]) (rest := []) ⟨hx, hb, hml, hown, hts⟩ (K345_X11_isPart l G cy H.size i_4 ) (va_cwS 1 hts (mm_gS mm_w581 mm_w582 mm_w2 mm_w583) rfl rfl rfl hs_X11_isPart ⟨by rw [hRf]; exact Nat.le_of_ble_eq_true rfl, by rw [hRl]; exact Nat.le_of_ble_eq_true rfl⟩) (mm_preS hK hZ hS hA hP hD [] rfl rfl) rfl rfl hl.1 rfl (lv_room (Nat.le_of_ble_eq_true rfl)) dX11_mean_20 ⟨by rw [hRc]; exact Nat.le_of_ble_eq_true rfl, by rw [hRs]; exact Nat.le_of_ble_eq_true rfl⟩) hP hD hS hA [] rfl (fun _ => rfl) ?_
          clear hP hD hS
          clear H locs
          intro v14 _u H locs hw hP hD hS
          rcases hw with rfl | ⟨rfl, w15⟩
          · refine lv_if_ne (tgt := 30) hx hb dX11_mean_23 (by decide) (fun c16 => ?_) (fun c16 => ?_)
            · have q17 := mm_neL (lo := 1) (mm_ne c16) mm_k0 mm_k0 (by decide) (by decide)
              exact mm_no q17 (by decide)
            · refine lv_ldc2 (v := (-2)) hx hb hown (mm_h hts mm_w1530) dX11_mean_26 ?_
              subst hAe
              rw [hQ]
              exact W.lret (v := (-2)) hx hb hr (fun t ht hW => ⟨⟨(-2), f_8, rfl, trivial, by rw [ht]; exact hP, hK.warm hW, hD⟩, hS.F ht⟩) hS.2.2 dX11_mean_29
          · refine lv_if_ne (tgt := 30) hx hb dX11_mean_23 (by decide) (fun c18 => ?_) (fun c18 => ?_)
            · refine lv_aload_n hx hb dX11_mean_30 rfl (lv_at hl 0 rfl) ?_
              refine va_get (D := G) (ci := 11) (v := .ref a_11) (C := RX11) (T := TX11) (N := 11) hx hb hts (mm_i inlX11) hown hK.1 hP 0 rfl rfl 10 (by decide) (mm_h hts mm_w54) (fun _ h9 => h9) rfl dX11_mean_31 ?_
              refine lv_iload hx hb dX11_mean_34 (lv_at hl 4 rfl) ?_
              refine mm_finl (va_runV (As := [.int i_3]) (rest := []) ⟨hx, hb, hml, hown, hts⟩ (K492_X5_weigh l G cy H.size a_11 i_3 a_3 a_12 a_13 i_5 i_6 i_7 i_8 i_9 i_10 i_11 i_12 a_14 a_15 a_16 a_17 a_18 a_19 a_20 a_21 a_22 a_23 a_33 f_8 w10 h0) (cwV 1 hts (mm_gV mm_w1497 mm_w1498 mm_w1499 mm_w53 mm_w1500) rfl rfl rfl hd_X5_weigh ⟨by rw [hRf]; exact Nat.le_of_ble_eq_true rfl, by rw [hRl]; exact Nat.le_of_ble_eq_true rfl⟩) (mm_preV hK hZ hS hA hP hD [1, 2, 15, 16] rfl rfl 15 rfl rfl rfl) rfl rfl hl.1 rfl (lv_room (Nat.le_of_ble_eq_true rfl)) dX11_mean_36 ⟨by rw [hRc]; exact Nat.le_of_ble_eq_true rfl, by rw [hRs]; exact Nat.le_of_ble_eq_true rfl⟩) hP hD hS hA (fun u : (Nat → Int64) => [(a_0, .inr (11, [.ref a_1, .ref a_2, .ref a_3, .ref a_4, .ref a_5, .ref a_6, .ref a_7, .ref a_8, .ref a_9, .ref a_10, .ref a_11])), (a_3, .inr (10, [.ref a_12, .ref a_13])), (a_12, .inr (0, [.int i_5, .int i_6, .int i_7, .int i_8, .int i_9, .int i_10, .int i_11, .int i_12, .ref a_14, .ref a_15, .ref a_16, .ref a_17, .ref a_18, .ref a_19, .ref a_20, .ref a_21, .ref a_22, .ref a_23])), (a_14, .inl (cy 1, 9, .inl f_0)), (a_15, .inl (cy 1, 9, .inl f_1)), (a_18, .inl (cy 1, 6, .inl f_2)), (a_19, .inl (cy 1, 48, .inl f_3)), (a_20, .inl (cy 1, 30, .inl f_4)), (a_13, .inl (cy 5, 3, .inr (.inr (.inr (.inr (va_up (va_up (va_up (fun _ => none) 0 (some a_24)) 1 (some a_25)) 2 (some a_26))))))), (a_24, .inr (1, [.ref a_27, .ref a_28, .int i_13, .int i_14, .int i_15])), (a_27, .inl (cy 1, 2100, .inl f_5)), (a_25, .inr (1, [.ref a_29, .ref a_30, .int i_16, .int i_17, .int i_18])), (a_29, .inl (cy 1, 2100, .inl f_6)), (a_26, .inr (1, [.ref a_31, .ref a_32, .int i_19, .int i_20, .int i_21])), (a_31, .inl (cy 1, 2100, .inl f_7)), (a_11, .inr (5, [.ref a_3, .ref a_33])), (a_33, .inl (cy 2, 8, .inr (.inl u)))]) [1, 2, 15, 16] [0, 3, 4, 5, 6, 7, 8, 9, 10, 11, 12, 13, 14] (n := 17) (fun _ => rfl) (by decide +kernel) (by decide +kernel) rfl (fun _ => rfl) (wr := [(a_0, .inr (11, [.ref a_1, .ref a_2, .ref a_3, .ref a_4, .ref a_5, .ref a_6, .ref a_7, .ref a_8, .ref a_9, .ref a_10, .ref a_11])), (a_14, .inl (cy 1, 9, .inl f_0)), (a_15, .inl (cy 1, 9, .inl f_1)), (a_18, .inl (cy 1, 6, .inl f_2)), (a_19, .inl (cy 1, 48, .inl f_3)), (a_20, .inl (cy 1, 30, .inl f_4)), (a_13, .inl (cy 5, 3, .inr (.inr (.inr (.inr (va_up (va_up (va_up (fun _ => none) 0 (some a_24)) 1 (some a_25)) 2 (some a_26))))))), (a_24, .inr (1, [.ref a_27, .ref a_28, .int i_13, .int i_14, .int i_15])), (a_27, .inl (cy 1, 2100, .inl f_5)), (a_25, .inr (1, [.ref a_29, .ref a_30, .int i_16, .int i_17, .int i_18])), (a_29, .inl (cy 1, 2100, .inl f_6)), (a_26, .inr (1, [.ref a_31, .ref a_32, .int i_19, .int i_20, .int i_21])), (a_31, .inl (cy 1, 2100, .inl f_7))]) rfl (fun _ => rfl) (fun _ => rfl) ?_
              clear hP hD hS
              clear H locs
              intro v20 n19 H locs hw (hP : va_P G vwCl [(a_0, .inr (11, [.ref a_1, .ref a_2, .ref a_3, .ref a_4, .ref a_5, .ref a_6, .ref a_7, .ref a_8, .ref a_9, .ref a_10, .ref a_11])), (a_3, .inr (10, [.ref a_12, .ref a_13])), (a_12, .inr (0, [.int i_5, .int i_6, .int i_7, .int i_8, .int i_9, .int i_10, .int i_11, .int i_12, .ref a_14, .ref a_15, .ref a_16, .ref a_17, .ref a_18, .ref a_19, .ref a_20, .ref a_21, .ref a_22, .ref a_23])), (a_14, .inl (cy 1, 9, .inl f_0)), (a_15, .inl (cy 1, 9, .inl f_1)), (a_18, .inl (cy 1, 6, .inl f_2)), (a_19, .inl (cy 1, 48, .inl f_3)), (a_20, .inl (cy 1, 30, .inl f_4)), (a_13, .inl (cy 5, 3, .inr (.inr (.inr (.inr (va_up (va_up (va_up (fun _ => none) 0 (some a_24)) 1 (some a_25)) 2 (some a_26))))))), (a_24, .inr (1, [.ref a_27, .ref a_28, .int i_13, .int i_14, .int i_15])), (a_27, .inl (cy 1, 2100, .inl f_5)), (a_25, .inr (1, [.ref a_29, .ref a_30, .int i_16, .int i_17, .int i_18])), (a_29, .inl (cy 1, 2100, .inl f_6)), (a_26, .inr (1, [.ref a_31, .ref a_32, .int i_19, .int i_20, .int i_21])), (a_31, .inl (cy 1, 2100, .inl f_7)), (a_11, .inr (5, [.ref a_3, .ref a_33])), (a_33, .inl (cy 2, 8, .inr (.inl n19)))] H) (hD : va_D A [(a_0, .inr (11, [.ref a_1, .ref a_2, .ref a_3, .ref a_4, .ref a_5, .ref a_6, .ref a_7, .ref a_8, .ref a_9, .ref a_10, .ref a_11])), (a_3, .inr (10, [.ref a_12, .ref a_13])), (a_12, .inr (0, [.int i_5, .int i_6, .int i_7, .int i_8, .int i_9, .int i_10, .int i_11, .int i_12, .ref a_14, .ref a_15, .ref a_16, .ref a_17, .ref a_18, .ref a_19, .ref a_20, .ref a_21, .ref a_22, .ref a_23])), (a_14, .inl (cy 1, 9, .inl f_0)), (a_15, .inl (cy 1, 9, .inl f_1)), (a_18, .inl (cy 1, 6, .inl f_2)), (a_19, .inl (cy 1, 48, .inl f_3)), (a_20, .inl (cy 1, 30, .inl f_4)), (a_13, .inl (cy 5, 3, .inr (.inr (.inr (.inr (va_up (va_up (va_up (fun _ => none) 0 (some a_24)) 1 (some a_25)) 2 (some a_26))))))), (a_24, .inr (1, [.ref a_27, .ref a_28, .int i_13, .int i_14, .int i_15])), (a_27, .inl (cy 1, 2100, .inl f_5)), (a_25, .inr (1, [.ref a_29, .ref a_30, .int i_16, .int i_17, .int i_18])), (a_29, .inl (cy 1, 2100, .inl f_6)), (a_26, .inr (1, [.ref a_31, .ref a_32, .int i_19, .int i_20, .int i_21])), (a_31, .inl (cy 1, 2100, .inl f_7)), (a_11, .inr (5, [.ref a_3, .ref a_33])), (a_33, .inl (cy 2, 8, .inr (.inl n19)))]) hS
              refine lv_lstore (lv' := [(6, .long v20), (0, .ref a_0), (1, .int i_0), (2, .int i_1), (3, .int i_2), (4, .int i_3), (5, .int i_4)]) hx hb dX11_mean_39 hl (by decide) rfl ?_
              clear hl
              clear ls
              intro ls hl
              refine lv_lconst (v := 0) hx hb dX11_mean_41 (by decide) ?_
              refine lv_lstore (lv' := [(8, .long 0), (6, .long v20), (0, .ref a_0), (1, .int i_0), (2, .int i_1), (3, .int i_2), (4, .int i_3), (5, .int i_4)]) hx hb dX11_mean_42 hl (by decide) rfl ?_
              clear hl
              clear ls
              intro ls hl
              refine lv_iconst (v := 0) hx hb dX11_mean_44 (by decide) ?_
              refine lv_istore (lv' := [(10, .int 0), (8, .long 0), (6, .long v20), (0, .ref a_0), (1, .int i_0), (2, .int i_1), (3, .int i_2), (4, .int i_3), (5, .int i_4)]) hx hb dX11_mean_45 hl (by decide) rfl ?_
              clear hl
              clear ls
              intro ls hl
              have L47_127 : ∀ (n : Nat) (x47_10_126 : Int32) (x47_8_127 : Int64), mm_rg x47_10_126 0 8 → (8 - x47_10_126.toInt).toNat < n → ∀ (H : Heap) (locs : List Loc), va_P G vwCl [(a_0, .inr (11, [.ref a_1, .ref a_2, .ref a_3, .ref a_4, .ref a_5, .ref a_6, .ref a_7, .ref a_8, .ref a_9, .ref a_10, .ref a_11])), (a_3, .inr (10, [.ref a_12, .ref a_13])), (a_12, .inr (0, [.int i_5, .int i_6, .int i_7, .int i_8, .int i_9, .int i_10, .int i_11, .int i_12, .ref a_14, .ref a_15, .ref a_16, .ref a_17, .ref a_18, .ref a_19, .ref a_20, .ref a_21, .ref a_22, .ref a_23])), (a_14, .inl (cy 1, 9, .inl f_0)), (a_15, .inl (cy 1, 9, .inl f_1)), (a_18, .inl (cy 1, 6, .inl f_2)), (a_19, .inl (cy 1, 48, .inl f_3)), (a_20, .inl (cy 1, 30, .inl f_4)), (a_13, .inl (cy 5, 3, .inr (.inr (.inr (.inr (va_up (va_up (va_up (fun _ => none) 0 (some a_24)) 1 (some a_25)) 2 (some a_26))))))), (a_24, .inr (1, [.ref a_27, .ref a_28, .int i_13, .int i_14, .int i_15])), (a_27, .inl (cy 1, 2100, .inl f_5)), (a_25, .inr (1, [.ref a_29, .ref a_30, .int i_16, .int i_17, .int i_18])), (a_29, .inl (cy 1, 2100, .inl f_6)), (a_26, .inr (1, [.ref a_31, .ref a_32, .int i_19, .int i_20, .int i_21])), (a_31, .inl (cy 1, 2100, .inl f_7)), (a_11, .inr (5, [.ref a_3, .ref a_33])), (a_33, .inl (cy 2, 8, .inr (.inl n19)))] H → va_D A [(a_0, .inr (11, [.ref a_1, .ref a_2, .ref a_3, .ref a_4, .ref a_5, .ref a_6, .ref a_7, .ref a_8, .ref a_9, .ref a_10, .ref a_11])), (a_3, .inr (10, [.ref a_12, .ref a_13])), (a_12, .inr (0, [.int i_5, .int i_6, .int i_7, .int i_8, .int i_9, .int i_10, .int i_11, .int i_12, .ref a_14, .ref a_15, .ref a_16, .ref a_17, .ref a_18, .ref a_19, .ref a_20, .ref a_21, .ref a_22, .ref a_23])), (a_14, .inl (cy 1, 9, .inl f_0)), (a_15, .inl (cy 1, 9, .inl f_1)), (a_18, .inl (cy 1, 6, .inl f_2)), (a_19, .inl (cy 1, 48, .inl f_3)), (a_20, .inl (cy 1, 30, .inl f_4)), (a_13, .inl (cy 5, 3, .inr (.inr (.inr (.inr (va_up (va_up (va_up (fun _ => none) 0 (some a_24)) 1 (some a_25)) 2 (some a_26))))))), (a_24, .inr (1, [.ref a_27, .ref a_28, .int i_13, .int i_14, .int i_15])), (a_27, .inl (cy 1, 2100, .inl f_5)), (a_25, .inr (1, [.ref a_29, .ref a_30, .int i_16, .int i_17, .int i_18])), (a_29, .inl (cy 1, 2100, .inl f_6)), (a_26, .inr (1, [.ref a_31, .ref a_32, .int i_19, .int i_20, .int i_21])), (a_31, .inl (cy 1, 2100, .inl f_7)), (a_11, .inr (5, [.ref a_3, .ref a_33])), (a_33, .inl (cy 2, 8, .inr (.inl n19)))] → va_S A s.heap H locs → ∀ (ls : Array Slot), lv_has ls 11 [(10, .int x47_10_126), (8, .long x47_8_127), (6, .long v20), (0, .ref a_0), (1, .int i_0), (2, .int i_1), (3, .int i_2), (4, .int i_3), (5, .int i_4)] → W p l e R s m args below meth c H locs 0 0 Q (F0 m 47 ls []) := by
                intro n
                induction n with
                | zero => intro x47_10_126 x47_8_127 rx47_10_126 hm; exact absurd hm (Nat.not_lt_zero _)
                | succ n ih47 =>
                  intro x47_10_126 x47_8_127 rx47_10_126 hm47 H locs hP hD hS ls hl
                  refine lv_iload hx hb dX11_mean_47 (lv_at hl 0 rfl) ?_
                  refine lv_iload hx hb dX11_mean_49 (lv_at hl 7 rfl) ?_
                  refine lv_icmp_gt (tgt := 90) hx hb dX11_mean_51 (by decide) (fun c129 => ?_) (fun c129 => ?_)
                  · have q130 := mm_ltR (lo := 1) (mm_lt c129) w10 rx47_10_126 (by decide)
                    refine lv_lload hx hb dX11_mean_90 (lv_at hl 1 rfl) ?_
                    refine lv_lload hx hb dX11_mean_92 (lv_at hl 2 rfl) ?_
                    refine lv_iload hx hb dX11_mean_94 (lv_at hl 8 rfl) ?_
                    refine mm_finlr (va_runS (As := [.long x47_8_127, .long v20, .int i_4]) (rest := []) ⟨hx, hb, hml, hown, hts⟩ (K413_X11_inLowestTerms l G cy H.size x47_8_127 v20 i_4 w15) (va_cwS 3 hts (mm_gS mm_w1033 mm_w1034 mm_w2 mm_w1035) rfl rfl rfl hs_X11_inLowestTerms ⟨by rw [hRf]; exact Nat.le_of_ble_eq_true rfl, by rw [hRl]; exact Nat.le_of_ble_eq_true rfl⟩) (mm_preS hK hZ hS hA hP hD [] rfl rfl) rfl rfl hl.1 rfl (lv_room (Nat.le_of_ble_eq_true rfl)) dX11_mean_96 ⟨by rw [hRc]; exact Nat.le_of_ble_eq_true rfl, by rw [hRs]; exact Nat.le_of_ble_eq_true rfl⟩) hP hD hS hA [] rfl (fun _ => rfl) ?_
                    clear hP hD hS
                    clear H locs
                    intro v131 _u H locs hw hP hD hS
                    subst hAe
                    rw [hQ]
                    exact W.lret (v := v131) hx hb hr (fun t ht hW => ⟨⟨v131, n19, rfl, trivial, by rw [ht]; exact hP, hK.warm hW, hD⟩, hS.F ht⟩) hS.2.2 dX11_mean_99
                  · have q132 := mm_leL (mm_nlt c129) rx47_10_126 w10
                    refine lv_lload hx hb dX11_mean_54 (lv_at hl 1 rfl) ?_
                    refine lv_aload_n hx hb dX11_mean_56 rfl (lv_at hl 3 rfl) ?_
                    refine va_get (D := G) (ci := 11) (v := .ref a_11) (C := RX11) (T := TX11) (N := 11) hx hb hts (mm_i inlX11) hown hK.1 hP 0 rfl rfl 10 (by decide) (mm_h hts mm_w54) (fun _ h9 => h9) rfl dX11_mean_57 ?_
                    refine va_get (D := G) (ci := 5) (v := .ref a_33) (C := RX5) (T := TX5) (N := 2) hx hb hts (mm_i inlX5) hown hK.1 hP 15 rfl rfl 1 (by decide) (mm_h hts mm_w1493) (fun _ h9 => h9) rfl dX11_mean_60 ?_
                    refine lv_iload hx hb dX11_mean_63 (lv_at hl 0 rfl) ?_
                    refine va_lald hx hb hK.1 hP 16 2 rfl rfl (mm_in q132 (by decide)) dX11_mean_65 ?_
                    refine lv_topl (fun v133 ev133 => ?_)
                    refine lv_aload_n hx hb dX11_mean_66 rfl (lv_at hl 3 rfl) ?_
                    refine va_get (D := G) (ci := 11) (v := .ref a_3) (C := RX11) (T := TX11) (N := 11) hx hb hts (mm_i inlX11) hown hK.1 hP 0 rfl rfl 2 (by decide) (mm_h hts mm_w24) (fun _ h9 => h9) rfl dX11_mean_67 ?_
                    refine lv_iload_n hx hb dX11_mean_70 rfl (lv_at hl 4 rfl) ?_
                    refine lv_iload_n hx hb dX11_mean_71 rfl (lv_at hl 5 rfl) ?_
                    refine lv_iload hx hb dX11_mean_72 (lv_at hl 0 rfl) ?_
                    refine lv_iadd hx hb dX11_mean_74 ?_
                    refine lv_topi (fun v134 ev134 => ?_)
                    have rv134 : mm_rg v134 0 1000000007 := mm_add ev134 w3 q132 (by decide) (by decide)
                    have tv134 := mm_addE ev134 w3 q132 (by decide)
                    refine lv_iload_n hx hb dX11_mean_75 rfl (lv_at hl 6 rfl) ?_
                    refine mm_finir (va_runV (As := [.int i_0, .int v134, .int i_2]) (rest := [.long v133, .long x47_8_127]) ⟨hx, hb, hml, hown, hts⟩ (K374_X10_leaving l G cy H.size a_3 i_0 v134 i_2 a_12 a_13 i_5 i_6 i_7 i_8 i_9 i_10 i_11 i_12 a_14 a_15 a_16 a_17 a_18 a_19 a_20 a_21 a_22 a_23 f_0 f_1 f_2 f_3 f_4 a_24 a_25 a_26 a_27 a_28 i_13 i_14 i_15 f_5 a_29 a_30 i_16 i_17 i_18 f_6 a_31 a_32 i_19 i_20 i_21 f_7 w2 (mm_wk rv134 (by decide)) w4 h1 h2 h5 h6 h7 h8 h9 h10 h11 h12 h13 h14 h15) (cwV 3 hts (mm_gV mm_w829 mm_w830 mm_w831 mm_w23 mm_w832) rfl rfl rfl hd_X10_leaving ⟨by rw [hRf]; exact Nat.le_of_ble_eq_true rfl, by rw [hRl]; exact Nat.le_of_ble_eq_true rfl⟩) (mm_preV hK hZ hS hA hP hD [1, 2, 3, 4, 5, 6, 7, 8, 9, 10, 11, 12, 13, 14] rfl rfl 1 rfl rfl rfl) rfl rfl hl.1 rfl (lv_room (Nat.le_of_ble_eq_true rfl)) dX11_mean_76 ⟨by rw [hRc]; exact Nat.le_of_ble_eq_true rfl, by rw [hRs]; exact Nat.le_of_ble_eq_true rfl⟩) hP hD hS hA [1, 2, 3, 4, 5, 6, 7, 8, 9, 10, 11, 12, 13, 14] rfl (fun _ => rfl) ?_
                    clear hP hD hS
                    clear H locs
                    intro v135 _u H locs hw hP hD hS
                    obtain ⟨v136, ev136⟩ : ∃ y : Int64, y = v135.toInt64 := ⟨_, rfl⟩
                    refine lv_i2l hx hb dX11_mean_79 ev136.symm ?_
                    have rv136 : mm_rl v136 (-2147483648) 2147483647 := mm_i2l ev136 (mm_top v135)
                    refine lv_lmul hx hb dX11_mean_80 ?_
                    refine lv_topl (fun v137 ev137 => ?_)
                    refine lv_ladd hx hb dX11_mean_81 ?_
                    refine lv_topl (fun v138 ev138 => ?_)
                    refine lv_lstore (lv' := [(8, .long v138), (10, .int x47_10_126), (6, .long v20), (0, .ref a_0), (1, .int i_0), (2, .int i_1), (3, .int i_2), (4, .int i_3), (5, .int i_4)]) hx hb dX11_mean_82 hl (by decide) rfl ?_
                    clear hl
                    clear ls
                    intro ls hl
                    obtain ⟨v139, ev139⟩ : ∃ y : Int32, y = x47_10_126 + 1 := ⟨_, rfl⟩
                    refine lv_iinc (v := v139) (lv' := [(10, .int v139), (8, .long v138), (6, .long v20), (0, .ref a_0), (1, .int i_0), (2, .int i_1), (3, .int i_2), (4, .int i_3), (5, .int i_4)]) hx hb dX11_mean_84 hl (k := 1) rfl (by rw [ev139]; rfl) (by decide) rfl ?_
                    clear hl
                    clear ls
                    intro ls hl
                    have rv139 : mm_rg v139 1 8 := mm_add ev139 q132 mm_k1 (by decide) (by decide)
                    have tv139 := mm_addEc ev139 q132 mm_k1 (by decide) (k := 1) (by decide)
                    refine lv_goto (tgt := 47) hx hb dX11_mean_87 (by decide) ?_
                    exact ih47 v139 v138 (mm_wk rv139 (by decide)) (mm_mu hm47 tv139 (by decide) (rv139).2 (by decide)) H locs hP hD hS ls (lv_sub hl [0, 1, 2, 3, 4, 5, 6, 7, 8] rfl)
              exact L47_127 _ 0 0 (mm_wk mm_k0 (by decide)) (Nat.lt_succ_self _) H locs hP hD hS ls (lv_sub hl [0, 1, 2, 3, 4, 5, 6, 7, 8] rfl)
            · exact mm_eqN c18.symm mm_k0 mm_k1 (by decide)

set_option maxHeartbeats 4000000 in
set_option maxRecDepth 100000 in
theorem K495_X0_noteAct (l : Launch) (G : va_G) (cy : Nat → ClassId) (sz : Nat) (a_0 : Nat) (i_0 : Int32) (i_1 : Int32) (i_2 : Int32) (i_3 : Int32) (i_4 : Int32) (i_5 : Int32) (i_6 : Int32) (i_7 : Int32) (i_8 : Int32) (i_9 : Int32) (i_10 : Int32) (a_1 : Nat) (a_2 : Nat) (a_3 : Nat) (a_4 : Nat) (a_5 : Nat) (a_6 : Nat) (a_7 : Nat) (a_8 : Nat) (a_9 : Nat) (a_10 : Nat) (f_0 : Nat → Int32) (f_1 : Nat → Int32) (f_2 : Nat → Int32) (h0 : mm_rg i_0 0 2) (h1 : mm_rg i_1 0 9) (h2 : mm_rg i_2 0 9) (h3 : mm_rg i_10 0 30) (h4 : mm_ar f_0 (-1) 2) (h5 : mm_ar f_1 0 99) (h6 : mm_ar f_2 0 9) (h7 : mm_act f_0 f_1)  : mm_CV l yX0_noteAct (mm_ws yX0_noteAct cX0_noteAct 4 (none)) ({ frames := 0, cells := 0, slots := 0, locals := 0 } : Room) G cy sz [(a_0, .inr (0, [.int i_3, .int i_4, .int i_5, .int i_6, .int i_7, .int i_8, .int i_9, .int i_10, .ref a_1, .ref a_2, .ref a_3, .ref a_4, .ref a_5, .ref a_6, .ref a_7, .ref a_8, .ref a_9, .ref a_10])), (a_8, .inl (cy 1, 30, .inl f_0)), (a_9, .inl (cy 1, 30, .inl f_1)), (a_10, .inl (cy 1, 30, .inl f_2))] [.ref a_0, .int i_0, .int i_1, .int i_2] (fun u : Int32 × (Nat → Int32) × (Nat → Int32) × (Nat → Int32) => [(a_0, .inr (0, [.int i_3, .int i_4, .int i_5, .int i_6, .int i_7, .int i_8, .int i_9, .int u.1, .ref a_1, .ref a_2, .ref a_3, .ref a_4, .ref a_5, .ref a_6, .ref a_7, .ref a_8, .ref a_9, .ref a_10])), (a_8, .inl (cy 1, 30, .inl u.2.1)), (a_9, .inl (cy 1, 30, .inl u.2.2.1)), (a_10, .inl (cy 1, 30, .inl u.2.2.2))]) (fun u : Int32 × (Nat → Int32) × (Nat → Int32) × (Nat → Int32) => mm_rg u.1 1 30 ∧ mm_ar u.2.1 (-1) 2 ∧ mm_ar u.2.2.1 0 99 ∧ mm_ar u.2.2.2 0 9 ∧ mm_act u.2.1 u.2.2.1) 0 0 := by
  refine mm_begin (lv := [(0, .ref a_0), (1, .int i_0), (2, .int i_1), (3, .int i_2)]) (by decide) (Nat.le_of_ble_eq_true rfl) rfl ?_
  intro p e s m below meth c A ls R args Q H locs hRe hQ hAe hx hb hr hlocks hml hown hnm hts hsz hA hS hP hK hD hZ hl
  have hRf : R.frames = 0 := by rw [hRe]
  have hRl : R.locals = 0 := by rw [hRe]
  have hRc : R.cells = 0 := by rw [hRe]
  have hRs : R.slots = 0 := by rw [hRe]
  refine lv_aload_n hx hb dX0_noteAct_0 rfl (lv_at hl 0 rfl) ?_
  refine va_get (D := G) (ci := 0) (v := .int i_10) (C := RX0) (T := TX0) (N := 18) hx hb hts (mm_i inlX0) hown hK.1 hP 0 rfl rfl 7 (by decide) (mm_h hts mm_w222) (fun _ h9 => h9) rfl dX0_noteAct_1 ?_
  refine lv_bipush (v := 30) hx hb dX0_noteAct_4 (by decide) ?_
  refine lv_icmp_ge (tgt := 49) hx hb dX0_noteAct_6 (by decide) (fun c1 => ?_) (fun c1 => ?_)
  · have q2 := mm_leR (mm_le c1) mm_k30 h3
    subst hAe
    rw [hQ]
    exact W.vret hx hb hr (fun t ht hW => ⟨⟨(i_10, f_0, f_1, f_2), rfl, ⟨(mm_wk q2 (by decide)), h4, h5, h6, h7⟩, by rw [ht]; exact hP, hK.warm hW, hD⟩, hS.F ht⟩) hS.2.2 dX0_noteAct_49
  · have q3 := mm_ltL (h := 29) (mm_nle c1) h3 mm_k30 (by decide)
    refine lv_aload_n hx hb dX0_noteAct_9 rfl (lv_at hl 0 rfl) ?_
    refine va_get (D := G) (ci := 0) (v := .ref a_8) (C := RX0) (T := TX0) (N := 18) hx hb hts (mm_i inlX0) hown hK.1 hP 0 rfl rfl 15 (by decide) (mm_h hts mm_w79) (fun _ h9 => h9) rfl dX0_noteAct_10 ?_
    refine lv_aload_n hx hb dX0_noteAct_13 rfl (lv_at hl 0 rfl) ?_
    refine va_get (D := G) (ci := 0) (v := .int i_10) (C := RX0) (T := TX0) (N := 18) hx hb hts (mm_i inlX0) hown hK.1 hP 0 rfl rfl 7 (by decide) (mm_h hts mm_w222) (fun _ h9 => h9) rfl dX0_noteAct_14 ?_
    refine lv_iload_n hx hb dX0_noteAct_17 rfl (lv_at hl 1 rfl) ?_
    refine va_iast hx hb hK.1 hP hD hS 1 1 rfl rfl (mm_in q3 (by decide)) dX0_noteAct_18 ?_
    clear hP hD hS
    clear H locs
    obtain ⟨g4, eg4⟩ : ∃ z : Nat → Int32, z = upd f_0 i_10.toNatClampNeg i_0 := ⟨_, rfl⟩
    rw [← eg4]
    intro H locs (hP : va_P G vwCl [(a_0, .inr (0, [.int i_3, .int i_4, .int i_5, .int i_6, .int i_7, .int i_8, .int i_9, .int i_10, .ref a_1, .ref a_2, .ref a_3, .ref a_4, .ref a_5, .ref a_6, .ref a_7, .ref a_8, .ref a_9, .ref a_10])), (a_8, .inl (cy 1, 30, .inl g4)), (a_9, .inl (cy 1, 30, .inl f_1)), (a_10, .inl (cy 1, 30, .inl f_2))] H) (hD : va_D A [(a_0, .inr (0, [.int i_3, .int i_4, .int i_5, .int i_6, .int i_7, .int i_8, .int i_9, .int i_10, .ref a_1, .ref a_2, .ref a_3, .ref a_4, .ref a_5, .ref a_6, .ref a_7, .ref a_8, .ref a_9, .ref a_10])), (a_8, .inl (cy 1, 30, .inl g4)), (a_9, .inl (cy 1, 30, .inl f_1)), (a_10, .inl (cy 1, 30, .inl f_2))]) hS
    have rg4 : mm_ar g4 (-1) 2 := by rw [eg4]; exact mm_ar_upd (mm_ar_wk h4 (by decide)) (mm_wk h0 (by decide)) _
    refine lv_aload_n hx hb dX0_noteAct_19 rfl (lv_at hl 0 rfl) ?_
    refine va_get (D := G) (ci := 0) (v := .ref a_9) (C := RX0) (T := TX0) (N := 18) hx hb hts (mm_i inlX0) hown hK.1 hP 0 rfl rfl 16 (by decide) (mm_h hts mm_w80) (fun _ h9 => h9) rfl dX0_noteAct_20 ?_
    refine lv_aload_n hx hb dX0_noteAct_23 rfl (lv_at hl 0 rfl) ?_
    refine va_get (D := G) (ci := 0) (v := .int i_10) (C := RX0) (T := TX0) (N := 18) hx hb hts (mm_i inlX0) hown hK.1 hP 0 rfl rfl 7 (by decide) (mm_h hts mm_w222) (fun _ h9 => h9) rfl dX0_noteAct_24 ?_
    refine lv_iload_n hx hb dX0_noteAct_27 rfl (lv_at hl 2 rfl) ?_
    refine va_iast hx hb hK.1 hP hD hS 2 1 rfl rfl (mm_in q3 (by decide)) dX0_noteAct_28 ?_
    clear hP hD hS
    clear H locs
    obtain ⟨g5, eg5⟩ : ∃ z : Nat → Int32, z = upd f_1 i_10.toNatClampNeg i_1 := ⟨_, rfl⟩
    rw [← eg5]
    intro H locs (hP : va_P G vwCl [(a_0, .inr (0, [.int i_3, .int i_4, .int i_5, .int i_6, .int i_7, .int i_8, .int i_9, .int i_10, .ref a_1, .ref a_2, .ref a_3, .ref a_4, .ref a_5, .ref a_6, .ref a_7, .ref a_8, .ref a_9, .ref a_10])), (a_8, .inl (cy 1, 30, .inl g4)), (a_9, .inl (cy 1, 30, .inl g5)), (a_10, .inl (cy 1, 30, .inl f_2))] H) (hD : va_D A [(a_0, .inr (0, [.int i_3, .int i_4, .int i_5, .int i_6, .int i_7, .int i_8, .int i_9, .int i_10, .ref a_1, .ref a_2, .ref a_3, .ref a_4, .ref a_5, .ref a_6, .ref a_7, .ref a_8, .ref a_9, .ref a_10])), (a_8, .inl (cy 1, 30, .inl g4)), (a_9, .inl (cy 1, 30, .inl g5)), (a_10, .inl (cy 1, 30, .inl f_2))]) hS
    have rg5 : mm_ar g5 0 99 := by rw [eg5]; exact mm_ar_upd (mm_ar_wk h5 (by decide)) (mm_wk h1 (by decide)) _
    refine lv_aload_n hx hb dX0_noteAct_29 rfl (lv_at hl 0 rfl) ?_
    refine va_get (D := G) (ci := 0) (v := .ref a_10) (C := RX0) (T := TX0) (N := 18) hx hb hts (mm_i inlX0) hown hK.1 hP 0 rfl rfl 17 (by decide) (mm_h hts mm_w81) (fun _ h9 => h9) rfl dX0_noteAct_30 ?_
    refine lv_aload_n hx hb dX0_noteAct_33 rfl (lv_at hl 0 rfl) ?_
    refine va_get (D := G) (ci := 0) (v := .int i_10) (C := RX0) (T := TX0) (N := 18) hx hb hts (mm_i inlX0) hown hK.1 hP 0 rfl rfl 7 (by decide) (mm_h hts mm_w222) (fun _ h9 => h9) rfl dX0_noteAct_34 ?_
    refine lv_iload_n hx hb dX0_noteAct_37 rfl (lv_at hl 3 rfl) ?_
    refine va_iast hx hb hK.1 hP hD hS 3 1 rfl rfl (mm_in q3 (by decide)) dX0_noteAct_38 ?_
    clear hP hD hS
    clear H locs
    obtain ⟨g6, eg6⟩ : ∃ z : Nat → Int32, z = upd f_2 i_10.toNatClampNeg i_2 := ⟨_, rfl⟩
    rw [← eg6]
    intro H locs (hP : va_P G vwCl [(a_0, .inr (0, [.int i_3, .int i_4, .int i_5, .int i_6, .int i_7, .int i_8, .int i_9, .int i_10, .ref a_1, .ref a_2, .ref a_3, .ref a_4, .ref a_5, .ref a_6, .ref a_7, .ref a_8, .ref a_9, .ref a_10])), (a_8, .inl (cy 1, 30, .inl g4)), (a_9, .inl (cy 1, 30, .inl g5)), (a_10, .inl (cy 1, 30, .inl g6))] H) (hD : va_D A [(a_0, .inr (0, [.int i_3, .int i_4, .int i_5, .int i_6, .int i_7, .int i_8, .int i_9, .int i_10, .ref a_1, .ref a_2, .ref a_3, .ref a_4, .ref a_5, .ref a_6, .ref a_7, .ref a_8, .ref a_9, .ref a_10])), (a_8, .inl (cy 1, 30, .inl g4)), (a_9, .inl (cy 1, 30, .inl g5)), (a_10, .inl (cy 1, 30, .inl g6))]) hS
    have rg6 : mm_ar g6 0 9 := by rw [eg6]; exact mm_ar_upd (mm_ar_wk h6 (by decide)) (mm_wk h2 (by decide)) _
    refine lv_aload_n hx hb dX0_noteAct_39 rfl (lv_at hl 0 rfl) ?_
    refine lv_dup hx hb dX0_noteAct_40 rfl ?_
    refine va_get (D := G) (ci := 0) (v := .int i_10) (C := RX0) (T := TX0) (N := 18) hx hb hts (mm_i inlX0) hown hK.1 hP 0 rfl rfl 7 (by decide) (mm_h hts mm_w222) (fun _ h9 => h9) rfl dX0_noteAct_41 ?_
    refine lv_iconst (v := 1) hx hb dX0_noteAct_44 (by decide) ?_
    refine lv_iadd hx hb dX0_noteAct_45 ?_
    refine lv_topi (fun v7 ev7 => ?_)
    have rv7 : mm_rg v7 1 30 := mm_add ev7 q3 mm_k1 (by decide) (by decide)
    have tv7 := mm_addEc ev7 q3 mm_k1 (by decide) (k := 1) (by decide)
    refine va_put (D := G) (ci := 0) (v := .int v7) (ty := tyX0 7) (C := RX0) (T := TX0) (N := 18) hx hb hts (mm_i inlX0) tyX0 tyX0_ok nmX0 hown hK.1 hP hD hS 0 rfl rfl 7 (by decide) (mm_h hts mm_w222) (fun _ h9 => h9) rfl (tyX0_ok 7 (by decide)) rfl rfl (Nat.le_of_ble_eq_true rfl) dX0_noteAct_46 ?_
    clear hP hD hS
    clear H locs
    intro H locs (hP : va_P G vwCl [(a_0, .inr (0, [.int i_3, .int i_4, .int i_5, .int i_6, .int i_7, .int i_8, .int i_9, .int v7, .ref a_1, .ref a_2, .ref a_3, .ref a_4, .ref a_5, .ref a_6, .ref a_7, .ref a_8, .ref a_9, .ref a_10])), (a_8, .inl (cy 1, 30, .inl g4)), (a_9, .inl (cy 1, 30, .inl g5)), (a_10, .inl (cy 1, 30, .inl g6))] H) (hD : va_D A [(a_0, .inr (0, [.int i_3, .int i_4, .int i_5, .int i_6, .int i_7, .int i_8, .int i_9, .int v7, .ref a_1, .ref a_2, .ref a_3, .ref a_4, .ref a_5, .ref a_6, .ref a_7, .ref a_8, .ref a_9, .ref a_10])), (a_8, .inl (cy 1, 30, .inl g4)), (a_9, .inl (cy 1, 30, .inl g5)), (a_10, .inl (cy 1, 30, .inl g6))]) hS
    subst hAe
    rw [hQ]
    exact W.vret hx hb hr (fun t ht hW => ⟨⟨(v7, g4, g5, g6), rfl, ⟨rv7, rg4, rg5, rg6, (by rw [eg4, eg5]; exact mm_act_u2 h7 (h1).2 (by decide))⟩, by rw [ht]; exact hP, hK.warm hW, hD⟩, hS.F ht⟩) hS.2.2 dX0_noteAct_49

set_option maxHeartbeats 4000000 in
set_option maxRecDepth 100000 in
theorem K496_X0_swapStart (l : Launch) (G : va_G) (cy : Nat → ClassId) (sz : Nat) (a_0 : Nat) (i_0 : Int32) (i_1 : Int32) (i_2 : Int32) (i_3 : Int32) (i_4 : Int32) (i_5 : Int32) (i_6 : Int32) (i_7 : Int32) (i_8 : Int32) (i_9 : Int32) (i_10 : Int32) (a_1 : Nat) (a_2 : Nat) (a_3 : Nat) (a_4 : Nat) (a_5 : Nat) (a_6 : Nat) (a_7 : Nat) (a_8 : Nat) (a_9 : Nat) (a_10 : Nat) (f_0 : Nat → Int32) (h0 : mm_rg i_0 0 2) (h1 : mm_rg i_1 0 9) (h2 : mm_rg i_2 0 9) (h3 : mm_ar f_0 0 9)  : mm_CV l yX0_swapStart (mm_ws yX0_swapStart cX0_swapStart 5 (none)) ({ frames := 0, cells := 0, slots := 0, locals := 0 } : Room) G cy sz [(a_0, .inr (0, [.int i_3, .int i_4, .int i_5, .int i_6, .int i_7, .int i_8, .int i_9, .int i_10, .ref a_1, .ref a_2, .ref a_3, .ref a_4, .ref a_5, .ref a_6, .ref a_7, .ref a_8, .ref a_9, .ref a_10])), (a_7, .inl (cy 1, 30, .inl f_0))] [.ref a_0, .int i_0, .int i_1, .int i_2] (fun u : (Nat → Int32) => [(a_0, .inr (0, [.int i_3, .int i_4, .int i_5, .int i_6, .int i_7, .int i_8, .int i_9, .int i_10, .ref a_1, .ref a_2, .ref a_3, .ref a_4, .ref a_5, .ref a_6, .ref a_7, .ref a_8, .ref a_9, .ref a_10])), (a_7, .inl (cy 1, 30, .inl u))]) (fun u : (Nat → Int32) => mm_ar u 0 9) 0 0 := by
  refine mm_begin (lv := [(0, .ref a_0), (1, .int i_0), (2, .int i_1), (3, .int i_2)]) (by decide) (Nat.le_of_ble_eq_true rfl) rfl ?_
  intro p e s m below meth c A ls R args Q H locs hRe hQ hAe hx hb hr hlocks hml hown hnm hts hsz hA hS hP hK hD hZ hl
  have hRf : R.frames = 0 := by rw [hRe]
  have hRl : R.locals = 0 := by rw [hRe]
  have hRc : R.cells = 0 := by rw [hRe]
  have hRs : R.slots = 0 := by rw [hRe]
  refine lv_aload_n hx hb dX0_swapStart_0 rfl (lv_at hl 0 rfl) ?_
  refine va_get (D := G) (ci := 0) (v := .ref a_7) (C := RX0) (T := TX0) (N := 18) hx hb hts (mm_i inlX0) hown hK.1 hP 0 rfl rfl 14 (by decide) (mm_h hts mm_w78) (fun _ h9 => h9) rfl dX0_swapStart_1 ?_
  refine lv_iload_n hx hb dX0_swapStart_4 rfl (lv_at hl 1 rfl) ?_
  refine lv_bipush (v := 10) hx hb dX0_swapStart_5 (by decide) ?_
  refine lv_imul hx hb dX0_swapStart_7 ?_
  refine lv_topi (fun v1 ev1 => ?_)
  have rv1 : mm_rg v1 0 20 := mm_mul ev1 h0 mm_k10 (by decide) (by decide)
  refine lv_iload_n hx hb dX0_swapStart_8 rfl (lv_at hl 2 rfl) ?_
  refine lv_iadd hx hb dX0_swapStart_9 ?_
  refine lv_topi (fun v2 ev2 => ?_)
  have rv2 : mm_rg v2 0 29 := mm_add ev2 rv1 h1 (by decide) (by decide)
  have tv2 := mm_addE ev2 rv1 h1 (by decide)
  refine va_iald hx hb hK.1 hP 1 1 rfl rfl (mm_in rv2 (by decide)) dX0_swapStart_10 ?_
  refine lv_topi (fun v3 ev3 => ?_)
  have rv3 : mm_rg v3 0 9 := mm_eqv ev3 (h3 _)
  refine lv_istore (lv' := [(4, .int v3), (0, .ref a_0), (1, .int i_0), (2, .int i_1), (3, .int i_2)]) hx hb dX0_swapStart_11 hl (by decide) rfl ?_
  clear hl
  clear ls
  intro ls hl
  refine lv_aload_n hx hb dX0_swapStart_13 rfl (lv_at hl 1 rfl) ?_
  refine va_get (D := G) (ci := 0) (v := .ref a_7) (C := RX0) (T := TX0) (N := 18) hx hb hts (mm_i inlX0) hown hK.1 hP 0 rfl rfl 14 (by decide) (mm_h hts mm_w78) (fun _ h9 => h9) rfl dX0_swapStart_14 ?_
  refine lv_iload_n hx hb dX0_swapStart_17 rfl (lv_at hl 2 rfl) ?_
  refine lv_bipush (v := 10) hx hb dX0_swapStart_18 (by decide) ?_
  refine lv_imul hx hb dX0_swapStart_20 ?_
  refine lv_topi (fun v4 ev4 => ?_)
  have rv4 : mm_rg v4 0 20 := mm_mul ev4 h0 mm_k10 (by decide) (by decide)
  refine lv_iload_n hx hb dX0_swapStart_21 rfl (lv_at hl 3 rfl) ?_
  refine lv_iadd hx hb dX0_swapStart_22 ?_
  refine lv_topi (fun v5 ev5 => ?_)
  have rv5 : mm_rg v5 0 29 := mm_add ev5 rv4 h1 (by decide) (by decide)
  have tv5 := mm_addE ev5 rv4 h1 (by decide)
  refine lv_aload_n hx hb dX0_swapStart_23 rfl (lv_at hl 1 rfl) ?_
  refine va_get (D := G) (ci := 0) (v := .ref a_7) (C := RX0) (T := TX0) (N := 18) hx hb hts (mm_i inlX0) hown hK.1 hP 0 rfl rfl 14 (by decide) (mm_h hts mm_w78) (fun _ h9 => h9) rfl dX0_swapStart_24 ?_
  refine lv_iload_n hx hb dX0_swapStart_27 rfl (lv_at hl 2 rfl) ?_
  refine lv_bipush (v := 10) hx hb dX0_swapStart_28 (by decide) ?_
  refine lv_imul hx hb dX0_swapStart_30 ?_
  refine lv_topi (fun v6 ev6 => ?_)
  have rv6 : mm_rg v6 0 20 := mm_mul ev6 h0 mm_k10 (by decide) (by decide)
  refine lv_iload_n hx hb dX0_swapStart_31 rfl (lv_at hl 4 rfl) ?_
  refine lv_iadd hx hb dX0_swapStart_32 ?_
  refine lv_topi (fun v7 ev7 => ?_)
  have rv7 : mm_rg v7 0 29 := mm_add ev7 rv6 h2 (by decide) (by decide)
  have tv7 := mm_addE ev7 rv6 h2 (by decide)
  refine va_iald hx hb hK.1 hP 1 1 rfl rfl (mm_in rv7 (by decide)) dX0_swapStart_33 ?_
  refine lv_topi (fun v8 ev8 => ?_)
  have rv8 : mm_rg v8 0 9 := mm_eqv ev8 (h3 _)
  refine va_iast hx hb hK.1 hP hD hS 1 1 rfl rfl (mm_in rv5 (by decide)) dX0_swapStart_34 ?_
  clear hP hD hS
  clear H locs
  obtain ⟨g9, eg9⟩ : ∃ z : Nat → Int32, z = upd f_0 v5.toNatClampNeg v8 := ⟨_, rfl⟩
  rw [← eg9]
  intro H locs (hP : va_P G vwCl [(a_0, .inr (0, [.int i_3, .int i_4, .int i_5, .int i_6, .int i_7, .int i_8, .int i_9, .int i_10, .ref a_1, .ref a_2, .ref a_3, .ref a_4, .ref a_5, .ref a_6, .ref a_7, .ref a_8, .ref a_9, .ref a_10])), (a_7, .inl (cy 1, 30, .inl g9))] H) (hD : va_D A [(a_0, .inr (0, [.int i_3, .int i_4, .int i_5, .int i_6, .int i_7, .int i_8, .int i_9, .int i_10, .ref a_1, .ref a_2, .ref a_3, .ref a_4, .ref a_5, .ref a_6, .ref a_7, .ref a_8, .ref a_9, .ref a_10])), (a_7, .inl (cy 1, 30, .inl g9))]) hS
  have rg9 : mm_ar g9 0 9 := by rw [eg9]; exact mm_ar_upd (mm_ar_wk h3 (by decide)) (mm_wk rv8 (by decide)) _
  refine lv_aload_n hx hb dX0_swapStart_35 rfl (lv_at hl 1 rfl) ?_
  refine va_get (D := G) (ci := 0) (v := .ref a_7) (C := RX0) (T := TX0) (N := 18) hx hb hts (mm_i inlX0) hown hK.1 hP 0 rfl rfl 14 (by decide) (mm_h hts mm_w78) (fun _ h9 => h9) rfl dX0_swapStart_36 ?_
  refine lv_iload_n hx hb dX0_swapStart_39 rfl (lv_at hl 2 rfl) ?_
  refine lv_bipush (v := 10) hx hb dX0_swapStart_40 (by decide) ?_
  refine lv_imul hx hb dX0_swapStart_42 ?_
  refine lv_topi (fun v10 ev10 => ?_)
  have rv10 : mm_rg v10 0 20 := mm_mul ev10 h0 mm_k10 (by decide) (by decide)
  refine lv_iload_n hx hb dX0_swapStart_43 rfl (lv_at hl 4 rfl) ?_
  refine lv_iadd hx hb dX0_swapStart_44 ?_
  refine lv_topi (fun v11 ev11 => ?_)
  have rv11 : mm_rg v11 0 29 := mm_add ev11 rv10 h2 (by decide) (by decide)
  have tv11 := mm_addE ev11 rv10 h2 (by decide)
  refine lv_iload hx hb dX0_swapStart_45 (lv_at hl 0 rfl) ?_
  refine va_iast hx hb hK.1 hP hD hS 1 1 rfl rfl (mm_in rv11 (by decide)) dX0_swapStart_47 ?_
  clear hP hD hS
  clear H locs
  obtain ⟨g12, eg12⟩ : ∃ z : Nat → Int32, z = upd g9 v11.toNatClampNeg v3 := ⟨_, rfl⟩
  rw [← eg12]
  intro H locs (hP : va_P G vwCl [(a_0, .inr (0, [.int i_3, .int i_4, .int i_5, .int i_6, .int i_7, .int i_8, .int i_9, .int i_10, .ref a_1, .ref a_2, .ref a_3, .ref a_4, .ref a_5, .ref a_6, .ref a_7, .ref a_8, .ref a_9, .ref a_10])), (a_7, .inl (cy 1, 30, .inl g12))] H) (hD : va_D A [(a_0, .inr (0, [.int i_3, .int i_4, .int i_5, .int i_6, .int i_7, .int i_8, .int i_9, .int i_10, .ref a_1, .ref a_2, .ref a_3, .ref a_4, .ref a_5, .ref a_6, .ref a_7, .ref a_8, .ref a_9, .ref a_10])), (a_7, .inl (cy 1, 30, .inl g12))]) hS
  have rg12 : mm_ar g12 0 9 := by rw [eg12]; exact mm_ar_upd (mm_ar_wk rg9 (by decide)) (mm_wk rv3 (by decide)) _
  subst hAe
  rw [hQ]
  exact W.vret hx hb hr (fun t ht hW => ⟨⟨g12, rfl, rg12, by rw [ht]; exact hP, hK.warm hW, hD⟩, hS.F ht⟩) hS.2.2 dX0_swapStart_48

set_option maxHeartbeats 4000000 in
set_option maxRecDepth 100000 in
theorem K497_X11_swaps (l : Launch) (G : va_G) (cy : Nat → ClassId) (sz : Nat) (a_0 : Nat) (i_0 : Int32) (i_1 : Int32) (i_2 : Int32) (a_1 : Nat) (a_2 : Nat) (a_3 : Nat) (a_4 : Nat) (a_5 : Nat) (a_6 : Nat) (a_7 : Nat) (a_8 : Nat) (a_9 : Nat) (a_10 : Nat) (a_11 : Nat) (a_12 : Nat) (a_13 : Nat) (i_3 : Int32) (i_4 : Int32) (i_5 : Int32) (i_6 : Int32) (i_7 : Int32) (i_8 : Int32) (i_9 : Int32) (i_10 : Int32) (a_14 : Nat) (a_15 : Nat) (a_16 : Nat) (a_17 : Nat) (a_18 : Nat) (a_19 : Nat) (a_20 : Nat) (a_21 : Nat) (a_22 : Nat) (a_23 : Nat) (f_0 : Nat → Int32) (f_1 : Nat → Int32) (f_2 : Nat → Int32) (f_3 : Nat → Int32) (h0 : mm_rg i_7 0 9) (h1 : mm_rg i_8 0 3) (h2 : mm_rg i_10 0 30) (h3 : mm_ar f_0 0 9) (h4 : mm_ar f_1 (-1) 2) (h5 : mm_ar f_2 0 99) (h6 : mm_ar f_3 0 9) (h7 : mm_act f_1 f_2)  : mm_CI l yX11_swaps (mm_ws yX11_swaps cX11_swaps 5 (some .int)) ({ frames := 2, cells := 0, slots := 0, locals := 41 } : Room) G cy sz [(a_0, .inr (11, [.ref a_1, .ref a_2, .ref a_3, .ref a_4, .ref a_5, .ref a_6, .ref a_7, .ref a_8, .ref a_9, .ref a_10, .ref a_11])), (a_3, .inr (10, [.ref a_12, .ref a_13])), (a_12, .inr (0, [.int i_3, .int i_4, .int i_5, .int i_6, .int i_7, .int i_8, .int i_9, .int i_10, .ref a_14, .ref a_15, .ref a_16, .ref a_17, .ref a_18, .ref a_19, .ref a_20, .ref a_21, .ref a_22, .ref a_23])), (a_20, .inl (cy 1, 30, .inl f_0)), (a_21, .inl (cy 1, 30, .inl f_1)), (a_22, .inl (cy 1, 30, .inl f_2)), (a_23, .inl (cy 1, 30, .inl f_3))] [.ref a_0, .int i_0, .int i_1, .int i_2] (fun u : Int32 × (Nat → Int32) × (Nat → Int32) × (Nat → Int32) × (Nat → Int32) => [(a_0, .inr (11, [.ref a_1, .ref a_2, .ref a_3, .ref a_4, .ref a_5, .ref a_6, .ref a_7, .ref a_8, .ref a_9, .ref a_10, .ref a_11])), (a_3, .inr (10, [.ref a_12, .ref a_13])), (a_12, .inr (0, [.int i_3, .int i_4, .int i_5, .int i_6, .int i_7, .int i_8, .int i_9, .int u.1, .ref a_14, .ref a_15, .ref a_16, .ref a_17, .ref a_18, .ref a_19, .ref a_20, .ref a_21, .ref a_22, .ref a_23])), (a_20, .inl (cy 1, 30, .inl u.2.1)), (a_21, .inl (cy 1, 30, .inl u.2.2.1)), (a_22, .inl (cy 1, 30, .inl u.2.2.2.1)), (a_23, .inl (cy 1, 30, .inl u.2.2.2.2))]) (fun (r : Int32) (u : Int32 × (Nat → Int32) × (Nat → Int32) × (Nat → Int32) × (Nat → Int32)) => mm_rg u.1 0 30 ∧ mm_ar u.2.1 0 9 ∧ mm_ar u.2.2.1 (-1) 2 ∧ mm_ar u.2.2.2.1 0 99 ∧ mm_ar u.2.2.2.2 0 9 ∧ mm_act u.2.2.1 u.2.2.2.1 ∧ mm_rg r (-5) 9) 0 0 := by
  refine mm_begin (lv := [(0, .ref a_0), (1, .int i_0), (2, .int i_1), (3, .int i_2)]) (by decide) (Nat.le_of_ble_eq_true rfl) rfl ?_
  intro p e s m below meth c A ls R args Q H locs hRe hQ hAe hx hb hr hlocks hml hown hnm hts hsz hA hS hP hK hD hZ hl
  have hRf : R.frames = 2 := by rw [hRe]
  have hRl : R.locals = 41 := by rw [hRe]
  have hRc : R.cells = 0 := by rw [hRe]
  have hRs : R.slots = 0 := by rw [hRe]
  refine lv_aload_n hx hb dX11_swaps_0 rfl (lv_at hl 0 rfl) ?_
  refine lv_iload_n hx hb dX11_swaps_1 rfl (lv_at hl 1 rfl) ?_
  refine mm_finir (va_runV (As := [.int i_0]) (rest := []) ⟨hx, hb, hml, hown, hts⟩ (K350_X11_isLand l G cy H.size a_0 i_0 a_1 a_2 a_3 a_4 a_5 a_6 a_7 a_8 a_9 a_10 a_11 a_12 a_13 i_3 i_4 i_5 i_6 i_7 i_8 i_9 i_10 a_14 a_15 a_16 a_17 a_18 a_19 a_20 a_21 a_22 a_23 h1) (cwV 1 hts (mm_gV mm_w626 mm_w627 mm_w628 mm_w2 mm_w629) rfl rfl rfl hd_X11_isLand ⟨by rw [hRf]; exact Nat.le_of_ble_eq_true rfl, by rw [hRl]; exact Nat.le_of_ble_eq_true rfl⟩) (mm_preV hK hZ hS hA hP hD [0, 1, 2] rfl rfl 0 rfl rfl rfl) rfl rfl hl.1 rfl (lv_room (Nat.le_of_ble_eq_true rfl)) dX11_swaps_2 ⟨by rw [hRc]; exact Nat.le_of_ble_eq_true rfl, by rw [hRs]; exact Nat.le_of_ble_eq_true rfl⟩) hP hD hS hA [0, 1, 2] rfl (fun _ => rfl) ?_
  clear hP hD hS
  clear H locs
  intro v1 _u H locs hw hP hD hS
  rcases hw with ⟨rfl, w2⟩ | ⟨rfl, w3⟩
  · refine lv_if_eq (tgt := 29) hx hb dX11_swaps_5 (by decide) (fun c4 => ?_) (fun c4 => ?_)
    · refine lv_bipush (v := (-2)) hx hb dX11_swaps_29 (by decide) ?_
      subst hAe
      rw [hQ]
      exact W.iret (v := (-2)) hx hb hr (fun t ht hW => ⟨⟨(-2), (i_10, f_0, f_1, f_2, f_3), rfl, ⟨h2, h3, h4, h5, h6, h7, (mm_wk mm_km2 (by decide))⟩, by rw [ht]; exact hP, hK.warm hW, hD⟩, hS.F ht⟩) hS.2.2 dX11_swaps_31
    · have q5 := mm_neL (lo := 1) (mm_ne c4) mm_k0 mm_k0 (by decide) (by decide)
      exact mm_no q5 (by decide)
  · refine lv_if_eq (tgt := 29) hx hb dX11_swaps_5 (by decide) (fun c6 => ?_) (fun c6 => ?_)
    · exact mm_eqN c6.symm mm_k0 mm_k1 (by decide)
    · refine lv_aload_n hx hb dX11_swaps_8 rfl (lv_at hl 0 rfl) ?_
      refine lv_iload_n hx hb dX11_swaps_9 rfl (lv_at hl 2 rfl) ?_
      refine mm_finir (va_runV (As := [.int i_1]) (rest := []) ⟨hx, hb, hml, hown, hts⟩ (K351_X11_isWord l G cy H.size a_0 i_1 a_1 a_2 a_3 a_4 a_5 a_6 a_7 a_8 a_9 a_10 a_11 a_12 a_13 i_3 i_4 i_5 i_6 i_7 i_8 i_9 i_10 a_14 a_15 a_16 a_17 a_18 a_19 a_20 a_21 a_22 a_23 h0) (cwV 1 hts (mm_gV mm_w631 mm_w632 mm_w633 mm_w2 mm_w634) rfl rfl rfl hd_X11_isWord ⟨by rw [hRf]; exact Nat.le_of_ble_eq_true rfl, by rw [hRl]; exact Nat.le_of_ble_eq_true rfl⟩) (mm_preV hK hZ hS hA hP hD [0, 1, 2] rfl rfl 0 rfl rfl rfl) rfl rfl hl.1 rfl (lv_room (Nat.le_of_ble_eq_true rfl)) dX11_swaps_10 ⟨by rw [hRc]; exact Nat.le_of_ble_eq_true rfl, by rw [hRs]; exact Nat.le_of_ble_eq_true rfl⟩) hP hD hS hA [0, 1, 2] rfl (fun _ => rfl) ?_
      clear hP hD hS
      clear H locs
      intro v7 _u H locs hw hP hD hS
      rcases hw with ⟨rfl, w8⟩ | ⟨rfl, w9⟩
      · refine lv_if_eq (tgt := 29) hx hb dX11_swaps_13 (by decide) (fun c10 => ?_) (fun c10 => ?_)
        · refine lv_bipush (v := (-2)) hx hb dX11_swaps_29 (by decide) ?_
          subst hAe
          rw [hQ]
          exact W.iret (v := (-2)) hx hb hr (fun t ht hW => ⟨⟨(-2), (i_10, f_0, f_1, f_2, f_3), rfl, ⟨h2, h3, h4, h5, h6, h7, (mm_wk mm_km2 (by decide))⟩, by rw [ht]; exact hP, hK.warm hW, hD⟩, hS.F ht⟩) hS.2.2 dX11_swaps_31
        · have q11 := mm_neL (lo := 1) (mm_ne c10) mm_k0 mm_k0 (by decide) (by decide)
          exact mm_no q11 (by decide)
      · refine lv_if_eq (tgt := 29) hx hb dX11_swaps_13 (by decide) (fun c12 => ?_) (fun c12 => ?_)
        · exact mm_eqN c12.symm mm_k0 mm_k1 (by decide)
        · refine lv_aload_n hx hb dX11_swaps_16 rfl (lv_at hl 0 rfl) ?_
          refine lv_iload_n hx hb dX11_swaps_17 rfl (lv_at hl 3 rfl) ?_
          refine mm_finir (va_runV (As := [.int i_2]) (rest := []) ⟨hx, hb, hml, hown, hts⟩ (K351_X11_isWord l G cy H.size a_0 i_2 a_1 a_2 a_3 a_4 a_5 a_6 a_7 a_8 a_9 a_10 a_11 a_12 a_13 i_3 i_4 i_5 i_6 i_7 i_8 i_9 i_10 a_14 a_15 a_16 a_17 a_18 a_19 a_20 a_21 a_22 a_23 h0) (cwV 1 hts (mm_gV mm_w631 mm_w632 mm_w633 mm_w2 mm_w634) rfl rfl rfl hd_X11_isWord ⟨by rw [hRf]; exact Nat.le_of_ble_eq_true rfl, by rw [hRl]; exact Nat.le_of_ble_eq_true rfl⟩) (mm_preV hK hZ hS hA hP hD [0, 1, 2] rfl rfl 0 rfl rfl rfl) rfl rfl hl.1 rfl (lv_room (Nat.le_of_ble_eq_true rfl)) dX11_swaps_18 ⟨by rw [hRc]; exact Nat.le_of_ble_eq_true rfl, by rw [hRs]; exact Nat.le_of_ble_eq_true rfl⟩) hP hD hS hA [0, 1, 2] rfl (fun _ => rfl) ?_
          clear hP hD hS
          clear H locs
          intro v13 _u H locs hw hP hD hS
          rcases hw with ⟨rfl, w14⟩ | ⟨rfl, w15⟩
          · refine lv_if_eq (tgt := 29) hx hb dX11_swaps_21 (by decide) (fun c16 => ?_) (fun c16 => ?_)
            · refine lv_bipush (v := (-2)) hx hb dX11_swaps_29 (by decide) ?_
              subst hAe
              rw [hQ]
              exact W.iret (v := (-2)) hx hb hr (fun t ht hW => ⟨⟨(-2), (i_10, f_0, f_1, f_2, f_3), rfl, ⟨h2, h3, h4, h5, h6, h7, (mm_wk mm_km2 (by decide))⟩, by rw [ht]; exact hP, hK.warm hW, hD⟩, hS.F ht⟩) hS.2.2 dX11_swaps_31
            · have q17 := mm_neL (lo := 1) (mm_ne c16) mm_k0 mm_k0 (by decide) (by decide)
              exact mm_no q17 (by decide)
          · refine lv_if_eq (tgt := 29) hx hb dX11_swaps_21 (by decide) (fun c18 => ?_) (fun c18 => ?_)
            · exact mm_eqN c18.symm mm_k0 mm_k1 (by decide)
            · refine lv_iload_n hx hb dX11_swaps_24 rfl (lv_at hl 2 rfl) ?_
              refine lv_iload_n hx hb dX11_swaps_25 rfl (lv_at hl 3 rfl) ?_
              refine lv_icmp_ne (tgt := 32) hx hb dX11_swaps_26 (by decide) (fun c19 => ?_) (fun c19 => ?_)
              · refine lv_aload_n hx hb dX11_swaps_32 rfl (lv_at hl 0 rfl) ?_
                refine va_get (D := G) (ci := 11) (v := .ref a_3) (C := RX11) (T := TX11) (N := 11) hx hb hts (mm_i inlX11) hown hK.1 hP 0 rfl rfl 2 (by decide) (mm_h hts mm_w24) (fun _ h9 => h9) rfl dX11_swaps_33 ?_
                refine va_get (D := G) (ci := 10) (v := .ref a_12) (C := RX10) (T := TX10) (N := 2) hx hb hts (mm_i inlX10) hown hK.1 hP 1 rfl rfl 0 (by decide) (mm_h hts mm_w199) (fun _ h9 => h9) rfl dX11_swaps_36 ?_
                refine va_get (D := G) (ci := 0) (v := .int i_10) (C := RX0) (T := TX0) (N := 18) hx hb hts (mm_i inlX0) hown hK.1 hP 2 rfl rfl 7 (by decide) (mm_h hts mm_w1540) (fun _ h9 => h9) rfl dX11_swaps_39 ?_
                refine lv_bipush (v := 30) hx hb dX11_swaps_42 (by decide) ?_
                refine lv_icmp_lt (tgt := 50) hx hb dX11_swaps_44 (by decide) (fun c20 => ?_) (fun c20 => ?_)
                · have q21 := mm_ltL (h := 29) (mm_lt c20) h2 mm_k30 (by decide)
                  refine lv_aload_n hx hb dX11_swaps_50 rfl (lv_at hl 0 rfl) ?_
                  refine va_get (D := G) (ci := 11) (v := .ref a_3) (C := RX11) (T := TX11) (N := 11) hx hb hts (mm_i inlX11) hown hK.1 hP 0 rfl rfl 2 (by decide) (mm_h hts mm_w24) (fun _ h9 => h9) rfl dX11_swaps_51 ?_
                  refine va_get (D := G) (ci := 10) (v := .ref a_12) (C := RX10) (T := TX10) (N := 2) hx hb hts (mm_i inlX10) hown hK.1 hP 1 rfl rfl 0 (by decide) (mm_h hts mm_w199) (fun _ h9 => h9) rfl dX11_swaps_54 ?_
                  refine va_get (D := G) (ci := 0) (v := .ref a_20) (C := RX0) (T := TX0) (N := 18) hx hb hts (mm_i inlX0) hown hK.1 hP 2 rfl rfl 14 (by decide) (mm_h hts mm_w1541) (fun _ h9 => h9) rfl dX11_swaps_57 ?_
                  refine lv_iload_n hx hb dX11_swaps_60 rfl (lv_at hl 1 rfl) ?_
                  refine lv_bipush (v := 10) hx hb dX11_swaps_61 (by decide) ?_
                  refine lv_imul hx hb dX11_swaps_63 ?_
                  refine lv_topi (fun v22 ev22 => ?_)
                  have rv22 : mm_rg v22 0 20 := mm_mul ev22 w3 mm_k10 (by decide) (by decide)
                  refine lv_iload_n hx hb dX11_swaps_64 rfl (lv_at hl 2 rfl) ?_
                  refine lv_iadd hx hb dX11_swaps_65 ?_
                  refine lv_topi (fun v23 ev23 => ?_)
                  have rv23 : mm_rg v23 0 29 := mm_add ev23 rv22 w9 (by decide) (by decide)
                  have tv23 := mm_addE ev23 rv22 w9 (by decide)
                  refine va_iald hx hb hK.1 hP 3 1 rfl rfl (mm_in rv23 (by decide)) dX11_swaps_66 ?_
                  refine lv_topi (fun v24 ev24 => ?_)
                  have rv24 : mm_rg v24 0 9 := mm_eqv ev24 (h3 _)
                  refine lv_istore (lv' := [(4, .int v24), (0, .ref a_0), (1, .int i_0), (2, .int i_1), (3, .int i_2)]) hx hb dX11_swaps_67 hl (by decide) rfl ?_
                  clear hl
                  clear ls
                  intro ls hl
                  refine lv_aload_n hx hb dX11_swaps_69 rfl (lv_at hl 1 rfl) ?_
                  refine va_get (D := G) (ci := 11) (v := .ref a_3) (C := RX11) (T := TX11) (N := 11) hx hb hts (mm_i inlX11) hown hK.1 hP 0 rfl rfl 2 (by decide) (mm_h hts mm_w24) (fun _ h9 => h9) rfl dX11_swaps_70 ?_
                  refine va_get (D := G) (ci := 10) (v := .ref a_12) (C := RX10) (T := TX10) (N := 2) hx hb hts (mm_i inlX10) hown hK.1 hP 1 rfl rfl 0 (by decide) (mm_h hts mm_w199) (fun _ h9 => h9) rfl dX11_swaps_73 ?_
                  refine lv_iload_n hx hb dX11_swaps_76 rfl (lv_at hl 2 rfl) ?_
                  refine lv_iload_n hx hb dX11_swaps_77 rfl (lv_at hl 3 rfl) ?_
                  refine lv_iload_n hx hb dX11_swaps_78 rfl (lv_at hl 4 rfl) ?_
                  refine mm_finv (va_runV (As := [.int i_0, .int i_1, .int i_2]) (rest := []) ⟨hx, hb, hml, hown, hts⟩ (K495_X0_noteAct l G cy H.size a_12 i_0 i_1 i_2 i_3 i_4 i_5 i_6 i_7 i_8 i_9 i_10 a_14 a_15 a_16 a_17 a_18 a_19 a_20 a_21 a_22 a_23 f_1 f_2 f_3 w3 w9 w15 (mm_wk q21 (by decide)) h4 h5 h6 h7) (cwV 3 hts (mm_gV mm_w1542 mm_w1543 mm_w1544 mm_w28 mm_w1545) rfl rfl rfl hd_X0_noteAct ⟨by rw [hRf]; exact Nat.le_of_ble_eq_true rfl, by rw [hRl]; exact Nat.le_of_ble_eq_true rfl⟩) (mm_preV hK hZ hS hA hP hD [2, 4, 5, 6] rfl rfl 2 rfl rfl rfl) rfl rfl hl.1 rfl (lv_room (Nat.le_of_ble_eq_true rfl)) dX11_swaps_79 ⟨by rw [hRc]; exact Nat.le_of_ble_eq_true rfl, by rw [hRs]; exact Nat.le_of_ble_eq_true rfl⟩) hP hD hS hA (fun u : Int32 × (Nat → Int32) × (Nat → Int32) × (Nat → Int32) => [(a_0, .inr (11, [.ref a_1, .ref a_2, .ref a_3, .ref a_4, .ref a_5, .ref a_6, .ref a_7, .ref a_8, .ref a_9, .ref a_10, .ref a_11])), (a_3, .inr (10, [.ref a_12, .ref a_13])), (a_12, .inr (0, [.int i_3, .int i_4, .int i_5, .int i_6, .int i_7, .int i_8, .int i_9, .int u.1, .ref a_14, .ref a_15, .ref a_16, .ref a_17, .ref a_18, .ref a_19, .ref a_20, .ref a_21, .ref a_22, .ref a_23])), (a_20, .inl (cy 1, 30, .inl f_0)), (a_21, .inl (cy 1, 30, .inl u.2.1)), (a_22, .inl (cy 1, 30, .inl u.2.2.1)), (a_23, .inl (cy 1, 30, .inl u.2.2.2))]) [2, 4, 5, 6] [0, 1, 3] (n := 7) (fun _ => rfl) (by decide +kernel) (by decide +kernel) rfl (fun _ => rfl) (wr := [(a_0, .inr (11, [.ref a_1, .ref a_2, .ref a_3, .ref a_4, .ref a_5, .ref a_6, .ref a_7, .ref a_8, .ref a_9, .ref a_10, .ref a_11])), (a_3, .inr (10, [.ref a_12, .ref a_13])), (a_20, .inl (cy 1, 30, .inl f_0))]) rfl (fun _ => rfl) (fun _ => rfl) ?_
                  clear hP hD hS
                  clear H locs
                  intro u
                  obtain ⟨n25, n26, n27, n28⟩ := u
                  intro H locs hw (hP : va_P G vwCl [(a_0, .inr (11, [.ref a_1, .ref a_2, .ref a_3, .ref a_4, .ref a_5, .ref a_6, .ref a_7, .ref a_8, .ref a_9, .ref a_10, .ref a_11])), (a_3, .inr (10, [.ref a_12, .ref a_13])), (a_12, .inr (0, [.int i_3, .int i_4, .int i_5, .int i_6, .int i_7, .int i_8, .int i_9, .int n25, .ref a_14, .ref a_15, .ref a_16, .ref a_17, .ref a_18, .ref a_19, .ref a_20, .ref a_21, .ref a_22, .ref a_23])), (a_20, .inl (cy 1, 30, .inl f_0)), (a_21, .inl (cy 1, 30, .inl n26)), (a_22, .inl (cy 1, 30, .inl n27)), (a_23, .inl (cy 1, 30, .inl n28))] H) (hD : va_D A [(a_0, .inr (11, [.ref a_1, .ref a_2, .ref a_3, .ref a_4, .ref a_5, .ref a_6, .ref a_7, .ref a_8, .ref a_9, .ref a_10, .ref a_11])), (a_3, .inr (10, [.ref a_12, .ref a_13])), (a_12, .inr (0, [.int i_3, .int i_4, .int i_5, .int i_6, .int i_7, .int i_8, .int i_9, .int n25, .ref a_14, .ref a_15, .ref a_16, .ref a_17, .ref a_18, .ref a_19, .ref a_20, .ref a_21, .ref a_22, .ref a_23])), (a_20, .inl (cy 1, 30, .inl f_0)), (a_21, .inl (cy 1, 30, .inl n26)), (a_22, .inl (cy 1, 30, .inl n27)), (a_23, .inl (cy 1, 30, .inl n28))]) hS
                  obtain ⟨w29, w30, w31, w32, w33⟩ := hw
                  refine lv_aload_n hx hb dX11_swaps_82 rfl (lv_at hl 1 rfl) ?_
                  refine va_get (D := G) (ci := 11) (v := .ref a_3) (C := RX11) (T := TX11) (N := 11) hx hb hts (mm_i inlX11) hown hK.1 hP 0 rfl rfl 2 (by decide) (mm_h hts mm_w24) (fun _ h9 => h9) rfl dX11_swaps_83 ?_
                  refine va_get (D := G) (ci := 10) (v := .ref a_12) (C := RX10) (T := TX10) (N := 2) hx hb hts (mm_i inlX10) hown hK.1 hP 1 rfl rfl 0 (by decide) (mm_h hts mm_w199) (fun _ h9 => h9) rfl dX11_swaps_86 ?_
                  refine lv_iload_n hx hb dX11_swaps_89 rfl (lv_at hl 2 rfl) ?_
                  refine lv_iload_n hx hb dX11_swaps_90 rfl (lv_at hl 3 rfl) ?_
                  refine lv_iload_n hx hb dX11_swaps_91 rfl (lv_at hl 4 rfl) ?_
                  refine mm_finv (va_runV (As := [.int i_0, .int i_1, .int i_2]) (rest := []) ⟨hx, hb, hml, hown, hts⟩ (K496_X0_swapStart l G cy H.size a_12 i_0 i_1 i_2 i_3 i_4 i_5 i_6 i_7 i_8 i_9 n25 a_14 a_15 a_16 a_17 a_18 a_19 a_20 a_21 a_22 a_23 f_0 w3 w9 w15 h3) (cwV 3 hts (mm_gV mm_w1546 mm_w1547 mm_w1548 mm_w28 mm_w1549) rfl rfl rfl hd_X0_swapStart ⟨by rw [hRf]; exact Nat.le_of_ble_eq_true rfl, by rw [hRl]; exact Nat.le_of_ble_eq_true rfl⟩) (mm_preV hK hZ hS hA hP hD [2, 3] rfl rfl 2 rfl rfl rfl) rfl rfl hl.1 rfl (lv_room (Nat.le_of_ble_eq_true rfl)) dX11_swaps_92 ⟨by rw [hRc]; exact Nat.le_of_ble_eq_true rfl, by rw [hRs]; exact Nat.le_of_ble_eq_true rfl⟩) hP hD hS hA (fun u : (Nat → Int32) => [(a_0, .inr (11, [.ref a_1, .ref a_2, .ref a_3, .ref a_4, .ref a_5, .ref a_6, .ref a_7, .ref a_8, .ref a_9, .ref a_10, .ref a_11])), (a_3, .inr (10, [.ref a_12, .ref a_13])), (a_12, .inr (0, [.int i_3, .int i_4, .int i_5, .int i_6, .int i_7, .int i_8, .int i_9, .int n25, .ref a_14, .ref a_15, .ref a_16, .ref a_17, .ref a_18, .ref a_19, .ref a_20, .ref a_21, .ref a_22, .ref a_23])), (a_20, .inl (cy 1, 30, .inl u)), (a_21, .inl (cy 1, 30, .inl n26)), (a_22, .inl (cy 1, 30, .inl n27)), (a_23, .inl (cy 1, 30, .inl n28))]) [2, 3] [0, 1, 4, 5, 6] (n := 7) (fun _ => rfl) (by decide +kernel) (by decide +kernel) rfl (fun _ => rfl) (wr := [(a_0, .inr (11, [.ref a_1, .ref a_2, .ref a_3, .ref a_4, .ref a_5, .ref a_6, .ref a_7, .ref a_8, .ref a_9, .ref a_10, .ref a_11])), (a_3, .inr (10, [.ref a_12, .ref a_13])), (a_21, .inl (cy 1, 30, .inl n26)), (a_22, .inl (cy 1, 30, .inl n27)), (a_23, .inl (cy 1, 30, .inl n28))]) rfl (fun _ => rfl) (fun _ => rfl) ?_
                  clear hP hD hS
                  clear H locs
                  intro n34 H locs hw (hP : va_P G vwCl [(a_0, .inr (11, [.ref a_1, .ref a_2, .ref a_3, .ref a_4, .ref a_5, .ref a_6, .ref a_7, .ref a_8, .ref a_9, .ref a_10, .ref a_11])), (a_3, .inr (10, [.ref a_12, .ref a_13])), (a_12, .inr (0, [.int i_3, .int i_4, .int i_5, .int i_6, .int i_7, .int i_8, .int i_9, .int n25, .ref a_14, .ref a_15, .ref a_16, .ref a_17, .ref a_18, .ref a_19, .ref a_20, .ref a_21, .ref a_22, .ref a_23])), (a_20, .inl (cy 1, 30, .inl n34)), (a_21, .inl (cy 1, 30, .inl n26)), (a_22, .inl (cy 1, 30, .inl n27)), (a_23, .inl (cy 1, 30, .inl n28))] H) (hD : va_D A [(a_0, .inr (11, [.ref a_1, .ref a_2, .ref a_3, .ref a_4, .ref a_5, .ref a_6, .ref a_7, .ref a_8, .ref a_9, .ref a_10, .ref a_11])), (a_3, .inr (10, [.ref a_12, .ref a_13])), (a_12, .inr (0, [.int i_3, .int i_4, .int i_5, .int i_6, .int i_7, .int i_8, .int i_9, .int n25, .ref a_14, .ref a_15, .ref a_16, .ref a_17, .ref a_18, .ref a_19, .ref a_20, .ref a_21, .ref a_22, .ref a_23])), (a_20, .inl (cy 1, 30, .inl n34)), (a_21, .inl (cy 1, 30, .inl n26)), (a_22, .inl (cy 1, 30, .inl n27)), (a_23, .inl (cy 1, 30, .inl n28))]) hS
                  have w35 := hw
                  refine lv_iload hx hb dX11_swaps_95 (lv_at hl 0 rfl) ?_
                  subst hAe
                  rw [hQ]
                  exact W.iret (v := v24) hx hb hr (fun t ht hW => ⟨⟨v24, (n25, n34, n26, n27, n28), rfl, ⟨(mm_wk w29 (by decide)), w35, w30, w31, w32, w33, (mm_wk rv24 (by decide))⟩, by rw [ht]; exact hP, hK.warm hW, hD⟩, hS.F ht⟩) hS.2.2 dX11_swaps_97
                · have q36 := mm_leR (mm_nlt c20) mm_k30 h2
                  refine lv_bipush (v := (-5)) hx hb dX11_swaps_47 (by decide) ?_
                  subst hAe
                  rw [hQ]
                  exact W.iret (v := (-5)) hx hb hr (fun t ht hW => ⟨⟨(-5), (i_10, f_0, f_1, f_2, f_3), rfl, ⟨(mm_wk q36 (by decide)), h3, h4, h5, h6, h7, (mm_wk mm_km5 (by decide))⟩, by rw [ht]; exact hP, hK.warm hW, hD⟩, hS.F ht⟩) hS.2.2 dX11_swaps_49
              · refine lv_bipush (v := (-2)) hx hb dX11_swaps_29 (by decide) ?_
                subst hAe
                rw [hQ]
                exact W.iret (v := (-2)) hx hb hr (fun t ht hW => ⟨⟨(-2), (i_10, f_0, f_1, f_2, f_3), rfl, ⟨h2, h3, h4, h5, h6, h7, (mm_wk mm_km2 (by decide))⟩, by rw [ht]; exact hP, hK.warm hW, hD⟩, hS.F ht⟩) hS.2.2 dX11_swaps_31

