theorem dX12_anew_0 : decode cX12_anew 0 = .ok (.aload_n 0, 1) := by decide +kernel
theorem dX12_anew_1 : decode cX12_anew 1 = .ok (.iconst 0, 1) := by decide +kernel
theorem dX12_anew_2 : decode cX12_anew 2 = .ok (.putfield 77, 3) := by decide +kernel
theorem dX12_anew_5 : decode cX12_anew 5 = .ok (.aload_n 0, 1) := by decide +kernel
theorem dX12_anew_6 : decode cX12_anew 6 = .ok (.invokevirtual 251, 3) := by decide +kernel
theorem dX12_anew_9 : decode cX12_anew 9 = .ok (.ifCond .ne 6, 3) := by decide +kernel
theorem dX12_anew_12 : decode cX12_anew 12 = .ok (.bipush (-2), 2) := by decide +kernel
theorem dX12_anew_14 : decode cX12_anew 14 = .ok (.ireturn, 1) := by decide +kernel
theorem dX12_anew_15 : decode cX12_anew 15 = .ok (.aload_n 0, 1) := by decide +kernel
theorem dX12_anew_16 : decode cX12_anew 16 = .ok (.getfield 34, 3) := by decide +kernel
theorem dX12_anew_19 : decode cX12_anew 19 = .ok (.iconst 5, 1) := by decide +kernel
theorem dX12_anew_20 : decode cX12_anew 20 = .ok (.iaload, 1) := by decide +kernel
theorem dX12_anew_21 : decode cX12_anew 21 = .ok (.istore_n 1, 1) := by decide +kernel
theorem dX12_anew_22 : decode cX12_anew 22 = .ok (.aload_n 0, 1) := by decide +kernel
theorem dX12_anew_23 : decode cX12_anew 23 = .ok (.getfield 34, 3) := by decide +kernel
theorem dX12_anew_26 : decode cX12_anew 26 = .ok (.iconst 5, 1) := by decide +kernel
theorem dX12_anew_27 : decode cX12_anew 27 = .ok (.iconst 0, 1) := by decide +kernel
theorem dX12_anew_28 : decode cX12_anew 28 = .ok (.iastore, 1) := by decide +kernel
theorem dX12_anew_29 : decode cX12_anew 29 = .ok (.iload_n 1, 1) := by decide +kernel
theorem dX12_anew_30 : decode cX12_anew 30 = .ok (.ireturn, 1) := by decide +kernel
theorem dX12_drawn_0 : decode cX12_drawn 0 = .ok (.aload_n 0, 1) := by decide +kernel
theorem dX12_drawn_1 : decode cX12_drawn 1 = .ok (.iconst 0, 1) := by decide +kernel
theorem dX12_drawn_2 : decode cX12_drawn 2 = .ok (.putfield 77, 3) := by decide +kernel
theorem dX12_drawn_5 : decode cX12_drawn 5 = .ok (.aload_n 0, 1) := by decide +kernel
theorem dX12_drawn_6 : decode cX12_drawn 6 = .ok (.invokevirtual 251, 3) := by decide +kernel
theorem dX12_drawn_9 : decode cX12_drawn 9 = .ok (.ifCond .eq 32, 3) := by decide +kernel
theorem dX12_drawn_12 : decode cX12_drawn 12 = .ok (.iload_n 1, 1) := by decide +kernel
theorem dX12_drawn_13 : decode cX12_drawn 13 = .ok (.invokestatic 454, 3) := by decide +kernel
theorem dX12_drawn_16 : decode cX12_drawn 16 = .ok (.ifCond .eq 25, 3) := by decide +kernel
theorem dX12_drawn_19 : decode cX12_drawn 19 = .ok (.iload_n 2, 1) := by decide +kernel
theorem dX12_drawn_20 : decode cX12_drawn 20 = .ok (.i2l, 1) := by decide +kernel
theorem dX12_drawn_21 : decode cX12_drawn 21 = .ok (.lconst 0, 1) := by decide +kernel
theorem dX12_drawn_22 : decode cX12_drawn 22 = .ok (.ldc2_w 410, 3) := by decide +kernel
theorem dX12_drawn_25 : decode cX12_drawn 25 = .ok (.invokestatic 82, 3) := by decide +kernel
theorem dX12_drawn_28 : decode cX12_drawn 28 = .ok (.ifCond .eq 13, 3) := by decide +kernel
theorem dX12_drawn_31 : decode cX12_drawn 31 = .ok (.aload_n 0, 1) := by decide +kernel
theorem dX12_drawn_32 : decode cX12_drawn 32 = .ok (.iload_n 1, 1) := by decide +kernel
theorem dX12_drawn_33 : decode cX12_drawn 33 = .ok (.i2l, 1) := by decide +kernel
theorem dX12_drawn_34 : decode cX12_drawn 34 = .ok (.iload_n 2, 1) := by decide +kernel
theorem dX12_drawn_35 : decode cX12_drawn 35 = .ok (.invokevirtual 457, 3) := by decide +kernel
theorem dX12_drawn_38 : decode cX12_drawn 38 = .ok (.goto 5, 3) := by decide +kernel
theorem dX12_drawn_41 : decode cX12_drawn 41 = .ok (.bipush (-2), 2) := by decide +kernel
theorem dX12_drawn_43 : decode cX12_drawn 43 = .ok (.ireturn, 1) := by decide +kernel
theorem dX12_drawnOf_0 : decode cX12_drawnOf 0 = .ok (.lload_n 1, 1) := by decide +kernel
theorem dX12_drawnOf_1 : decode cX12_drawnOf 1 = .ok (.lstore 4, 2) := by decide +kernel
theorem dX12_drawnOf_3 : decode cX12_drawnOf 3 = .ok (.iconst 0, 1) := by decide +kernel
theorem dX12_drawnOf_4 : decode cX12_drawnOf 4 = .ok (.istore 6, 2) := by decide +kernel
theorem dX12_drawnOf_6 : decode cX12_drawnOf 6 = .ok (.iconst 0, 1) := by decide +kernel
theorem dX12_drawnOf_7 : decode cX12_drawnOf 7 = .ok (.istore 7, 2) := by decide +kernel
theorem dX12_drawnOf_9 : decode cX12_drawnOf 9 = .ok (.iload 7, 2) := by decide +kernel
theorem dX12_drawnOf_11 : decode cX12_drawnOf 11 = .ok (.iload_n 3, 1) := by decide +kernel
theorem dX12_drawnOf_12 : decode cX12_drawnOf 12 = .ok (.if_icmp .ge 56, 3) := by decide +kernel
theorem dX12_drawnOf_15 : decode cX12_drawnOf 15 = .ok (.ldc2_w 444, 3) := by decide +kernel
theorem dX12_drawnOf_18 : decode cX12_drawnOf 18 = .ok (.lload 4, 2) := by decide +kernel
theorem dX12_drawnOf_20 : decode cX12_drawnOf 20 = .ok (.lmul, 1) := by decide +kernel
theorem dX12_drawnOf_21 : decode cX12_drawnOf 21 = .ok (.ldc2_w 446, 3) := by decide +kernel
theorem dX12_drawnOf_24 : decode cX12_drawnOf 24 = .ok (.ladd, 1) := by decide +kernel
theorem dX12_drawnOf_25 : decode cX12_drawnOf 25 = .ok (.ldc2_w 448, 3) := by decide +kernel
theorem dX12_drawnOf_28 : decode cX12_drawnOf 28 = .ok (.lrem, 1) := by decide +kernel
theorem dX12_drawnOf_29 : decode cX12_drawnOf 29 = .ok (.lstore 4, 2) := by decide +kernel
theorem dX12_drawnOf_31 : decode cX12_drawnOf 31 = .ok (.iload 6, 2) := by decide +kernel
theorem dX12_drawnOf_33 : decode cX12_drawnOf 33 = .ok (.lload 4, 2) := by decide +kernel
theorem dX12_drawnOf_35 : decode cX12_drawnOf 35 = .ok (.ldc2_w 450, 3) := by decide +kernel
theorem dX12_drawnOf_38 : decode cX12_drawnOf 38 = .ok (.ldiv, 1) := by decide +kernel
theorem dX12_drawnOf_39 : decode cX12_drawnOf 39 = .ok (.ldc2_w 433, 3) := by decide +kernel
theorem dX12_drawnOf_42 : decode cX12_drawnOf 42 = .ok (.lrem, 1) := by decide +kernel
theorem dX12_drawnOf_43 : decode cX12_drawnOf 43 = .ok (.aload_n 0, 1) := by decide +kernel
theorem dX12_drawnOf_44 : decode cX12_drawnOf 44 = .ok (.getfield 34, 3) := by decide +kernel
theorem dX12_drawnOf_47 : decode cX12_drawnOf 47 = .ok (.iconst 0, 1) := by decide +kernel
theorem dX12_drawnOf_48 : decode cX12_drawnOf 48 = .ok (.iaload, 1) := by decide +kernel
theorem dX12_drawnOf_49 : decode cX12_drawnOf 49 = .ok (.i2l, 1) := by decide +kernel
theorem dX12_drawnOf_50 : decode cX12_drawnOf 50 = .ok (.lcmp, 1) := by decide +kernel
theorem dX12_drawnOf_51 : decode cX12_drawnOf 51 = .ok (.ifCond .ge 7, 3) := by decide +kernel
theorem dX12_drawnOf_54 : decode cX12_drawnOf 54 = .ok (.iconst 1, 1) := by decide +kernel
theorem dX12_drawnOf_55 : decode cX12_drawnOf 55 = .ok (.goto 4, 3) := by decide +kernel
theorem dX12_drawnOf_58 : decode cX12_drawnOf 58 = .ok (.iconst 0, 1) := by decide +kernel
theorem dX12_drawnOf_59 : decode cX12_drawnOf 59 = .ok (.iadd, 1) := by decide +kernel
theorem dX12_drawnOf_60 : decode cX12_drawnOf 60 = .ok (.istore 6, 2) := by decide +kernel
theorem dX12_drawnOf_62 : decode cX12_drawnOf 62 = .ok (.iinc 7 1, 3) := by decide +kernel
theorem dX12_drawnOf_65 : decode cX12_drawnOf 65 = .ok (.goto (-56), 3) := by decide +kernel
theorem dX12_drawnOf_68 : decode cX12_drawnOf 68 = .ok (.iload 6, 2) := by decide +kernel
theorem dX12_drawnOf_70 : decode cX12_drawnOf 70 = .ok (.ireturn, 1) := by decide +kernel
theorem dX12_fixed_0 : decode cX12_fixed 0 = .ok (.aload_n 0, 1) := by decide +kernel
theorem dX12_fixed_1 : decode cX12_fixed 1 = .ok (.iconst 0, 1) := by decide +kernel
theorem dX12_fixed_2 : decode cX12_fixed 2 = .ok (.putfield 77, 3) := by decide +kernel
theorem dX12_fixed_5 : decode cX12_fixed 5 = .ok (.aload_n 0, 1) := by decide +kernel
theorem dX12_fixed_6 : decode cX12_fixed 6 = .ok (.iload_n 1, 1) := by decide +kernel
theorem dX12_fixed_7 : decode cX12_fixed 7 = .ok (.invokevirtual 265, 3) := by decide +kernel
theorem dX12_fixed_10 : decode cX12_fixed 10 = .ok (.ifCond .ne 6, 3) := by decide +kernel
theorem dX12_fixed_13 : decode cX12_fixed 13 = .ok (.bipush (-2), 2) := by decide +kernel
theorem dX12_fixed_15 : decode cX12_fixed 15 = .ok (.ireturn, 1) := by decide +kernel
theorem dX12_fixed_16 : decode cX12_fixed 16 = .ok (.iconst 0, 1) := by decide +kernel
theorem dX12_fixed_17 : decode cX12_fixed 17 = .ok (.istore_n 2, 1) := by decide +kernel
theorem dX12_fixed_18 : decode cX12_fixed 18 = .ok (.iconst 0, 1) := by decide +kernel
theorem dX12_fixed_19 : decode cX12_fixed 19 = .ok (.istore_n 3, 1) := by decide +kernel
theorem dX12_fixed_20 : decode cX12_fixed 20 = .ok (.iload_n 3, 1) := by decide +kernel
theorem dX12_fixed_21 : decode cX12_fixed 21 = .ok (.aload_n 0, 1) := by decide +kernel
theorem dX12_fixed_22 : decode cX12_fixed 22 = .ok (.invokevirtual 257, 3) := by decide +kernel
theorem dX12_fixed_25 : decode cX12_fixed 25 = .ok (.if_icmp .ge 29, 3) := by decide +kernel
theorem dX12_fixed_28 : decode cX12_fixed 28 = .ok (.iload_n 2, 1) := by decide +kernel
theorem dX12_fixed_29 : decode cX12_fixed 29 = .ok (.aload_n 0, 1) := by decide +kernel
theorem dX12_fixed_30 : decode cX12_fixed 30 = .ok (.iload_n 1, 1) := by decide +kernel
theorem dX12_fixed_31 : decode cX12_fixed 31 = .ok (.iload_n 3, 1) := by decide +kernel
theorem dX12_fixed_32 : decode cX12_fixed 32 = .ok (.invokevirtual 273, 3) := by decide +kernel
theorem dX12_fixed_35 : decode cX12_fixed 35 = .ok (.iload_n 3, 1) := by decide +kernel
theorem dX12_fixed_36 : decode cX12_fixed 36 = .ok (.if_icmp .ne 9, 3) := by decide +kernel
theorem dX12_fixed_39 : decode cX12_fixed 39 = .ok (.iconst 1, 1) := by decide +kernel
theorem dX12_fixed_40 : decode cX12_fixed 40 = .ok (.iload_n 3, 1) := by decide +kernel
theorem dX12_fixed_41 : decode cX12_fixed 41 = .ok (.ishl, 1) := by decide +kernel
theorem dX12_fixed_42 : decode cX12_fixed 42 = .ok (.goto 4, 3) := by decide +kernel
theorem dX12_fixed_45 : decode cX12_fixed 45 = .ok (.iconst 0, 1) := by decide +kernel
theorem dX12_fixed_46 : decode cX12_fixed 46 = .ok (.ior, 1) := by decide +kernel
theorem dX12_fixed_47 : decode cX12_fixed 47 = .ok (.istore_n 2, 1) := by decide +kernel
theorem dX12_fixed_48 : decode cX12_fixed 48 = .ok (.iinc 3 1, 3) := by decide +kernel
theorem dX12_fixed_51 : decode cX12_fixed 51 = .ok (.goto (-31), 3) := by decide +kernel
theorem dX12_fixed_54 : decode cX12_fixed 54 = .ok (.iload_n 2, 1) := by decide +kernel
theorem dX12_fixed_55 : decode cX12_fixed 55 = .ok (.ireturn, 1) := by decide +kernel
theorem dX12_isBook_13 : decode cX12_isBook 13 = .ok (.iconst 0, 1) := by decide +kernel
theorem dX12_isSeed_0 : decode cX12_isSeed 0 = .ok (.iload_n 0, 1) := by decide +kernel
theorem dX12_isSeed_1 : decode cX12_isSeed 1 = .ok (.i2l, 1) := by decide +kernel
theorem dX12_isSeed_2 : decode cX12_isSeed 2 = .ok (.lconst 0, 1) := by decide +kernel
theorem dX12_isSeed_3 : decode cX12_isSeed 3 = .ok (.ldc2_w 452, 3) := by decide +kernel
theorem dX12_isSeed_6 : decode cX12_isSeed 6 = .ok (.invokestatic 82, 3) := by decide +kernel
theorem dX12_isSeed_9 : decode cX12_isSeed 9 = .ok (.ireturn, 1) := by decide +kernel
theorem dX12_rate_0 : decode cX12_rate 0 = .ok (.aload_n 0, 1) := by decide +kernel
theorem dX12_rate_1 : decode cX12_rate 1 = .ok (.iconst 0, 1) := by decide +kernel
theorem dX12_rate_2 : decode cX12_rate 2 = .ok (.putfield 77, 3) := by decide +kernel
theorem dX12_rate_5 : decode cX12_rate 5 = .ok (.iload_n 1, 1) := by decide +kernel
theorem dX12_rate_6 : decode cX12_rate 6 = .ok (.i2l, 1) := by decide +kernel
theorem dX12_rate_7 : decode cX12_rate 7 = .ok (.lconst 0, 1) := by decide +kernel
theorem dX12_rate_8 : decode cX12_rate 8 = .ok (.aload_n 0, 1) := by decide +kernel
theorem dX12_rate_9 : decode cX12_rate 9 = .ok (.invokevirtual 254, 3) := by decide +kernel
theorem dX12_rate_12 : decode cX12_rate 12 = .ok (.i2l, 1) := by decide +kernel
theorem dX12_rate_13 : decode cX12_rate 13 = .ok (.lconst 1, 1) := by decide +kernel
theorem dX12_rate_14 : decode cX12_rate 14 = .ok (.lsub, 1) := by decide +kernel
theorem dX12_rate_15 : decode cX12_rate 15 = .ok (.invokestatic 82, 3) := by decide +kernel
theorem dX12_rate_18 : decode cX12_rate 18 = .ok (.ifCond .eq 27, 3) := by decide +kernel
theorem dX12_rate_21 : decode cX12_rate 21 = .ok (.aload_n 0, 1) := by decide +kernel
theorem dX12_rate_22 : decode cX12_rate 22 = .ok (.getfield 37, 3) := by decide +kernel
theorem dX12_rate_25 : decode cX12_rate 25 = .ok (.iconst 2, 1) := by decide +kernel
theorem dX12_rate_26 : decode cX12_rate 26 = .ok (.iload_n 1, 1) := by decide +kernel
theorem dX12_rate_27 : decode cX12_rate 27 = .ok (.imul, 1) := by decide +kernel
theorem dX12_rate_28 : decode cX12_rate 28 = .ok (.iaload, 1) := by decide +kernel
theorem dX12_rate_29 : decode cX12_rate 29 = .ok (.iconst 1, 1) := by decide +kernel
theorem dX12_rate_30 : decode cX12_rate 30 = .ok (.if_icmp .gt 15, 3) := by decide +kernel
theorem dX12_rate_33 : decode cX12_rate 33 = .ok (.iload_n 2, 1) := by decide +kernel
theorem dX12_rate_34 : decode cX12_rate 34 = .ok (.i2l, 1) := by decide +kernel
theorem dX12_rate_35 : decode cX12_rate 35 = .ok (.lconst 0, 1) := by decide +kernel
theorem dX12_rate_36 : decode cX12_rate 36 = .ok (.ldc2_w 467, 3) := by decide +kernel
theorem dX12_rate_39 : decode cX12_rate 39 = .ok (.invokestatic 82, 3) := by decide +kernel
theorem dX12_rate_42 : decode cX12_rate 42 = .ok (.ifCond .ne 6, 3) := by decide +kernel
theorem dX12_rate_45 : decode cX12_rate 45 = .ok (.bipush (-2), 2) := by decide +kernel
theorem dX12_rate_47 : decode cX12_rate 47 = .ok (.ireturn, 1) := by decide +kernel
theorem dX12_rate_48 : decode cX12_rate 48 = .ok (.aload_n 0, 1) := by decide +kernel
theorem dX12_rate_49 : decode cX12_rate 49 = .ok (.getfield 34, 3) := by decide +kernel
theorem dX12_rate_52 : decode cX12_rate 52 = .ok (.iconst 5, 1) := by decide +kernel
theorem dX12_rate_53 : decode cX12_rate 53 = .ok (.iaload, 1) := by decide +kernel
theorem dX12_rate_54 : decode cX12_rate 54 = .ok (.ifCond .le 6, 3) := by decide +kernel
theorem dX12_rate_57 : decode cX12_rate 57 = .ok (.bipush (-5), 2) := by decide +kernel
theorem dX12_rate_59 : decode cX12_rate 59 = .ok (.ireturn, 1) := by decide +kernel
theorem dX12_rate_60 : decode cX12_rate 60 = .ok (.aload_n 0, 1) := by decide +kernel
theorem dX12_rate_61 : decode cX12_rate 61 = .ok (.getfield 37, 3) := by decide +kernel
theorem dX12_rate_64 : decode cX12_rate 64 = .ok (.iconst 2, 1) := by decide +kernel
theorem dX12_rate_65 : decode cX12_rate 65 = .ok (.iload_n 1, 1) := by decide +kernel
theorem dX12_rate_66 : decode cX12_rate 66 = .ok (.imul, 1) := by decide +kernel
theorem dX12_rate_67 : decode cX12_rate 67 = .ok (.iconst 1, 1) := by decide +kernel
theorem dX12_rate_68 : decode cX12_rate 68 = .ok (.iadd, 1) := by decide +kernel
theorem dX12_rate_69 : decode cX12_rate 69 = .ok (.iaload, 1) := by decide +kernel
theorem dX12_rate_70 : decode cX12_rate 70 = .ok (.istore_n 3, 1) := by decide +kernel
theorem dX12_rate_71 : decode cX12_rate 71 = .ok (.aload_n 0, 1) := by decide +kernel
theorem dX12_rate_72 : decode cX12_rate 72 = .ok (.getfield 37, 3) := by decide +kernel
theorem dX12_rate_75 : decode cX12_rate 75 = .ok (.iconst 2, 1) := by decide +kernel
theorem dX12_rate_76 : decode cX12_rate 76 = .ok (.iload_n 1, 1) := by decide +kernel
theorem dX12_rate_77 : decode cX12_rate 77 = .ok (.imul, 1) := by decide +kernel
theorem dX12_rate_78 : decode cX12_rate 78 = .ok (.iconst 1, 1) := by decide +kernel
theorem dX12_rate_79 : decode cX12_rate 79 = .ok (.iadd, 1) := by decide +kernel
theorem dX12_rate_80 : decode cX12_rate 80 = .ok (.iload_n 2, 1) := by decide +kernel
theorem dX12_rate_81 : decode cX12_rate 81 = .ok (.iastore, 1) := by decide +kernel
theorem dX12_rate_82 : decode cX12_rate 82 = .ok (.iload_n 3, 1) := by decide +kernel
theorem dX12_rate_83 : decode cX12_rate 83 = .ok (.ireturn, 1) := by decide +kernel
theorem dX12_undo_0 : decode cX12_undo 0 = .ok (.aload_n 0, 1) := by decide +kernel
theorem dX12_undo_1 : decode cX12_undo 1 = .ok (.iconst 0, 1) := by decide +kernel
theorem dX12_undo_2 : decode cX12_undo 2 = .ok (.putfield 77, 3) := by decide +kernel
theorem dX12_undo_5 : decode cX12_undo 5 = .ok (.aload_n 0, 1) := by decide +kernel
theorem dX12_undo_6 : decode cX12_undo 6 = .ok (.invokevirtual 251, 3) := by decide +kernel
theorem dX12_undo_9 : decode cX12_undo 9 = .ok (.ifCond .ne 6, 3) := by decide +kernel
theorem dX12_undo_12 : decode cX12_undo 12 = .ok (.bipush (-2), 2) := by decide +kernel
theorem dX12_undo_14 : decode cX12_undo 14 = .ok (.ireturn, 1) := by decide +kernel
theorem dX12_undo_15 : decode cX12_undo 15 = .ok (.aload_n 0, 1) := by decide +kernel
theorem dX12_undo_16 : decode cX12_undo 16 = .ok (.getfield 34, 3) := by decide +kernel
theorem dX12_undo_19 : decode cX12_undo 19 = .ok (.iconst 5, 1) := by decide +kernel
theorem dX12_undo_20 : decode cX12_undo 20 = .ok (.iaload, 1) := by decide +kernel
theorem dX12_undo_21 : decode cX12_undo 21 = .ok (.ifCond .ne 6, 3) := by decide +kernel
theorem dX12_undo_24 : decode cX12_undo 24 = .ok (.bipush (-5), 2) := by decide +kernel
theorem dX12_undo_26 : decode cX12_undo 26 = .ok (.ireturn, 1) := by decide +kernel
theorem dX12_undo_27 : decode cX12_undo 27 = .ok (.aload_n 0, 1) := by decide +kernel
theorem dX12_undo_28 : decode cX12_undo 28 = .ok (.getfield 34, 3) := by decide +kernel
theorem dX12_undo_31 : decode cX12_undo 31 = .ok (.iconst 5, 1) := by decide +kernel
theorem dX12_undo_32 : decode cX12_undo 32 = .ok (.dup2, 1) := by decide +kernel
theorem dX12_undo_33 : decode cX12_undo 33 = .ok (.iaload, 1) := by decide +kernel
theorem dX12_undo_34 : decode cX12_undo 34 = .ok (.iconst 1, 1) := by decide +kernel
theorem dX12_undo_35 : decode cX12_undo 35 = .ok (.isub, 1) := by decide +kernel
theorem dX12_undo_36 : decode cX12_undo 36 = .ok (.iastore, 1) := by decide +kernel
theorem dX12_undo_37 : decode cX12_undo 37 = .ok (.aload_n 0, 1) := by decide +kernel
theorem dX12_undo_38 : decode cX12_undo 38 = .ok (.getfield 34, 3) := by decide +kernel
theorem dX12_undo_41 : decode cX12_undo 41 = .ok (.iconst 5, 1) := by decide +kernel
theorem dX12_undo_42 : decode cX12_undo 42 = .ok (.iaload, 1) := by decide +kernel
theorem dX12_undo_43 : decode cX12_undo 43 = .ok (.ireturn, 1) := by decide +kernel
theorem mm_kl2000000000 : mm_rl 2000000000 2000000000 2000000000 := ⟨by decide, by decide⟩
theorem mm_kl7 : mm_rl 7 7 7 := ⟨by decide, by decide⟩
theorem hd_X12_drawnOf : yX12_drawnOf.cls = RX12 ∧ yX12_drawnOf.cls ≠ "java/lang/invoke/MethodHandle" ∧ yX12_drawnOf.cls ≠ "java/lang/invoke/VarHandle" ∧ (parseMethodDescriptor yX12_drawnOf.desc).map (fun d => d.parameters.length) = some 2 := by decide +kernel
theorem hd_X12_turnOf : yX12_turnOf.cls = RX12 ∧ yX12_turnOf.cls ≠ "java/lang/invoke/MethodHandle" ∧ yX12_turnOf.cls ≠ "java/lang/invoke/VarHandle" ∧ (parseMethodDescriptor yX12_turnOf.desc).map (fun d => d.parameters.length) = some 2 := by decide +kernel
theorem hs_X12_isSeed : yX12_isSeed.cls ≠ "java/lang/invoke/MethodHandle" ∧ yX12_isSeed.cls ≠ "java/lang/invoke/VarHandle" ∧ (parseMethodDescriptor yX12_isSeed.desc).map (fun d => d.parameters.length) = some 1 := by decide +kernel
set_option maxHeartbeats 4000000 in
set_option maxRecDepth 100000 in
theorem M104_X12_fixed (l : Launch) (G : va_G) (cy : Nat → ClassId) (sz : Nat) (a_0 : Nat) (i_0 : Int32) (i_1 : Int32) (a_1 : Nat) (a_2 : Nat) (a_3 : Nat) (a_4 : Nat) (a_5 : Nat) (i_2 : Int32) (i_3 : Int32) (i_4 : Int32) (i_5 : Int32) (i_6 : Int32) (j_0 : Int64) (i_7 : Int32) (i_8 : Int32) (i_9 : Int32) (i_10 : Int32) (a_6 : Nat) (a_7 : Nat) (a_8 : Nat) (a_9 : Nat) (a_10 : Nat) (a_11 : Nat) (a_12 : Nat) (a_13 : Nat) (a_14 : Nat) (a_15 : Nat) (a_16 : Nat) (a_17 : Nat) (a_18 : Nat) (i_11 : Int32) (i_12 : Int32) (i_13 : Int32) (i_14 : Int32) (i_15 : Int32) (i_16 : Int32) (a_19 : Nat) (i_17 : Int32) (a_20 : Nat) (i_18 : Int32) (i_19 : Int32) (i_20 : Int32) (i_21 : Int32) (i_22 : Int32) (i_23 : Int32) (i_24 : Int32) (i_25 : Int32) (i_26 : Int32) (i_27 : Int32) (i_28 : Int32) (i_29 : Int32) (i_30 : Int32) (i_31 : Int32) (i_32 : Int32) (i_33 : Int32) (i_34 : Int32) (i_35 : Int32) (i_36 : Int32) (i_37 : Int32) (i_38 : Int32) (i_39 : Int32) (i_40 : Int32) (i_41 : Int32) (i_42 : Int32) (i_43 : Int32) (i_44 : Int32) (i_45 : Int32) (i_46 : Int32) (i_47 : Int32) (i_48 : Int32) (i_49 : Int32) (i_50 : Int32) (i_51 : Int32) (i_52 : Int32) (f_0 : Nat → Int32) (f_1 : Nat → Int32) (h0 : mm_rg i_18 0 601) (h1 : mm_rg i_19 0 601) (h2 : mm_rg i_20 0 601) (h3 : mm_rg i_21 0 601) (h4 : mm_rg i_22 0 601) (h5 : mm_rg i_23 0 10) (h6 : mm_rg i_24 0 99) (h7 : mm_rg i_25 0 9) (h8 : mm_rg i_26 0 3) (h9 : mm_rg i_27 0 6) (h10 : mm_rg i_28 0 30) (h11 : mm_rg i_29 0 10) (h12 : mm_rg i_30 0 99) (h13 : mm_rg i_31 0 9) (h14 : mm_rg i_32 0 3) (h15 : mm_rg i_33 0 6) (h16 : mm_rg i_34 0 30) (h17 : mm_rg i_35 0 10) (h18 : mm_rg i_36 0 99) (h19 : mm_rg i_37 0 9) (h20 : mm_rg i_38 0 3) (h21 : mm_rg i_39 0 6) (h22 : mm_rg i_40 0 30) (h23 : mm_rg i_41 0 10) (h24 : mm_rg i_42 0 99) (h25 : mm_rg i_43 0 9) (h26 : mm_rg i_44 0 3) (h27 : mm_rg i_45 0 6) (h28 : mm_rg i_46 0 30) (h29 : mm_rg i_47 0 10) (h30 : mm_rg i_48 0 99) (h31 : mm_rg i_49 0 9) (h32 : mm_rg i_50 0 3) (h33 : mm_rg i_51 0 6) (h34 : mm_rg i_52 0 30) (h35 : mm_ar f_0 0 7) (h36 : mm_ar f_1 0 9) (h37 : mm_rls f_0 f_1 0 i_25 i_26) (h38 : mm_tl i_18 i_26 i_27) (h39 : mm_rls f_0 f_1 1 i_31 i_32) (h40 : mm_tl i_19 i_32 i_33) (h41 : mm_rls f_0 f_1 2 i_37 i_38) (h42 : mm_tl i_20 i_38 i_39) (h43 : mm_rls f_0 f_1 3 i_43 i_44) (h44 : mm_tl i_21 i_44 i_45)  : mm_CI l yX12_fixed (mm_ws yX12_fixed cX12_fixed 4 (some .int)) ({ frames := 2, cells := 0, slots := 0, locals := 46 } : Room) G cy sz [(a_0, .inr (12, [.int i_1, .ref a_1, .ref a_2, .ref a_3, .ref a_4, .ref a_5, .int i_2, .int i_3, .int i_4, .int i_5, .int i_6, .long j_0, .int i_7, .int i_8, .int i_9, .int i_10, .ref a_6, .ref a_7, .ref a_8, .ref a_9, .ref a_10, .ref a_11, .ref a_12, .ref a_13, .ref a_14, .ref a_15, .ref a_16, .ref a_17, .ref a_18, .int i_11, .int i_12, .int i_13, .int i_14, .int i_15, .int i_16, .ref a_19, .int i_17, .ref a_20])), (a_6, .inl (cy 1, 5, .inl (mm_g [i_18, i_19, i_20, i_21, i_22]))), (a_7, .inl (cy 1, 30, .inl (mm_g [i_23, i_24, i_25, i_26, i_27, i_28, i_29, i_30, i_31, i_32, i_33, i_34, i_35, i_36, i_37, i_38, i_39, i_40, i_41, i_42, i_43, i_44, i_45, i_46, i_47, i_48, i_49, i_50, i_51, i_52]))), (a_9, .inl (cy 1, 15, .inl f_0)), (a_10, .inl (cy 1, 1050, .inl f_1))] [.ref a_0, .int i_0] (fun u : Unit => [(a_0, .inr (12, [.int 0, .ref a_1, .ref a_2, .ref a_3, .ref a_4, .ref a_5, .int i_2, .int i_3, .int i_4, .int i_5, .int i_6, .long j_0, .int i_7, .int i_8, .int i_9, .int i_10, .ref a_6, .ref a_7, .ref a_8, .ref a_9, .ref a_10, .ref a_11, .ref a_12, .ref a_13, .ref a_14, .ref a_15, .ref a_16, .ref a_17, .ref a_18, .int i_11, .int i_12, .int i_13, .int i_14, .int i_15, .int i_16, .ref a_19, .int i_17, .ref a_20])), (a_6, .inl (cy 1, 5, .inl (mm_g [i_18, i_19, i_20, i_21, i_22]))), (a_7, .inl (cy 1, 30, .inl (mm_g [i_23, i_24, i_25, i_26, i_27, i_28, i_29, i_30, i_31, i_32, i_33, i_34, i_35, i_36, i_37, i_38, i_39, i_40, i_41, i_42, i_43, i_44, i_45, i_46, i_47, i_48, i_49, i_50, i_51, i_52]))), (a_9, .inl (cy 1, 15, .inl f_0)), (a_10, .inl (cy 1, 1050, .inl f_1))]) (fun (r : Int32) (u : Unit) => mm_rg r (-2) 2147483647) 0 0 := by
  refine mm_begin (lv := [(0, .ref a_0), (1, .int i_0)]) (by decide) (Nat.le_of_ble_eq_true rfl) rfl ?_
  intro p e s m below meth c A ls R args Q H locs hRe hQ hAe hx hb hr hlocks hml hown hnm hts hsz hA hS hP hK hD hZ hl
  have hRf : R.frames = 2 := by rw [hRe]
  have hRl : R.locals = 46 := by rw [hRe]
  have hRc : R.cells = 0 := by rw [hRe]
  have hRs : R.slots = 0 := by rw [hRe]
  refine lv_aload_n hx hb dX12_fixed_0 rfl (lv_at hl 0 rfl) ?_
  refine lv_iconst (v := 0) hx hb dX12_fixed_1 (by decide) ?_
  refine va_put (D := G) (ci := 12) (v := .int 0) (ty := tyX12 0) (C := RX12) (T := TX12) (N := 38) hx hb hts (mm_i inlX12) tyX12 tyX12_ok nmX12 hown hK.1 hP hD hS 0 rfl rfl 0 (by decide) (mm_h hts mm_w177) (fun _ h9 => h9) rfl (tyX12_ok 0 (by decide)) rfl rfl (Nat.le_of_ble_eq_true rfl) dX12_fixed_2 ?_
  clear hP hD hS
  clear H locs
  intro H locs (hP : va_P G vwCl [(a_0, .inr (12, [.int 0, .ref a_1, .ref a_2, .ref a_3, .ref a_4, .ref a_5, .int i_2, .int i_3, .int i_4, .int i_5, .int i_6, .long j_0, .int i_7, .int i_8, .int i_9, .int i_10, .ref a_6, .ref a_7, .ref a_8, .ref a_9, .ref a_10, .ref a_11, .ref a_12, .ref a_13, .ref a_14, .ref a_15, .ref a_16, .ref a_17, .ref a_18, .int i_11, .int i_12, .int i_13, .int i_14, .int i_15, .int i_16, .ref a_19, .int i_17, .ref a_20])), (a_6, .inl (cy 1, 5, .inl (mm_g [i_18, i_19, i_20, i_21, i_22]))), (a_7, .inl (cy 1, 30, .inl (mm_g [i_23, i_24, i_25, i_26, i_27, i_28, i_29, i_30, i_31, i_32, i_33, i_34, i_35, i_36, i_37, i_38, i_39, i_40, i_41, i_42, i_43, i_44, i_45, i_46, i_47, i_48, i_49, i_50, i_51, i_52]))), (a_9, .inl (cy 1, 15, .inl f_0)), (a_10, .inl (cy 1, 1050, .inl f_1))] H) (hD : va_D A [(a_0, .inr (12, [.int 0, .ref a_1, .ref a_2, .ref a_3, .ref a_4, .ref a_5, .int i_2, .int i_3, .int i_4, .int i_5, .int i_6, .long j_0, .int i_7, .int i_8, .int i_9, .int i_10, .ref a_6, .ref a_7, .ref a_8, .ref a_9, .ref a_10, .ref a_11, .ref a_12, .ref a_13, .ref a_14, .ref a_15, .ref a_16, .ref a_17, .ref a_18, .int i_11, .int i_12, .int i_13, .int i_14, .int i_15, .int i_16, .ref a_19, .int i_17, .ref a_20])), (a_6, .inl (cy 1, 5, .inl (mm_g [i_18, i_19, i_20, i_21, i_22]))), (a_7, .inl (cy 1, 30, .inl (mm_g [i_23, i_24, i_25, i_26, i_27, i_28, i_29, i_30, i_31, i_32, i_33, i_34, i_35, i_36, i_37, i_38, i_39, i_40, i_41, i_42, i_43, i_44, i_45, i_46, i_47, i_48, i_49, i_50, i_51, i_52]))), (a_9, .inl (cy 1, 15, .inl f_0)), (a_10, .inl (cy 1, 1050, .inl f_1))]) hS
  refine lv_aload_n hx hb dX12_fixed_5 rfl (lv_at hl 0 rfl) ?_
  refine lv_iload_n hx hb dX12_fixed_6 rfl (lv_at hl 1 rfl) ?_
  refine mm_finir (va_runV (As := [.int i_0]) (rest := []) ⟨hx, hb, hml, hown, hts⟩ (M98_X12_isLand l G cy H.size a_0 i_0 0 a_1 a_2 a_3 a_4 a_5 i_2 i_3 i_4 i_5 i_6 j_0 i_7 i_8 i_9 i_10 a_6 a_7 a_8 a_9 a_10 a_11 a_12 a_13 a_14 a_15 a_16 a_17 a_18 i_11 i_12 i_13 i_14 i_15 i_16 a_19 i_17 a_20 i_23 i_24 i_25 i_26 i_27 i_28 i_29 i_30 i_31 i_32 i_33 i_34 i_35 i_36 i_37 i_38 i_39 i_40 i_41 i_42 i_43 i_44 i_45 i_46 i_47 i_48 i_49 i_50 i_51 i_52 h5 h6 h7 h8 h9 h10 h11 h12 h13 h14 h15 h16 h17 h18 h19 h20 h21 h22 h23 h24 h25 h26 h27 h28 h29 h30 h31 h32 h33 h34) (cwV 1 hts (mm_gV mm_w641 mm_w642 mm_w643 mm_w5 mm_w644) rfl rfl rfl hd_X12_isLand ⟨by rw [hRf]; exact Nat.le_of_ble_eq_true rfl, by rw [hRl]; exact Nat.le_of_ble_eq_true rfl⟩) (mm_preV hK hZ hS hA hP hD [0, 2] rfl rfl 0 rfl rfl rfl) rfl rfl hl.1 rfl (lv_room (Nat.le_of_ble_eq_true rfl)) dX12_fixed_7 ⟨by rw [hRc]; exact Nat.le_of_ble_eq_true rfl, by rw [hRs]; exact Nat.le_of_ble_eq_true rfl⟩) hP hD hS hA [0, 2] rfl (fun _ => rfl) ?_
  clear hP hD hS
  clear H locs
  intro v1 _u H locs hw hP hD hS
  rcases hw with rfl | ⟨rfl, w2, w3⟩
  · refine lv_if_ne (tgt := 16) hx hb dX12_fixed_10 (by decide) (fun c4 => ?_) (fun c4 => ?_)
    · have q5 := mm_neL (lo := 1) (mm_ne c4) mm_k0 mm_k0 (by decide) (by decide)
      exact mm_no q5 (by decide)
    · refine lv_bipush (v := (-2)) hx hb dX12_fixed_13 (by decide) ?_
      subst hAe
      rw [hQ]
      exact W.iret (v := (-2)) hx hb hr (fun t ht hW => ⟨⟨(-2), (), rfl, (mm_wk mm_km2 (by decide)), by rw [ht]; exact hP, hK.warm hW, hD⟩, hS.F ht⟩) hS.2.2 dX12_fixed_15
  · have q6 := mm_ltR (lo := 1) w3 w2 h8 (by decide)
    have q7 : mm_rg i_18 1 601 := mm_tl_3 h38 q6 h0 (by decide)
    refine lv_if_ne (tgt := 16) hx hb dX12_fixed_10 (by decide) (fun c8 => ?_) (fun c8 => ?_)
    · refine lv_iconst (v := 0) hx hb dX12_fixed_16 (by decide) ?_
      refine lv_istore_n (lv' := [(2, .int 0), (0, .ref a_0), (1, .int i_0)]) hx hb dX12_fixed_17 rfl hl (by decide) rfl ?_
      clear hl
      clear ls
      intro ls hl
      refine lv_iconst (v := 0) hx hb dX12_fixed_18 (by decide) ?_
      refine lv_istore_n (lv' := [(3, .int 0), (2, .int 0), (0, .ref a_0), (1, .int i_0)]) hx hb dX12_fixed_19 rfl hl (by decide) rfl ?_
      clear hl
      clear ls
      intro ls hl
      have L20_251 : ∀ (n : Nat) (x20_3_250 : Int32) (x20_2_251 : Int32), mm_rg x20_3_250 0 10 → mm_rg x20_2_251 0 2147483647 → (10 - x20_3_250.toInt).toNat < n → ∀ (H : Heap) (locs : List Loc), va_P G vwCl [(a_0, .inr (12, [.int 0, .ref a_1, .ref a_2, .ref a_3, .ref a_4, .ref a_5, .int i_2, .int i_3, .int i_4, .int i_5, .int i_6, .long j_0, .int i_7, .int i_8, .int i_9, .int i_10, .ref a_6, .ref a_7, .ref a_8, .ref a_9, .ref a_10, .ref a_11, .ref a_12, .ref a_13, .ref a_14, .ref a_15, .ref a_16, .ref a_17, .ref a_18, .int i_11, .int i_12, .int i_13, .int i_14, .int i_15, .int i_16, .ref a_19, .int i_17, .ref a_20])), (a_6, .inl (cy 1, 5, .inl (mm_g [i_18, i_19, i_20, i_21, i_22]))), (a_7, .inl (cy 1, 30, .inl (mm_g [i_23, i_24, i_25, i_26, i_27, i_28, i_29, i_30, i_31, i_32, i_33, i_34, i_35, i_36, i_37, i_38, i_39, i_40, i_41, i_42, i_43, i_44, i_45, i_46, i_47, i_48, i_49, i_50, i_51, i_52]))), (a_9, .inl (cy 1, 15, .inl f_0)), (a_10, .inl (cy 1, 1050, .inl f_1))] H → va_D A [(a_0, .inr (12, [.int 0, .ref a_1, .ref a_2, .ref a_3, .ref a_4, .ref a_5, .int i_2, .int i_3, .int i_4, .int i_5, .int i_6, .long j_0, .int i_7, .int i_8, .int i_9, .int i_10, .ref a_6, .ref a_7, .ref a_8, .ref a_9, .ref a_10, .ref a_11, .ref a_12, .ref a_13, .ref a_14, .ref a_15, .ref a_16, .ref a_17, .ref a_18, .int i_11, .int i_12, .int i_13, .int i_14, .int i_15, .int i_16, .ref a_19, .int i_17, .ref a_20])), (a_6, .inl (cy 1, 5, .inl (mm_g [i_18, i_19, i_20, i_21, i_22]))), (a_7, .inl (cy 1, 30, .inl (mm_g [i_23, i_24, i_25, i_26, i_27, i_28, i_29, i_30, i_31, i_32, i_33, i_34, i_35, i_36, i_37, i_38, i_39, i_40, i_41, i_42, i_43, i_44, i_45, i_46, i_47, i_48, i_49, i_50, i_51, i_52]))), (a_9, .inl (cy 1, 15, .inl f_0)), (a_10, .inl (cy 1, 1050, .inl f_1))] → va_S A s.heap H locs → ∀ (ls : Array Slot), lv_has ls 4 [(3, .int x20_3_250), (2, .int x20_2_251), (0, .ref a_0), (1, .int i_0)] → W p l e R s m args below meth c H locs 0 0 Q (F0 m 20 ls []) := by
        intro n
        induction n with
        | zero => intro x20_3_250 x20_2_251 rx20_3_250 rx20_2_251 hm; exact absurd hm (Nat.not_lt_zero _)
        | succ n ih20 =>
          intro x20_3_250 x20_2_251 rx20_3_250 rx20_2_251 hm20 H locs hP hD hS ls hl
          refine lv_iload_n hx hb dX12_fixed_20 rfl (lv_at hl 0 rfl) ?_
          refine lv_aload_n hx hb dX12_fixed_21 rfl (lv_at hl 2 rfl) ?_
          refine mm_finir (va_runV (As := []) (rest := [.int x20_3_250]) ⟨hx, hb, hml, hown, hts⟩ (M100_X12_words l G cy H.size a_0 0 a_1 a_2 a_3 a_4 a_5 i_2 i_3 i_4 i_5 i_6 j_0 i_7 i_8 i_9 i_10 a_6 a_7 a_8 a_9 a_10 a_11 a_12 a_13 a_14 a_15 a_16 a_17 a_18 i_11 i_12 i_13 i_14 i_15 i_16 a_19 i_17 a_20 i_18 i_19 i_20 i_21 i_22 i_23 i_24 i_25 i_26 i_27 i_28 i_29 i_30 i_31 i_32 i_33 i_34 i_35 i_36 i_37 i_38 i_39 i_40 i_41 i_42 i_43 i_44 i_45 i_46 i_47 i_48 i_49 i_50 i_51 i_52 q7 h1 h2 h3 h4 h5 h6 h7 (mm_wk q6 (by decide)) h9 h10 h11 h12 h13 h14 h15 h16 h17 h18 h19 h20 h21 h22 h23 h24 h25 h26 h27 h28 h29 h30 h31 h32 h33 h34 h38 h40 h42 h44) (cwV 0 hts (mm_gV mm_w649 mm_w650 mm_w651 mm_w5 mm_w652) rfl rfl rfl hd_X12_words ⟨by rw [hRf]; exact Nat.le_of_ble_eq_true rfl, by rw [hRl]; exact Nat.le_of_ble_eq_true rfl⟩) (mm_preV hK hZ hS hA hP hD [0, 1, 2] rfl rfl 0 rfl rfl rfl) rfl rfl hl.1 rfl (lv_room (Nat.le_of_ble_eq_true rfl)) dX12_fixed_22 ⟨by rw [hRc]; exact Nat.le_of_ble_eq_true rfl, by rw [hRs]; exact Nat.le_of_ble_eq_true rfl⟩) hP hD hS hA [0, 1, 2] rfl (fun _ => rfl) ?_
          clear hP hD hS
          clear H locs
          intro v253 _u H locs hw hP hD hS
          obtain ⟨w254, w255⟩ := hw
          have t256 : (v253 : Int32).toInt = (i_25 : Int32).toInt + 1 := w255
          refine lv_icmp_ge (tgt := 54) hx hb dX12_fixed_25 (by decide) (fun c257 => ?_) (fun c257 => ?_)
          · have q258 := mm_leR (mm_le c257) w254 rx20_3_250
            refine lv_iload_n hx hb dX12_fixed_54 rfl (lv_at hl 1 rfl) ?_
            subst hAe
            rw [hQ]
            exact W.iret (v := x20_2_251) hx hb hr (fun t ht hW => ⟨⟨x20_2_251, (), rfl, (mm_wk rx20_2_251 (by decide)), by rw [ht]; exact hP, hK.warm hW, hD⟩, hS.F ht⟩) hS.2.2 dX12_fixed_55
          · have q259 := mm_ltL (h := 9) (mm_nle c257) rx20_3_250 w254 (by decide)
            refine lv_iload_n hx hb dX12_fixed_28 rfl (lv_at hl 1 rfl) ?_
            refine lv_aload_n hx hb dX12_fixed_29 rfl (lv_at hl 2 rfl) ?_
            refine lv_iload_n hx hb dX12_fixed_30 rfl (lv_at hl 3 rfl) ?_
            refine lv_iload_n hx hb dX12_fixed_31 rfl (lv_at hl 0 rfl) ?_
            refine mm_finir (va_runV (As := [.int i_0, .int x20_3_250]) (rest := [.int x20_2_251]) ⟨hx, hb, hml, hown, hts⟩ (M103_X12_turnOf l G cy H.size a_0 i_0 x20_3_250 0 a_1 a_2 a_3 a_4 a_5 i_2 i_3 i_4 i_5 i_6 j_0 i_7 i_8 i_9 i_10 a_6 a_7 a_8 a_9 a_10 a_11 a_12 a_13 a_14 a_15 a_16 a_17 a_18 i_11 i_12 i_13 i_14 i_15 i_16 a_19 i_17 a_20 f_0 f_1 w2 q259 h35 h36) (cwV 2 hts (mm_gV mm_w702 mm_w703 mm_w704 mm_w5 mm_w705) rfl rfl rfl hd_X12_turnOf ⟨by rw [hRf]; exact Nat.le_of_ble_eq_true rfl, by rw [hRl]; exact Nat.le_of_ble_eq_true rfl⟩) (mm_preV hK hZ hS hA hP hD [0, 3, 4] rfl rfl 0 rfl rfl rfl) rfl rfl hl.1 rfl (lv_room (Nat.le_of_ble_eq_true rfl)) dX12_fixed_32 ⟨by rw [hRc]; exact Nat.le_of_ble_eq_true rfl, by rw [hRs]; exact Nat.le_of_ble_eq_true rfl⟩) hP hD hS hA [0, 3, 4] rfl (fun _ => rfl) ?_
            clear hP hD hS
            clear H locs
            intro v260 _u H locs hw hP hD hS
            obtain ⟨w261, w262⟩ := hw
            refine lv_iload_n hx hb dX12_fixed_35 rfl (lv_at hl 0 rfl) ?_
            refine lv_icmp_ne (tgt := 45) hx hb dX12_fixed_36 (by decide) (fun c263 => ?_) (fun c263 => ?_)
            · refine lv_iconst (v := 0) hx hb dX12_fixed_45 (by decide) ?_
              refine lv_ior hx hb dX12_fixed_46 ?_
              refine lv_topi (fun v264 ev264 => ?_)
              have rv264 : mm_rg v264 0 2147483647 := mm_or ev264 31 rx20_2_251 mm_k0 (by decide)
              refine lv_istore_n (lv' := [(2, .int v264), (3, .int x20_3_250), (0, .ref a_0), (1, .int i_0)]) hx hb dX12_fixed_47 rfl hl (by decide) rfl ?_
              clear hl
              clear ls
              intro ls hl
              obtain ⟨v265, ev265⟩ : ∃ y : Int32, y = x20_3_250 + 1 := ⟨_, rfl⟩
              refine lv_iinc (v := v265) (lv' := [(3, .int v265), (2, .int v264), (0, .ref a_0), (1, .int i_0)]) hx hb dX12_fixed_48 hl (k := 1) rfl (by rw [ev265]; rfl) (by decide) rfl ?_
              clear hl
              clear ls
              intro ls hl
              have rv265 : mm_rg v265 1 10 := mm_add ev265 q259 mm_k1 (by decide) (by decide)
              have tv265 := mm_addEc ev265 q259 mm_k1 (by decide) (k := 1) (by decide)
              refine lv_goto (tgt := 20) hx hb dX12_fixed_51 (by decide) ?_
              exact ih20 v265 v264 (mm_wk rv265 (by decide)) rv264 (mm_mu hm20 tv265 (by decide) (rv265).2 (by decide)) H locs hP hD hS ls (lv_sub hl [0, 1, 2, 3] rfl)
            · refine lv_iconst (v := 1) hx hb dX12_fixed_39 (by decide) ?_
              refine lv_iload_n hx hb dX12_fixed_40 rfl (lv_at hl 0 rfl) ?_
              refine lv_ishl hx hb dX12_fixed_41 ?_
              refine lv_topi (fun v266 ev266 => ?_)
              have rv266 : mm_rg v266 1 512 := mm_shl1 ev266 q259 (by decide)
              refine lv_goto (tgt := 46) hx hb dX12_fixed_42 (by decide) ?_
              refine lv_ior hx hb dX12_fixed_46 ?_
              refine lv_topi (fun v267 ev267 => ?_)
              have rv267 : mm_rg v267 0 2147483647 := mm_or ev267 31 rx20_2_251 rv266 (by decide)
              refine lv_istore_n (lv' := [(2, .int v267), (3, .int x20_3_250), (0, .ref a_0), (1, .int i_0)]) hx hb dX12_fixed_47 rfl hl (by decide) rfl ?_
              clear hl
              clear ls
              intro ls hl
              obtain ⟨v268, ev268⟩ : ∃ y : Int32, y = x20_3_250 + 1 := ⟨_, rfl⟩
              refine lv_iinc (v := v268) (lv' := [(3, .int v268), (2, .int v267), (0, .ref a_0), (1, .int i_0)]) hx hb dX12_fixed_48 hl (k := 1) rfl (by rw [ev268]; rfl) (by decide) rfl ?_
              clear hl
              clear ls
              intro ls hl
              have rv268 : mm_rg v268 1 10 := mm_add ev268 q259 mm_k1 (by decide) (by decide)
              have tv268 := mm_addEc ev268 q259 mm_k1 (by decide) (k := 1) (by decide)
              refine lv_goto (tgt := 20) hx hb dX12_fixed_51 (by decide) ?_
              exact ih20 v268 v267 (mm_wk rv268 (by decide)) rv267 (mm_mu hm20 tv268 (by decide) (rv268).2 (by decide)) H locs hP hD hS ls (lv_sub hl [0, 1, 2, 3] rfl)
      exact L20_251 _ 0 0 (mm_wk mm_k0 (by decide)) (mm_wk mm_k0 (by decide)) (Nat.lt_succ_self _) H locs hP hD hS ls (lv_sub hl [0, 1, 2, 3] rfl)
    · exact mm_eqN c8.symm mm_k0 mm_k1 (by decide)

set_option maxHeartbeats 4000000 in
set_option maxRecDepth 100000 in
theorem M105_X12_isBook (l : Launch) (G : va_G) (cy : Nat → ClassId) (sz : Nat) (a_0 : Nat) (i_0 : Int32) (a_1 : Nat) (a_2 : Nat) (a_3 : Nat) (a_4 : Nat) (a_5 : Nat) (i_1 : Int32) (i_2 : Int32) (i_3 : Int32) (i_4 : Int32) (i_5 : Int32) (j_0 : Int64) (i_6 : Int32) (i_7 : Int32) (i_8 : Int32) (i_9 : Int32) (a_6 : Nat) (a_7 : Nat) (a_8 : Nat) (a_9 : Nat) (a_10 : Nat) (a_11 : Nat) (a_12 : Nat) (a_13 : Nat) (a_14 : Nat) (a_15 : Nat) (a_16 : Nat) (a_17 : Nat) (a_18 : Nat) (i_10 : Int32) (i_11 : Int32) (i_12 : Int32) (i_13 : Int32) (i_14 : Int32) (i_15 : Int32) (a_19 : Nat) (i_16 : Int32) (a_20 : Nat) (i_17 : Int32) (i_18 : Int32) (i_19 : Int32) (i_20 : Int32) (i_21 : Int32) (h0 : mm_rg i_17 0 601) (h1 : mm_rg i_18 0 601) (h2 : mm_rg i_19 0 601) (h3 : mm_rg i_20 0 601) (h4 : mm_rg i_21 0 601)  : mm_CI l yX12_isBook (mm_ws yX12_isBook cX12_isBook 1 (some .boolean)) ({ frames := 0, cells := 0, slots := 0, locals := 0 } : Room) G cy sz [(a_0, .inr (12, [.int i_0, .ref a_1, .ref a_2, .ref a_3, .ref a_4, .ref a_5, .int i_1, .int i_2, .int i_3, .int i_4, .int i_5, .long j_0, .int i_6, .int i_7, .int i_8, .int i_9, .ref a_6, .ref a_7, .ref a_8, .ref a_9, .ref a_10, .ref a_11, .ref a_12, .ref a_13, .ref a_14, .ref a_15, .ref a_16, .ref a_17, .ref a_18, .int i_10, .int i_11, .int i_12, .int i_13, .int i_14, .int i_15, .ref a_19, .int i_16, .ref a_20])), (a_6, .inl (cy 1, 5, .inl (mm_g [i_17, i_18, i_19, i_20, i_21])))] [.ref a_0] (fun u : Unit => [(a_0, .inr (12, [.int i_0, .ref a_1, .ref a_2, .ref a_3, .ref a_4, .ref a_5, .int i_1, .int i_2, .int i_3, .int i_4, .int i_5, .long j_0, .int i_6, .int i_7, .int i_8, .int i_9, .ref a_6, .ref a_7, .ref a_8, .ref a_9, .ref a_10, .ref a_11, .ref a_12, .ref a_13, .ref a_14, .ref a_15, .ref a_16, .ref a_17, .ref a_18, .int i_10, .int i_11, .int i_12, .int i_13, .int i_14, .int i_15, .ref a_19, .int i_16, .ref a_20])), (a_6, .inl (cy 1, 5, .inl (mm_g [i_17, i_18, i_19, i_20, i_21])))]) (fun (r : Int32) (u : Unit) => ((0 = r) ∨ (1 = r))) 0 0 := by
  refine mm_begin (lv := [(0, .ref a_0)]) (by decide) (Nat.le_of_ble_eq_true rfl) rfl ?_
  intro p e s m below meth c A ls R args Q H locs hRe hQ hAe hx hb hr hlocks hml hown hnm hts hsz hA hS hP hK hD hZ hl
  have hRf : R.frames = 0 := by rw [hRe]
  have hRl : R.locals = 0 := by rw [hRe]
  have hRc : R.cells = 0 := by rw [hRe]
  have hRs : R.slots = 0 := by rw [hRe]
  refine lv_aload_n hx hb dX12_isBook_0 rfl (lv_at hl 0 rfl) ?_
  refine va_get (D := G) (ci := 12) (v := .ref a_6) (C := RX12) (T := TX12) (N := 38) hx hb hts (mm_i inlX12) hown hK.1 hP 0 rfl rfl 16 (by decide) (mm_h hts mm_w148) (fun _ h9 => h9) rfl dX12_isBook_1 ?_
  refine lv_iconst (v := 0) hx hb dX12_isBook_4 (by decide) ?_
  refine va_iald hx hb hK.1 hP 1 1 rfl rfl (mm_in mm_k0 (by decide)) dX12_isBook_5 ?_
  rw [show (mm_g [i_17, i_18, i_19, i_20, i_21]) (0 : Int32).toNatClampNeg = i_17 from mm_ge 0 (by decide) rfl]
  refine lv_if_le (tgt := 13) hx hb dX12_isBook_6 (by decide) (fun c1 => ?_) (fun c1 => ?_)
  · have q2 := mm_leL (mm_le c1) h0 mm_k0
    refine lv_iconst (v := 0) hx hb dX12_isBook_13 (by decide) ?_
    subst hAe
    rw [hQ]
    exact W.zret (v := 0) hx hb hr rfl (fun t ht hW => ⟨⟨0, (), rfl, (Or.inl rfl), by rw [ht]; exact hP, hK.warm hW, hD⟩, hS.F ht⟩) hS.2.2 dX12_isBook_14
  · have q3 := mm_ltR (lo := 1) (mm_nle c1) mm_k0 h0 (by decide)
    refine lv_iconst (v := 1) hx hb dX12_isBook_9 (by decide) ?_
    refine lv_goto (tgt := 14) hx hb dX12_isBook_10 (by decide) ?_
    subst hAe
    rw [hQ]
    exact W.zret (v := 1) hx hb hr rfl (fun t ht hW => ⟨⟨1, (), rfl, (Or.inr rfl), by rw [ht]; exact hP, hK.warm hW, hD⟩, hS.F ht⟩) hS.2.2 dX12_isBook_14

set_option maxHeartbeats 4000000 in
set_option maxRecDepth 100000 in
theorem M106_X12_undo (l : Launch) (G : va_G) (cy : Nat → ClassId) (sz : Nat) (a_0 : Nat) (i_0 : Int32) (a_1 : Nat) (a_2 : Nat) (a_3 : Nat) (a_4 : Nat) (a_5 : Nat) (i_1 : Int32) (i_2 : Int32) (i_3 : Int32) (i_4 : Int32) (i_5 : Int32) (j_0 : Int64) (i_6 : Int32) (i_7 : Int32) (i_8 : Int32) (i_9 : Int32) (a_6 : Nat) (a_7 : Nat) (a_8 : Nat) (a_9 : Nat) (a_10 : Nat) (a_11 : Nat) (a_12 : Nat) (a_13 : Nat) (a_14 : Nat) (a_15 : Nat) (a_16 : Nat) (a_17 : Nat) (a_18 : Nat) (i_10 : Int32) (i_11 : Int32) (i_12 : Int32) (i_13 : Int32) (i_14 : Int32) (i_15 : Int32) (a_19 : Nat) (i_16 : Int32) (a_20 : Nat) (i_17 : Int32) (i_18 : Int32) (i_19 : Int32) (i_20 : Int32) (i_21 : Int32) (i_22 : Int32) (i_23 : Int32) (i_24 : Int32) (i_25 : Int32) (i_26 : Int32) (i_27 : Int32) (i_28 : Int32) (i_29 : Int32) (i_30 : Int32) (i_31 : Int32) (i_32 : Int32) (i_33 : Int32) (i_34 : Int32) (i_35 : Int32) (i_36 : Int32) (i_37 : Int32) (i_38 : Int32) (i_39 : Int32) (i_40 : Int32) (i_41 : Int32) (i_42 : Int32) (i_43 : Int32) (i_44 : Int32) (i_45 : Int32) (i_46 : Int32) (i_47 : Int32) (i_48 : Int32) (i_49 : Int32) (i_50 : Int32) (i_51 : Int32) (h0 : mm_rg i_17 0 601) (h1 : mm_rg i_18 0 601) (h2 : mm_rg i_19 0 601) (h3 : mm_rg i_20 0 601) (h4 : mm_rg i_21 0 601) (h5 : mm_rg i_22 0 10) (h6 : mm_rg i_23 0 99) (h7 : mm_rg i_24 0 9) (h8 : mm_rg i_25 0 3) (h9 : mm_rg i_26 0 6) (h10 : mm_rg i_27 0 30) (h11 : mm_rg i_28 0 10) (h12 : mm_rg i_29 0 99) (h13 : mm_rg i_30 0 9) (h14 : mm_rg i_31 0 3) (h15 : mm_rg i_32 0 6) (h16 : mm_rg i_33 0 30) (h17 : mm_rg i_34 0 10) (h18 : mm_rg i_35 0 99) (h19 : mm_rg i_36 0 9) (h20 : mm_rg i_37 0 3) (h21 : mm_rg i_38 0 6) (h22 : mm_rg i_39 0 30) (h23 : mm_rg i_40 0 10) (h24 : mm_rg i_41 0 99) (h25 : mm_rg i_42 0 9) (h26 : mm_rg i_43 0 3) (h27 : mm_rg i_44 0 6) (h28 : mm_rg i_45 0 30) (h29 : mm_rg i_46 0 10) (h30 : mm_rg i_47 0 99) (h31 : mm_rg i_48 0 9) (h32 : mm_rg i_49 0 3) (h33 : mm_rg i_50 0 6) (h34 : mm_rg i_51 0 30) (h35 : mm_tl i_17 i_25 i_26) (h36 : mm_tl i_18 i_31 i_32) (h37 : mm_tl i_19 i_37 i_38) (h38 : mm_tl i_20 i_43 i_44)  : mm_CI l yX12_undo (mm_ws yX12_undo cX12_undo 1 (some .int)) ({ frames := 1, cells := 0, slots := 0, locals := 20 } : Room) G cy sz [(a_0, .inr (12, [.int i_0, .ref a_1, .ref a_2, .ref a_3, .ref a_4, .ref a_5, .int i_1, .int i_2, .int i_3, .int i_4, .int i_5, .long j_0, .int i_6, .int i_7, .int i_8, .int i_9, .ref a_6, .ref a_7, .ref a_8, .ref a_9, .ref a_10, .ref a_11, .ref a_12, .ref a_13, .ref a_14, .ref a_15, .ref a_16, .ref a_17, .ref a_18, .int i_10, .int i_11, .int i_12, .int i_13, .int i_14, .int i_15, .ref a_19, .int i_16, .ref a_20])), (a_6, .inl (cy 1, 5, .inl (mm_g [i_17, i_18, i_19, i_20, i_21]))), (a_7, .inl (cy 1, 30, .inl (mm_g [i_22, i_23, i_24, i_25, i_26, i_27, i_28, i_29, i_30, i_31, i_32, i_33, i_34, i_35, i_36, i_37, i_38, i_39, i_40, i_41, i_42, i_43, i_44, i_45, i_46, i_47, i_48, i_49, i_50, i_51])))] [.ref a_0] (fun u : Int32 => [(a_0, .inr (12, [.int 0, .ref a_1, .ref a_2, .ref a_3, .ref a_4, .ref a_5, .int i_1, .int i_2, .int i_3, .int i_4, .int i_5, .long j_0, .int i_6, .int i_7, .int i_8, .int i_9, .ref a_6, .ref a_7, .ref a_8, .ref a_9, .ref a_10, .ref a_11, .ref a_12, .ref a_13, .ref a_14, .ref a_15, .ref a_16, .ref a_17, .ref a_18, .int i_10, .int i_11, .int i_12, .int i_13, .int i_14, .int i_15, .ref a_19, .int i_16, .ref a_20])), (a_6, .inl (cy 1, 5, .inl (mm_g [i_17, i_18, i_19, i_20, i_21]))), (a_7, .inl (cy 1, 30, .inl (mm_g [i_22, i_23, i_24, i_25, i_26, u, i_28, i_29, i_30, i_31, i_32, i_33, i_34, i_35, i_36, i_37, i_38, i_39, i_40, i_41, i_42, i_43, i_44, i_45, i_46, i_47, i_48, i_49, i_50, i_51])))]) (fun (r : Int32) (u : Int32) => mm_rg u 0 30 ∧ (u : Int32).toInt ≤ (i_27 : Int32).toInt ∧ mm_rg r (-5) 29) 0 0 := by
  refine mm_begin (lv := [(0, .ref a_0)]) (by decide) (Nat.le_of_ble_eq_true rfl) rfl ?_
  intro p e s m below meth c A ls R args Q H locs hRe hQ hAe hx hb hr hlocks hml hown hnm hts hsz hA hS hP hK hD hZ hl
  have hRf : R.frames = 1 := by rw [hRe]
  have hRl : R.locals = 20 := by rw [hRe]
  have hRc : R.cells = 0 := by rw [hRe]
  have hRs : R.slots = 0 := by rw [hRe]
  refine lv_aload_n hx hb dX12_undo_0 rfl (lv_at hl 0 rfl) ?_
  refine lv_iconst (v := 0) hx hb dX12_undo_1 (by decide) ?_
  refine va_put (D := G) (ci := 12) (v := .int 0) (ty := tyX12 0) (C := RX12) (T := TX12) (N := 38) hx hb hts (mm_i inlX12) tyX12 tyX12_ok nmX12 hown hK.1 hP hD hS 0 rfl rfl 0 (by decide) (mm_h hts mm_w177) (fun _ h9 => h9) rfl (tyX12_ok 0 (by decide)) rfl rfl (Nat.le_of_ble_eq_true rfl) dX12_undo_2 ?_
  clear hP hD hS
  clear H locs
  intro H locs (hP : va_P G vwCl [(a_0, .inr (12, [.int 0, .ref a_1, .ref a_2, .ref a_3, .ref a_4, .ref a_5, .int i_1, .int i_2, .int i_3, .int i_4, .int i_5, .long j_0, .int i_6, .int i_7, .int i_8, .int i_9, .ref a_6, .ref a_7, .ref a_8, .ref a_9, .ref a_10, .ref a_11, .ref a_12, .ref a_13, .ref a_14, .ref a_15, .ref a_16, .ref a_17, .ref a_18, .int i_10, .int i_11, .int i_12, .int i_13, .int i_14, .int i_15, .ref a_19, .int i_16, .ref a_20])), (a_6, .inl (cy 1, 5, .inl (mm_g [i_17, i_18, i_19, i_20, i_21]))), (a_7, .inl (cy 1, 30, .inl (mm_g [i_22, i_23, i_24, i_25, i_26, i_27, i_28, i_29, i_30, i_31, i_32, i_33, i_34, i_35, i_36, i_37, i_38, i_39, i_40, i_41, i_42, i_43, i_44, i_45, i_46, i_47, i_48, i_49, i_50, i_51])))] H) (hD : va_D A [(a_0, .inr (12, [.int 0, .ref a_1, .ref a_2, .ref a_3, .ref a_4, .ref a_5, .int i_1, .int i_2, .int i_3, .int i_4, .int i_5, .long j_0, .int i_6, .int i_7, .int i_8, .int i_9, .ref a_6, .ref a_7, .ref a_8, .ref a_9, .ref a_10, .ref a_11, .ref a_12, .ref a_13, .ref a_14, .ref a_15, .ref a_16, .ref a_17, .ref a_18, .int i_10, .int i_11, .int i_12, .int i_13, .int i_14, .int i_15, .ref a_19, .int i_16, .ref a_20])), (a_6, .inl (cy 1, 5, .inl (mm_g [i_17, i_18, i_19, i_20, i_21]))), (a_7, .inl (cy 1, 30, .inl (mm_g [i_22, i_23, i_24, i_25, i_26, i_27, i_28, i_29, i_30, i_31, i_32, i_33, i_34, i_35, i_36, i_37, i_38, i_39, i_40, i_41, i_42, i_43, i_44, i_45, i_46, i_47, i_48, i_49, i_50, i_51])))]) hS
  refine lv_aload_n hx hb dX12_undo_5 rfl (lv_at hl 0 rfl) ?_
  refine mm_finir (va_runV (As := []) (rest := []) ⟨hx, hb, hml, hown, hts⟩ (M105_X12_isBook l G cy H.size a_0 0 a_1 a_2 a_3 a_4 a_5 i_1 i_2 i_3 i_4 i_5 j_0 i_6 i_7 i_8 i_9 a_6 a_7 a_8 a_9 a_10 a_11 a_12 a_13 a_14 a_15 a_16 a_17 a_18 i_10 i_11 i_12 i_13 i_14 i_15 a_19 i_16 a_20 i_17 i_18 i_19 i_20 i_21 h0 h1 h2 h3 h4) (cwV 0 hts (mm_gV mm_w653 mm_w654 mm_w655 mm_w5 mm_w656) rfl rfl rfl hd_X12_isBook ⟨by rw [hRf]; exact Nat.le_of_ble_eq_true rfl, by rw [hRl]; exact Nat.le_of_ble_eq_true rfl⟩) (mm_preV hK hZ hS hA hP hD [0, 1] rfl rfl 0 rfl rfl rfl) rfl rfl hl.1 rfl (lv_room (Nat.le_of_ble_eq_true rfl)) dX12_undo_6 ⟨by rw [hRc]; exact Nat.le_of_ble_eq_true rfl, by rw [hRs]; exact Nat.le_of_ble_eq_true rfl⟩) hP hD hS hA [0, 1] rfl (fun _ => rfl) ?_
  clear hP hD hS
  clear H locs
  intro v1 _u H locs hw hP hD hS
  rcases hw with rfl | rfl
  · refine lv_if_ne (tgt := 15) hx hb dX12_undo_9 (by decide) (fun c2 => ?_) (fun c2 => ?_)
    · have q3 := mm_neL (lo := 1) (mm_ne c2) mm_k0 mm_k0 (by decide) (by decide)
      exact mm_no q3 (by decide)
    · refine lv_bipush (v := (-2)) hx hb dX12_undo_12 (by decide) ?_
      have w4 : (i_27 : Int32).toInt ≤ (i_27 : Int32).toInt := (Int.le_refl _)
      subst hAe
      rw [hQ]
      exact W.iret (v := (-2)) hx hb hr (fun t ht hW => ⟨⟨(-2), i_27, rfl, ⟨h10, w4, (mm_wk mm_km2 (by decide))⟩, by rw [ht]; exact hP, hK.warm hW, hD⟩, hS.F ht⟩) hS.2.2 dX12_undo_14
  · refine lv_if_ne (tgt := 15) hx hb dX12_undo_9 (by decide) (fun c5 => ?_) (fun c5 => ?_)
    · refine lv_aload_n hx hb dX12_undo_15 rfl (lv_at hl 0 rfl) ?_
      refine va_get (D := G) (ci := 12) (v := .ref a_7) (C := RX12) (T := TX12) (N := 38) hx hb hts (mm_i inlX12) hown hK.1 hP 0 rfl rfl 17 (by decide) (mm_h hts mm_w149) (fun _ h9 => h9) rfl dX12_undo_16 ?_
      refine lv_iconst (v := 5) hx hb dX12_undo_19 (by decide) ?_
      refine va_iald hx hb hK.1 hP 2 1 rfl rfl (mm_in mm_k5 (by decide)) dX12_undo_20 ?_
      rw [show (mm_g [i_22, i_23, i_24, i_25, i_26, i_27, i_28, i_29, i_30, i_31, i_32, i_33, i_34, i_35, i_36, i_37, i_38, i_39, i_40, i_41, i_42, i_43, i_44, i_45, i_46, i_47, i_48, i_49, i_50, i_51]) (5 : Int32).toNatClampNeg = i_27 from mm_ge 5 (by decide) rfl]
      refine lv_if_ne (tgt := 27) hx hb dX12_undo_21 (by decide) (fun c6 => ?_) (fun c6 => ?_)
      · have q7 := mm_neL (lo := 1) (mm_ne c6) h10 mm_k0 (by decide) (by decide)
        refine lv_aload_n hx hb dX12_undo_27 rfl (lv_at hl 0 rfl) ?_
        refine va_get (D := G) (ci := 12) (v := .ref a_7) (C := RX12) (T := TX12) (N := 38) hx hb hts (mm_i inlX12) hown hK.1 hP 0 rfl rfl 17 (by decide) (mm_h hts mm_w149) (fun _ h9 => h9) rfl dX12_undo_28 ?_
        refine lv_iconst (v := 5) hx hb dX12_undo_31 (by decide) ?_
        refine lv_dup2_11 hx hb dX12_undo_32 rfl rfl ?_
        refine va_iald hx hb hK.1 hP 2 1 rfl rfl (mm_in mm_k5 (by decide)) dX12_undo_33 ?_
        rw [show (mm_g [i_22, i_23, i_24, i_25, i_26, i_27, i_28, i_29, i_30, i_31, i_32, i_33, i_34, i_35, i_36, i_37, i_38, i_39, i_40, i_41, i_42, i_43, i_44, i_45, i_46, i_47, i_48, i_49, i_50, i_51]) (5 : Int32).toNatClampNeg = i_27 from mm_ge 5 (by decide) rfl]
        refine lv_iconst (v := 1) hx hb dX12_undo_34 (by decide) ?_
        refine lv_isub hx hb dX12_undo_35 ?_
        refine lv_topi (fun v8 ev8 => ?_)
        have rv8 : mm_rg v8 0 29 := mm_sub ev8 q7 mm_k1 (by decide) (by decide)
        have tv8 := mm_subEc ev8 q7 mm_k1 (by decide) (k := (-1)) (by decide)
        refine va_iast hx hb hK.1 hP hD hS 2 1 rfl rfl (mm_in mm_k5 (by decide)) dX12_undo_36 ?_
        clear hP hD hS
        clear H locs
        rw [show upd (mm_g [i_22, i_23, i_24, i_25, i_26, i_27, i_28, i_29, i_30, i_31, i_32, i_33, i_34, i_35, i_36, i_37, i_38, i_39, i_40, i_41, i_42, i_43, i_44, i_45, i_46, i_47, i_48, i_49, i_50, i_51]) (5 : Int32).toNatClampNeg v8 = (mm_g [i_22, i_23, i_24, i_25, i_26, v8, i_28, i_29, i_30, i_31, i_32, i_33, i_34, i_35, i_36, i_37, i_38, i_39, i_40, i_41, i_42, i_43, i_44, i_45, i_46, i_47, i_48, i_49, i_50, i_51]) from mm_gs2 5 30 (by decide) rfl rfl rfl]
        intro H locs (hP : va_P G vwCl [(a_0, .inr (12, [.int 0, .ref a_1, .ref a_2, .ref a_3, .ref a_4, .ref a_5, .int i_1, .int i_2, .int i_3, .int i_4, .int i_5, .long j_0, .int i_6, .int i_7, .int i_8, .int i_9, .ref a_6, .ref a_7, .ref a_8, .ref a_9, .ref a_10, .ref a_11, .ref a_12, .ref a_13, .ref a_14, .ref a_15, .ref a_16, .ref a_17, .ref a_18, .int i_10, .int i_11, .int i_12, .int i_13, .int i_14, .int i_15, .ref a_19, .int i_16, .ref a_20])), (a_6, .inl (cy 1, 5, .inl (mm_g [i_17, i_18, i_19, i_20, i_21]))), (a_7, .inl (cy 1, 30, .inl (mm_g [i_22, i_23, i_24, i_25, i_26, v8, i_28, i_29, i_30, i_31, i_32, i_33, i_34, i_35, i_36, i_37, i_38, i_39, i_40, i_41, i_42, i_43, i_44, i_45, i_46, i_47, i_48, i_49, i_50, i_51])))] H) (hD : va_D A [(a_0, .inr (12, [.int 0, .ref a_1, .ref a_2, .ref a_3, .ref a_4, .ref a_5, .int i_1, .int i_2, .int i_3, .int i_4, .int i_5, .long j_0, .int i_6, .int i_7, .int i_8, .int i_9, .ref a_6, .ref a_7, .ref a_8, .ref a_9, .ref a_10, .ref a_11, .ref a_12, .ref a_13, .ref a_14, .ref a_15, .ref a_16, .ref a_17, .ref a_18, .int i_10, .int i_11, .int i_12, .int i_13, .int i_14, .int i_15, .ref a_19, .int i_16, .ref a_20])), (a_6, .inl (cy 1, 5, .inl (mm_g [i_17, i_18, i_19, i_20, i_21]))), (a_7, .inl (cy 1, 30, .inl (mm_g [i_22, i_23, i_24, i_25, i_26, v8, i_28, i_29, i_30, i_31, i_32, i_33, i_34, i_35, i_36, i_37, i_38, i_39, i_40, i_41, i_42, i_43, i_44, i_45, i_46, i_47, i_48, i_49, i_50, i_51])))]) hS
        refine lv_aload_n hx hb dX12_undo_37 rfl (lv_at hl 0 rfl) ?_
        refine va_get (D := G) (ci := 12) (v := .ref a_7) (C := RX12) (T := TX12) (N := 38) hx hb hts (mm_i inlX12) hown hK.1 hP 0 rfl rfl 17 (by decide) (mm_h hts mm_w149) (fun _ h9 => h9) rfl dX12_undo_38 ?_
        refine lv_iconst (v := 5) hx hb dX12_undo_41 (by decide) ?_
        refine va_iald hx hb hK.1 hP 2 1 rfl rfl (mm_in mm_k5 (by decide)) dX12_undo_42 ?_
        rw [show (mm_g [i_22, i_23, i_24, i_25, i_26, v8, i_28, i_29, i_30, i_31, i_32, i_33, i_34, i_35, i_36, i_37, i_38, i_39, i_40, i_41, i_42, i_43, i_44, i_45, i_46, i_47, i_48, i_49, i_50, i_51]) (5 : Int32).toNatClampNeg = v8 from mm_ge 5 (by decide) rfl]
        have w9 : (v8 : Int32).toInt ≤ (i_27 : Int32).toInt := (by have := tv8; omega)
        subst hAe
        rw [hQ]
        exact W.iret (v := v8) hx hb hr (fun t ht hW => ⟨⟨v8, v8, rfl, ⟨(mm_wk rv8 (by decide)), w9, (mm_wk rv8 (by decide))⟩, by rw [ht]; exact hP, hK.warm hW, hD⟩, hS.F ht⟩) hS.2.2 dX12_undo_43
      · have q10 := mm_eqI (lo := 0) (hi := 0) c6 h10 mm_k0 (by decide)
        refine lv_bipush (v := (-5)) hx hb dX12_undo_24 (by decide) ?_
        have w11 : (i_27 : Int32).toInt ≤ (i_27 : Int32).toInt := (Int.le_refl _)
        subst hAe
        rw [hQ]
        exact W.iret (v := (-5)) hx hb hr (fun t ht hW => ⟨⟨(-5), i_27, rfl, ⟨(mm_wk q10 (by decide)), w11, (mm_wk mm_km5 (by decide))⟩, by rw [ht]; exact hP, hK.warm hW, hD⟩, hS.F ht⟩) hS.2.2 dX12_undo_26
    · exact mm_eqN c5.symm mm_k0 mm_k1 (by decide)

set_option maxHeartbeats 4000000 in
set_option maxRecDepth 100000 in
theorem M107_X12_anew (l : Launch) (G : va_G) (cy : Nat → ClassId) (sz : Nat) (a_0 : Nat) (i_0 : Int32) (a_1 : Nat) (a_2 : Nat) (a_3 : Nat) (a_4 : Nat) (a_5 : Nat) (i_1 : Int32) (i_2 : Int32) (i_3 : Int32) (i_4 : Int32) (i_5 : Int32) (j_0 : Int64) (i_6 : Int32) (i_7 : Int32) (i_8 : Int32) (i_9 : Int32) (a_6 : Nat) (a_7 : Nat) (a_8 : Nat) (a_9 : Nat) (a_10 : Nat) (a_11 : Nat) (a_12 : Nat) (a_13 : Nat) (a_14 : Nat) (a_15 : Nat) (a_16 : Nat) (a_17 : Nat) (a_18 : Nat) (i_10 : Int32) (i_11 : Int32) (i_12 : Int32) (i_13 : Int32) (i_14 : Int32) (i_15 : Int32) (a_19 : Nat) (i_16 : Int32) (a_20 : Nat) (i_17 : Int32) (i_18 : Int32) (i_19 : Int32) (i_20 : Int32) (i_21 : Int32) (i_22 : Int32) (i_23 : Int32) (i_24 : Int32) (i_25 : Int32) (i_26 : Int32) (i_27 : Int32) (i_28 : Int32) (i_29 : Int32) (i_30 : Int32) (i_31 : Int32) (i_32 : Int32) (i_33 : Int32) (i_34 : Int32) (i_35 : Int32) (i_36 : Int32) (i_37 : Int32) (i_38 : Int32) (i_39 : Int32) (i_40 : Int32) (i_41 : Int32) (i_42 : Int32) (i_43 : Int32) (i_44 : Int32) (i_45 : Int32) (i_46 : Int32) (i_47 : Int32) (i_48 : Int32) (i_49 : Int32) (i_50 : Int32) (i_51 : Int32) (h0 : mm_rg i_17 0 601) (h1 : mm_rg i_18 0 601) (h2 : mm_rg i_19 0 601) (h3 : mm_rg i_20 0 601) (h4 : mm_rg i_21 0 601) (h5 : mm_rg i_22 0 10) (h6 : mm_rg i_23 0 99) (h7 : mm_rg i_24 0 9) (h8 : mm_rg i_25 0 3) (h9 : mm_rg i_26 0 6) (h10 : mm_rg i_27 0 30) (h11 : mm_rg i_28 0 10) (h12 : mm_rg i_29 0 99) (h13 : mm_rg i_30 0 9) (h14 : mm_rg i_31 0 3) (h15 : mm_rg i_32 0 6) (h16 : mm_rg i_33 0 30) (h17 : mm_rg i_34 0 10) (h18 : mm_rg i_35 0 99) (h19 : mm_rg i_36 0 9) (h20 : mm_rg i_37 0 3) (h21 : mm_rg i_38 0 6) (h22 : mm_rg i_39 0 30) (h23 : mm_rg i_40 0 10) (h24 : mm_rg i_41 0 99) (h25 : mm_rg i_42 0 9) (h26 : mm_rg i_43 0 3) (h27 : mm_rg i_44 0 6) (h28 : mm_rg i_45 0 30) (h29 : mm_rg i_46 0 10) (h30 : mm_rg i_47 0 99) (h31 : mm_rg i_48 0 9) (h32 : mm_rg i_49 0 3) (h33 : mm_rg i_50 0 6) (h34 : mm_rg i_51 0 30) (h35 : mm_tl i_17 i_25 i_26) (h36 : mm_tl i_18 i_31 i_32) (h37 : mm_tl i_19 i_37 i_38) (h38 : mm_tl i_20 i_43 i_44)  : mm_CI l yX12_anew (mm_ws yX12_anew cX12_anew 2 (some .int)) ({ frames := 1, cells := 0, slots := 0, locals := 20 } : Room) G cy sz [(a_0, .inr (12, [.int i_0, .ref a_1, .ref a_2, .ref a_3, .ref a_4, .ref a_5, .int i_1, .int i_2, .int i_3, .int i_4, .int i_5, .long j_0, .int i_6, .int i_7, .int i_8, .int i_9, .ref a_6, .ref a_7, .ref a_8, .ref a_9, .ref a_10, .ref a_11, .ref a_12, .ref a_13, .ref a_14, .ref a_15, .ref a_16, .ref a_17, .ref a_18, .int i_10, .int i_11, .int i_12, .int i_13, .int i_14, .int i_15, .ref a_19, .int i_16, .ref a_20])), (a_6, .inl (cy 1, 5, .inl (mm_g [i_17, i_18, i_19, i_20, i_21]))), (a_7, .inl (cy 1, 30, .inl (mm_g [i_22, i_23, i_24, i_25, i_26, i_27, i_28, i_29, i_30, i_31, i_32, i_33, i_34, i_35, i_36, i_37, i_38, i_39, i_40, i_41, i_42, i_43, i_44, i_45, i_46, i_47, i_48, i_49, i_50, i_51])))] [.ref a_0] (fun u : Int32 => [(a_0, .inr (12, [.int 0, .ref a_1, .ref a_2, .ref a_3, .ref a_4, .ref a_5, .int i_1, .int i_2, .int i_3, .int i_4, .int i_5, .long j_0, .int i_6, .int i_7, .int i_8, .int i_9, .ref a_6, .ref a_7, .ref a_8, .ref a_9, .ref a_10, .ref a_11, .ref a_12, .ref a_13, .ref a_14, .ref a_15, .ref a_16, .ref a_17, .ref a_18, .int i_10, .int i_11, .int i_12, .int i_13, .int i_14, .int i_15, .ref a_19, .int i_16, .ref a_20])), (a_6, .inl (cy 1, 5, .inl (mm_g [i_17, i_18, i_19, i_20, i_21]))), (a_7, .inl (cy 1, 30, .inl (mm_g [i_22, i_23, i_24, i_25, i_26, u, i_28, i_29, i_30, i_31, i_32, i_33, i_34, i_35, i_36, i_37, i_38, i_39, i_40, i_41, i_42, i_43, i_44, i_45, i_46, i_47, i_48, i_49, i_50, i_51])))]) (fun (r : Int32) (u : Int32) => mm_rg u 0 30 ∧ (u : Int32).toInt ≤ (i_27 : Int32).toInt ∧ mm_rg r (-2) 30) 0 0 := by
  refine mm_begin (lv := [(0, .ref a_0)]) (by decide) (Nat.le_of_ble_eq_true rfl) rfl ?_
  intro p e s m below meth c A ls R args Q H locs hRe hQ hAe hx hb hr hlocks hml hown hnm hts hsz hA hS hP hK hD hZ hl
  have hRf : R.frames = 1 := by rw [hRe]
  have hRl : R.locals = 20 := by rw [hRe]
  have hRc : R.cells = 0 := by rw [hRe]
  have hRs : R.slots = 0 := by rw [hRe]
  refine lv_aload_n hx hb dX12_anew_0 rfl (lv_at hl 0 rfl) ?_
  refine lv_iconst (v := 0) hx hb dX12_anew_1 (by decide) ?_
  refine va_put (D := G) (ci := 12) (v := .int 0) (ty := tyX12 0) (C := RX12) (T := TX12) (N := 38) hx hb hts (mm_i inlX12) tyX12 tyX12_ok nmX12 hown hK.1 hP hD hS 0 rfl rfl 0 (by decide) (mm_h hts mm_w177) (fun _ h9 => h9) rfl (tyX12_ok 0 (by decide)) rfl rfl (Nat.le_of_ble_eq_true rfl) dX12_anew_2 ?_
  clear hP hD hS
  clear H locs
  intro H locs (hP : va_P G vwCl [(a_0, .inr (12, [.int 0, .ref a_1, .ref a_2, .ref a_3, .ref a_4, .ref a_5, .int i_1, .int i_2, .int i_3, .int i_4, .int i_5, .long j_0, .int i_6, .int i_7, .int i_8, .int i_9, .ref a_6, .ref a_7, .ref a_8, .ref a_9, .ref a_10, .ref a_11, .ref a_12, .ref a_13, .ref a_14, .ref a_15, .ref a_16, .ref a_17, .ref a_18, .int i_10, .int i_11, .int i_12, .int i_13, .int i_14, .int i_15, .ref a_19, .int i_16, .ref a_20])), (a_6, .inl (cy 1, 5, .inl (mm_g [i_17, i_18, i_19, i_20, i_21]))), (a_7, .inl (cy 1, 30, .inl (mm_g [i_22, i_23, i_24, i_25, i_26, i_27, i_28, i_29, i_30, i_31, i_32, i_33, i_34, i_35, i_36, i_37, i_38, i_39, i_40, i_41, i_42, i_43, i_44, i_45, i_46, i_47, i_48, i_49, i_50, i_51])))] H) (hD : va_D A [(a_0, .inr (12, [.int 0, .ref a_1, .ref a_2, .ref a_3, .ref a_4, .ref a_5, .int i_1, .int i_2, .int i_3, .int i_4, .int i_5, .long j_0, .int i_6, .int i_7, .int i_8, .int i_9, .ref a_6, .ref a_7, .ref a_8, .ref a_9, .ref a_10, .ref a_11, .ref a_12, .ref a_13, .ref a_14, .ref a_15, .ref a_16, .ref a_17, .ref a_18, .int i_10, .int i_11, .int i_12, .int i_13, .int i_14, .int i_15, .ref a_19, .int i_16, .ref a_20])), (a_6, .inl (cy 1, 5, .inl (mm_g [i_17, i_18, i_19, i_20, i_21]))), (a_7, .inl (cy 1, 30, .inl (mm_g [i_22, i_23, i_24, i_25, i_26, i_27, i_28, i_29, i_30, i_31, i_32, i_33, i_34, i_35, i_36, i_37, i_38, i_39, i_40, i_41, i_42, i_43, i_44, i_45, i_46, i_47, i_48, i_49, i_50, i_51])))]) hS
  refine lv_aload_n hx hb dX12_anew_5 rfl (lv_at hl 0 rfl) ?_
  refine mm_finir (va_runV (As := []) (rest := []) ⟨hx, hb, hml, hown, hts⟩ (M105_X12_isBook l G cy H.size a_0 0 a_1 a_2 a_3 a_4 a_5 i_1 i_2 i_3 i_4 i_5 j_0 i_6 i_7 i_8 i_9 a_6 a_7 a_8 a_9 a_10 a_11 a_12 a_13 a_14 a_15 a_16 a_17 a_18 i_10 i_11 i_12 i_13 i_14 i_15 a_19 i_16 a_20 i_17 i_18 i_19 i_20 i_21 h0 h1 h2 h3 h4) (cwV 0 hts (mm_gV mm_w653 mm_w654 mm_w655 mm_w5 mm_w656) rfl rfl rfl hd_X12_isBook ⟨by rw [hRf]; exact Nat.le_of_ble_eq_true rfl, by rw [hRl]; exact Nat.le_of_ble_eq_true rfl⟩) (mm_preV hK hZ hS hA hP hD [0, 1] rfl rfl 0 rfl rfl rfl) rfl rfl hl.1 rfl (lv_room (Nat.le_of_ble_eq_true rfl)) dX12_anew_6 ⟨by rw [hRc]; exact Nat.le_of_ble_eq_true rfl, by rw [hRs]; exact Nat.le_of_ble_eq_true rfl⟩) hP hD hS hA [0, 1] rfl (fun _ => rfl) ?_
  clear hP hD hS
  clear H locs
  intro v1 _u H locs hw hP hD hS
  rcases hw with rfl | rfl
  · refine lv_if_ne (tgt := 15) hx hb dX12_anew_9 (by decide) (fun c2 => ?_) (fun c2 => ?_)
    · have q3 := mm_neL (lo := 1) (mm_ne c2) mm_k0 mm_k0 (by decide) (by decide)
      exact mm_no q3 (by decide)
    · refine lv_bipush (v := (-2)) hx hb dX12_anew_12 (by decide) ?_
      have w4 : (i_27 : Int32).toInt ≤ (i_27 : Int32).toInt := (Int.le_refl _)
      subst hAe
      rw [hQ]
      exact W.iret (v := (-2)) hx hb hr (fun t ht hW => ⟨⟨(-2), i_27, rfl, ⟨h10, w4, (mm_wk mm_km2 (by decide))⟩, by rw [ht]; exact hP, hK.warm hW, hD⟩, hS.F ht⟩) hS.2.2 dX12_anew_14
  · refine lv_if_ne (tgt := 15) hx hb dX12_anew_9 (by decide) (fun c5 => ?_) (fun c5 => ?_)
    · refine lv_aload_n hx hb dX12_anew_15 rfl (lv_at hl 0 rfl) ?_
      refine va_get (D := G) (ci := 12) (v := .ref a_7) (C := RX12) (T := TX12) (N := 38) hx hb hts (mm_i inlX12) hown hK.1 hP 0 rfl rfl 17 (by decide) (mm_h hts mm_w149) (fun _ h9 => h9) rfl dX12_anew_16 ?_
      refine lv_iconst (v := 5) hx hb dX12_anew_19 (by decide) ?_
      refine va_iald hx hb hK.1 hP 2 1 rfl rfl (mm_in mm_k5 (by decide)) dX12_anew_20 ?_
      rw [show (mm_g [i_22, i_23, i_24, i_25, i_26, i_27, i_28, i_29, i_30, i_31, i_32, i_33, i_34, i_35, i_36, i_37, i_38, i_39, i_40, i_41, i_42, i_43, i_44, i_45, i_46, i_47, i_48, i_49, i_50, i_51]) (5 : Int32).toNatClampNeg = i_27 from mm_ge 5 (by decide) rfl]
      refine lv_istore_n (lv' := [(1, .int i_27), (0, .ref a_0)]) hx hb dX12_anew_21 rfl hl (by decide) rfl ?_
      clear hl
      clear ls
      intro ls hl
      refine lv_aload_n hx hb dX12_anew_22 rfl (lv_at hl 1 rfl) ?_
      refine va_get (D := G) (ci := 12) (v := .ref a_7) (C := RX12) (T := TX12) (N := 38) hx hb hts (mm_i inlX12) hown hK.1 hP 0 rfl rfl 17 (by decide) (mm_h hts mm_w149) (fun _ h9 => h9) rfl dX12_anew_23 ?_
      refine lv_iconst (v := 5) hx hb dX12_anew_26 (by decide) ?_
      refine lv_iconst (v := 0) hx hb dX12_anew_27 (by decide) ?_
      refine va_iast hx hb hK.1 hP hD hS 2 1 rfl rfl (mm_in mm_k5 (by decide)) dX12_anew_28 ?_
      clear hP hD hS
      clear H locs
      rw [show upd (mm_g [i_22, i_23, i_24, i_25, i_26, i_27, i_28, i_29, i_30, i_31, i_32, i_33, i_34, i_35, i_36, i_37, i_38, i_39, i_40, i_41, i_42, i_43, i_44, i_45, i_46, i_47, i_48, i_49, i_50, i_51]) (5 : Int32).toNatClampNeg 0 = (mm_g [i_22, i_23, i_24, i_25, i_26, 0, i_28, i_29, i_30, i_31, i_32, i_33, i_34, i_35, i_36, i_37, i_38, i_39, i_40, i_41, i_42, i_43, i_44, i_45, i_46, i_47, i_48, i_49, i_50, i_51]) from mm_gs2 5 30 (by decide) rfl rfl rfl]
      intro H locs (hP : va_P G vwCl [(a_0, .inr (12, [.int 0, .ref a_1, .ref a_2, .ref a_3, .ref a_4, .ref a_5, .int i_1, .int i_2, .int i_3, .int i_4, .int i_5, .long j_0, .int i_6, .int i_7, .int i_8, .int i_9, .ref a_6, .ref a_7, .ref a_8, .ref a_9, .ref a_10, .ref a_11, .ref a_12, .ref a_13, .ref a_14, .ref a_15, .ref a_16, .ref a_17, .ref a_18, .int i_10, .int i_11, .int i_12, .int i_13, .int i_14, .int i_15, .ref a_19, .int i_16, .ref a_20])), (a_6, .inl (cy 1, 5, .inl (mm_g [i_17, i_18, i_19, i_20, i_21]))), (a_7, .inl (cy 1, 30, .inl (mm_g [i_22, i_23, i_24, i_25, i_26, 0, i_28, i_29, i_30, i_31, i_32, i_33, i_34, i_35, i_36, i_37, i_38, i_39, i_40, i_41, i_42, i_43, i_44, i_45, i_46, i_47, i_48, i_49, i_50, i_51])))] H) (hD : va_D A [(a_0, .inr (12, [.int 0, .ref a_1, .ref a_2, .ref a_3, .ref a_4, .ref a_5, .int i_1, .int i_2, .int i_3, .int i_4, .int i_5, .long j_0, .int i_6, .int i_7, .int i_8, .int i_9, .ref a_6, .ref a_7, .ref a_8, .ref a_9, .ref a_10, .ref a_11, .ref a_12, .ref a_13, .ref a_14, .ref a_15, .ref a_16, .ref a_17, .ref a_18, .int i_10, .int i_11, .int i_12, .int i_13, .int i_14, .int i_15, .ref a_19, .int i_16, .ref a_20])), (a_6, .inl (cy 1, 5, .inl (mm_g [i_17, i_18, i_19, i_20, i_21]))), (a_7, .inl (cy 1, 30, .inl (mm_g [i_22, i_23, i_24, i_25, i_26, 0, i_28, i_29, i_30, i_31, i_32, i_33, i_34, i_35, i_36, i_37, i_38, i_39, i_40, i_41, i_42, i_43, i_44, i_45, i_46, i_47, i_48, i_49, i_50, i_51])))]) hS
      refine lv_iload_n hx hb dX12_anew_29 rfl (lv_at hl 0 rfl) ?_
      have w6 : (0 : Int32).toInt ≤ (i_27 : Int32).toInt := (mm_leC mm_k0 h10 (by decide))
      subst hAe
      rw [hQ]
      exact W.iret (v := i_27) hx hb hr (fun t ht hW => ⟨⟨i_27, 0, rfl, ⟨(mm_wk mm_k0 (by decide)), w6, (mm_wk h10 (by decide))⟩, by rw [ht]; exact hP, hK.warm hW, hD⟩, hS.F ht⟩) hS.2.2 dX12_anew_30
    · exact mm_eqN c5.symm mm_k0 mm_k1 (by decide)

set_option maxHeartbeats 4000000 in
set_option maxRecDepth 100000 in
theorem M108_X12_isSeed (l : Launch) (G : va_G) (cy : Nat → ClassId) (sz : Nat) (i_0 : Int32)   : mm_CI l yX12_isSeed (mm_ws yX12_isSeed cX12_isSeed 1 (some .boolean)) ({ frames := 1, cells := 0, slots := 0, locals := 25 } : Room) G cy sz [] [.int i_0] (fun u : Unit => []) (fun (r : Int32) (u : Unit) => ((0 = r) ∨ (1 = r ∧ mm_rg i_0 0 2000000000))) 0 0 := by
  refine mm_begin (lv := [(0, .int i_0)]) (by decide) (Nat.le_of_ble_eq_true rfl) rfl ?_
  intro p e s m below meth c A ls R args Q H locs hRe hQ hAe hx hb hr hlocks hml hown hnm hts hsz hA hS hP hK hD hZ hl
  have hRf : R.frames = 1 := by rw [hRe]
  have hRl : R.locals = 25 := by rw [hRe]
  have hRc : R.cells = 0 := by rw [hRe]
  have hRs : R.slots = 0 := by rw [hRe]
  refine lv_iload_n hx hb dX12_isSeed_0 rfl (lv_at hl 0 rfl) ?_
  obtain ⟨v1, ev1⟩ : ∃ y : Int64, y = i_0.toInt64 := ⟨_, rfl⟩
  refine lv_i2l hx hb dX12_isSeed_1 ev1.symm ?_
  have rv1 : mm_rl v1 (-2147483648) 2147483647 := mm_i2l ev1 (mm_top i_0)
  refine lv_lconst (v := 0) hx hb dX12_isSeed_2 (by decide) ?_
  refine lv_ldc2 (v := 2000000000) hx hb hown (mm_h hts mm_w1611) dX12_isSeed_3 ?_
  refine mm_finir (va_runS (As := [.long v1, .long 0, .long 2000000000]) (rest := []) ⟨hx, hb, hml, hown, hts⟩ (M7_X12_in l G cy H.size v1 2000000000 ) (va_cwS 3 hts (mm_gS mm_w191 mm_w192 mm_w5 mm_w193) rfl rfl rfl hs_X12_in ⟨by rw [hRf]; exact Nat.le_of_ble_eq_true rfl, by rw [hRl]; exact Nat.le_of_ble_eq_true rfl⟩) (mm_preS hK hZ hS hA hP hD [] rfl rfl) rfl rfl hl.1 rfl (lv_room (Nat.le_of_ble_eq_true rfl)) dX12_isSeed_6 ⟨by rw [hRc]; exact Nat.le_of_ble_eq_true rfl, by rw [hRs]; exact Nat.le_of_ble_eq_true rfl⟩) hP hD hS hA [] rfl (fun _ => rfl) ?_
  clear hP hD hS
  clear H locs
  intro v2 _u H locs hw hP hD hS
  rcases hw with ⟨rfl, w3⟩ | ⟨rfl, w4, w5, w6, w7⟩
  · subst hAe
    rw [hQ]
    exact W.zret (v := 0) hx hb hr rfl (fun t ht hW => ⟨⟨0, (), rfl, (Or.inl rfl), by rw [ht]; exact hP, hK.warm hW, hD⟩, hS.F ht⟩) hS.2.2 dX12_isSeed_9
  · have q8 := mm_meetl (lo := 0) (hi := 2147483647) w4 rv1 (by decide)
    have q9 := mm_meet (lo := 0) (hi := 2147483647) (mm_l2x ev1 q8) (mm_top i_0) (by decide)
    have q10 := mm_leLl w6 q8 mm_kl2000000000
    have q11 := mm_meet (lo := 0) (hi := 2000000000) (mm_l2x ev1 q10) q9 (by decide)
    subst hAe
    rw [hQ]
    exact W.zret (v := 1) hx hb hr rfl (fun t ht hW => ⟨⟨1, (), rfl, (Or.inr ⟨rfl, q11⟩), by rw [ht]; exact hP, hK.warm hW, hD⟩, hS.F ht⟩) hS.2.2 dX12_isSeed_9

set_option maxHeartbeats 4000000 in
set_option maxRecDepth 100000 in
theorem M109_X12_drawnOf (l : Launch) (G : va_G) (cy : Nat → ClassId) (sz : Nat) (a_0 : Nat) (j_0 : Int64) (i_0 : Int32) (i_1 : Int32) (a_1 : Nat) (a_2 : Nat) (a_3 : Nat) (a_4 : Nat) (a_5 : Nat) (i_2 : Int32) (i_3 : Int32) (i_4 : Int32) (i_5 : Int32) (i_6 : Int32) (j_1 : Int64) (i_7 : Int32) (i_8 : Int32) (i_9 : Int32) (i_10 : Int32) (a_6 : Nat) (a_7 : Nat) (a_8 : Nat) (a_9 : Nat) (a_10 : Nat) (a_11 : Nat) (a_12 : Nat) (a_13 : Nat) (a_14 : Nat) (a_15 : Nat) (a_16 : Nat) (a_17 : Nat) (a_18 : Nat) (i_11 : Int32) (i_12 : Int32) (i_13 : Int32) (i_14 : Int32) (i_15 : Int32) (i_16 : Int32) (a_19 : Nat) (i_17 : Int32) (a_20 : Nat) (i_18 : Int32) (i_19 : Int32) (i_20 : Int32) (i_21 : Int32) (i_22 : Int32) (i_23 : Int32) (i_24 : Int32) (i_25 : Int32) (i_26 : Int32) (i_27 : Int32) (i_28 : Int32) (i_29 : Int32) (i_30 : Int32) (i_31 : Int32) (i_32 : Int32) (i_33 : Int32) (i_34 : Int32) (i_35 : Int32) (i_36 : Int32) (i_37 : Int32) (i_38 : Int32) (i_39 : Int32) (i_40 : Int32) (i_41 : Int32) (i_42 : Int32) (i_43 : Int32) (i_44 : Int32) (i_45 : Int32) (i_46 : Int32) (i_47 : Int32) (h0 : mm_rl j_0 0 2000000000) (h1 : mm_rg i_0 0 7) (h2 : mm_rg i_18 0 10) (h3 : mm_rg i_19 0 99) (h4 : mm_rg i_20 0 9) (h5 : mm_rg i_21 0 3) (h6 : mm_rg i_22 0 6) (h7 : mm_rg i_23 0 30) (h8 : mm_rg i_24 0 10) (h9 : mm_rg i_25 0 99) (h10 : mm_rg i_26 0 9) (h11 : mm_rg i_27 0 3) (h12 : mm_rg i_28 0 6) (h13 : mm_rg i_29 0 30) (h14 : mm_rg i_30 0 10) (h15 : mm_rg i_31 0 99) (h16 : mm_rg i_32 0 9) (h17 : mm_rg i_33 0 3) (h18 : mm_rg i_34 0 6) (h19 : mm_rg i_35 0 30) (h20 : mm_rg i_36 0 10) (h21 : mm_rg i_37 0 99) (h22 : mm_rg i_38 0 9) (h23 : mm_rg i_39 0 3) (h24 : mm_rg i_40 0 6) (h25 : mm_rg i_41 0 30) (h26 : mm_rg i_42 0 10) (h27 : mm_rg i_43 0 99) (h28 : mm_rg i_44 0 9) (h29 : mm_rg i_45 0 3) (h30 : mm_rg i_46 0 6) (h31 : mm_rg i_47 0 30)  : mm_CI l yX12_drawnOf (mm_ws yX12_drawnOf cX12_drawnOf 8 (some .int)) ({ frames := 0, cells := 0, slots := 0, locals := 0 } : Room) G cy sz [(a_0, .inr (12, [.int i_1, .ref a_1, .ref a_2, .ref a_3, .ref a_4, .ref a_5, .int i_2, .int i_3, .int i_4, .int i_5, .int i_6, .long j_1, .int i_7, .int i_8, .int i_9, .int i_10, .ref a_6, .ref a_7, .ref a_8, .ref a_9, .ref a_10, .ref a_11, .ref a_12, .ref a_13, .ref a_14, .ref a_15, .ref a_16, .ref a_17, .ref a_18, .int i_11, .int i_12, .int i_13, .int i_14, .int i_15, .int i_16, .ref a_19, .int i_17, .ref a_20])), (a_7, .inl (cy 1, 30, .inl (mm_g [i_18, i_19, i_20, i_21, i_22, i_23, i_24, i_25, i_26, i_27, i_28, i_29, i_30, i_31, i_32, i_33, i_34, i_35, i_36, i_37, i_38, i_39, i_40, i_41, i_42, i_43, i_44, i_45, i_46, i_47])))] [.ref a_0, .long j_0, .int i_0] (fun u : Unit => [(a_0, .inr (12, [.int i_1, .ref a_1, .ref a_2, .ref a_3, .ref a_4, .ref a_5, .int i_2, .int i_3, .int i_4, .int i_5, .int i_6, .long j_1, .int i_7, .int i_8, .int i_9, .int i_10, .ref a_6, .ref a_7, .ref a_8, .ref a_9, .ref a_10, .ref a_11, .ref a_12, .ref a_13, .ref a_14, .ref a_15, .ref a_16, .ref a_17, .ref a_18, .int i_11, .int i_12, .int i_13, .int i_14, .int i_15, .int i_16, .ref a_19, .int i_17, .ref a_20])), (a_7, .inl (cy 1, 30, .inl (mm_g [i_18, i_19, i_20, i_21, i_22, i_23, i_24, i_25, i_26, i_27, i_28, i_29, i_30, i_31, i_32, i_33, i_34, i_35, i_36, i_37, i_38, i_39, i_40, i_41, i_42, i_43, i_44, i_45, i_46, i_47])))]) (fun (r : Int32) (u : Unit) => True) 0 0 := by
  refine mm_begin (lv := [(0, .ref a_0), (1, .long j_0), (3, .int i_0)]) (by decide) (Nat.le_of_ble_eq_true rfl) rfl ?_
  intro p e s m below meth c A ls R args Q H locs hRe hQ hAe hx hb hr hlocks hml hown hnm hts hsz hA hS hP hK hD hZ hl
  have hRf : R.frames = 0 := by rw [hRe]
  have hRl : R.locals = 0 := by rw [hRe]
  have hRc : R.cells = 0 := by rw [hRe]
  have hRs : R.slots = 0 := by rw [hRe]
  refine lv_lload_n hx hb dX12_drawnOf_0 rfl (lv_at hl 1 rfl) ?_
  refine lv_lstore (lv' := [(4, .long j_0), (0, .ref a_0), (1, .long j_0), (3, .int i_0)]) hx hb dX12_drawnOf_1 hl (by decide) rfl ?_
  clear hl
  clear ls
  intro ls hl
  refine lv_iconst (v := 0) hx hb dX12_drawnOf_3 (by decide) ?_
  refine lv_istore (lv' := [(6, .int 0), (4, .long j_0), (0, .ref a_0), (1, .long j_0), (3, .int i_0)]) hx hb dX12_drawnOf_4 hl (by decide) rfl ?_
  clear hl
  clear ls
  intro ls hl
  refine lv_iconst (v := 0) hx hb dX12_drawnOf_6 (by decide) ?_
  refine lv_istore (lv' := [(7, .int 0), (6, .int 0), (4, .long j_0), (0, .ref a_0), (1, .long j_0), (3, .int i_0)]) hx hb dX12_drawnOf_7 hl (by decide) rfl ?_
  clear hl
  clear ls
  intro ls hl
  have L9_438 : ∀ (n : Nat) (x9_7_436 : Int32) (x9_6_437 : Int32) (x9_4_438 : Int64), mm_rg x9_7_436 0 7 → mm_rl x9_4_438 0 2147483647 → (7 - x9_7_436.toInt).toNat < n → ∀ (H : Heap) (locs : List Loc), va_P G vwCl [(a_0, .inr (12, [.int i_1, .ref a_1, .ref a_2, .ref a_3, .ref a_4, .ref a_5, .int i_2, .int i_3, .int i_4, .int i_5, .int i_6, .long j_1, .int i_7, .int i_8, .int i_9, .int i_10, .ref a_6, .ref a_7, .ref a_8, .ref a_9, .ref a_10, .ref a_11, .ref a_12, .ref a_13, .ref a_14, .ref a_15, .ref a_16, .ref a_17, .ref a_18, .int i_11, .int i_12, .int i_13, .int i_14, .int i_15, .int i_16, .ref a_19, .int i_17, .ref a_20])), (a_7, .inl (cy 1, 30, .inl (mm_g [i_18, i_19, i_20, i_21, i_22, i_23, i_24, i_25, i_26, i_27, i_28, i_29, i_30, i_31, i_32, i_33, i_34, i_35, i_36, i_37, i_38, i_39, i_40, i_41, i_42, i_43, i_44, i_45, i_46, i_47])))] H → va_D A [(a_0, .inr (12, [.int i_1, .ref a_1, .ref a_2, .ref a_3, .ref a_4, .ref a_5, .int i_2, .int i_3, .int i_4, .int i_5, .int i_6, .long j_1, .int i_7, .int i_8, .int i_9, .int i_10, .ref a_6, .ref a_7, .ref a_8, .ref a_9, .ref a_10, .ref a_11, .ref a_12, .ref a_13, .ref a_14, .ref a_15, .ref a_16, .ref a_17, .ref a_18, .int i_11, .int i_12, .int i_13, .int i_14, .int i_15, .int i_16, .ref a_19, .int i_17, .ref a_20])), (a_7, .inl (cy 1, 30, .inl (mm_g [i_18, i_19, i_20, i_21, i_22, i_23, i_24, i_25, i_26, i_27, i_28, i_29, i_30, i_31, i_32, i_33, i_34, i_35, i_36, i_37, i_38, i_39, i_40, i_41, i_42, i_43, i_44, i_45, i_46, i_47])))] → va_S A s.heap H locs → ∀ (ls : Array Slot), lv_has ls 8 [(7, .int x9_7_436), (6, .int x9_6_437), (4, .long x9_4_438), (0, .ref a_0), (1, .long j_0), (3, .int i_0)] → W p l e R s m args below meth c H locs 0 0 Q (F0 m 9 ls []) := by
    intro n
    induction n with
    | zero => intro x9_7_436 x9_6_437 x9_4_438 rx9_7_436 rx9_4_438 hm; exact absurd hm (Nat.not_lt_zero _)
    | succ n ih9 =>
      intro x9_7_436 x9_6_437 x9_4_438 rx9_7_436 rx9_4_438 hm9 H locs hP hD hS ls hl
      refine lv_iload hx hb dX12_drawnOf_9 (lv_at hl 0 rfl) ?_
      refine lv_iload_n hx hb dX12_drawnOf_11 rfl (lv_at hl 5 rfl) ?_
      refine lv_icmp_ge (tgt := 68) hx hb dX12_drawnOf_12 (by decide) (fun c440 => ?_) (fun c440 => ?_)
      · refine lv_iload hx hb dX12_drawnOf_68 (lv_at hl 1 rfl) ?_
        subst hAe
        rw [hQ]
        exact W.iret (v := x9_6_437) hx hb hr (fun t ht hW => ⟨⟨x9_6_437, (), rfl, trivial, by rw [ht]; exact hP, hK.warm hW, hD⟩, hS.F ht⟩) hS.2.2 dX12_drawnOf_70
      · have q441 := mm_ltL (h := 6) (mm_nle c440) rx9_7_436 h1 (by decide)
        have q442 := mm_ltR (lo := 1) (mm_nle c440) rx9_7_436 h1 (by decide)
        refine lv_ldc2 (v := 1103515245) hx hb hown (mm_h hts mm_w1616) dX12_drawnOf_15 ?_
        refine lv_lload hx hb dX12_drawnOf_18 (lv_at hl 2 rfl) ?_
        refine lv_lmul hx hb dX12_drawnOf_20 ?_
        refine lv_topl (fun v443 ev443 => ?_)
        have rv443 : mm_rl v443 0 2369780942852698515 := mm_mull ev443 mm_kl1103515245 rx9_4_438 (by decide) (by decide)
        refine lv_ldc2 (v := 12345) hx hb hown (mm_h hts mm_w1617) dX12_drawnOf_21 ?_
        refine lv_ladd hx hb dX12_drawnOf_24 ?_
        refine lv_topl (fun v444 ev444 => ?_)
        have rv444 : mm_rl v444 12345 2369780942852710860 := mm_addl ev444 rv443 mm_kl12345 (by decide) (by decide)
        have tv444 := mm_addlEc ev444 rv443 mm_kl12345 (by decide) (k := 12345) (by decide)
        refine lv_ldc2 (v := 2147483648) hx hb hown (mm_h hts mm_w1618) dX12_drawnOf_25 ?_
        refine lv_lrem hx hb dX12_drawnOf_28 (mm_nzl mm_kl2147483648 (by decide)) ?_
        refine lv_topl (fun v445 ev445 => ?_)
        have rv445 : mm_rl v445 0 2147483647 := mm_reml ev445 rv444 mm_kl2147483648 (by decide) (by decide)
        refine lv_lstore (lv' := [(4, .long v445), (7, .int x9_7_436), (6, .int x9_6_437), (0, .ref a_0), (1, .long j_0), (3, .int i_0)]) hx hb dX12_drawnOf_29 hl (by decide) rfl ?_
        clear hl
        clear ls
        intro ls hl
        refine lv_iload hx hb dX12_drawnOf_31 (lv_at hl 2 rfl) ?_
        refine lv_lload hx hb dX12_drawnOf_33 (lv_at hl 0 rfl) ?_
        refine lv_ldc2 (v := 65536) hx hb hown (mm_h hts mm_w1619) dX12_drawnOf_35 ?_
        refine lv_ldiv hx hb dX12_drawnOf_38 (mm_nzl mm_kl65536 (by decide)) ?_
        refine lv_topl (fun v446 ev446 => ?_)
        have rv446 : mm_rl v446 0 2147483647 := mm_divl ev446 rv445 mm_kl65536 (by decide) (by decide)
        refine lv_ldc2 (v := 10) hx hb hown (mm_h hts mm_w1511) dX12_drawnOf_39 ?_
        refine lv_lrem hx hb dX12_drawnOf_42 (mm_nzl mm_kl10 (by decide)) ?_
        refine lv_topl (fun v447 ev447 => ?_)
        have rv447 : mm_rl v447 0 9 := mm_reml ev447 rv446 mm_kl10 (by decide) (by decide)
        refine lv_aload_n hx hb dX12_drawnOf_43 rfl (lv_at hl 3 rfl) ?_
        refine va_get (D := G) (ci := 12) (v := .ref a_7) (C := RX12) (T := TX12) (N := 38) hx hb hts (mm_i inlX12) hown hK.1 hP 0 rfl rfl 17 (by decide) (mm_h hts mm_w149) (fun _ h9 => h9) rfl dX12_drawnOf_44 ?_
        refine lv_iconst (v := 0) hx hb dX12_drawnOf_47 (by decide) ?_
        refine va_iald hx hb hK.1 hP 1 1 rfl rfl (mm_in mm_k0 (by decide)) dX12_drawnOf_48 ?_
        rw [show (mm_g [i_18, i_19, i_20, i_21, i_22, i_23, i_24, i_25, i_26, i_27, i_28, i_29, i_30, i_31, i_32, i_33, i_34, i_35, i_36, i_37, i_38, i_39, i_40, i_41, i_42, i_43, i_44, i_45, i_46, i_47]) (0 : Int32).toNatClampNeg = i_18 from mm_ge 0 (by decide) rfl]
        obtain ⟨v448, ev448⟩ : ∃ y : Int64, y = i_18.toInt64 := ⟨_, rfl⟩
        refine lv_i2l hx hb dX12_drawnOf_49 ev448.symm ?_
        have rv448 : mm_rl v448 0 10 := mm_i2l ev448 h2
        refine W.lcmp hx hb dX12_drawnOf_50 ?_
        refine lv_topi (fun v449 ev449 => ?_)
        refine lv_if_ge (tgt := 58) hx hb dX12_drawnOf_51 (by decide) (fun c450 => ?_) (fun c450 => ?_)
        · have q451 := mm_leLl (mm_cmp_ge ev449 c450) rv448 rv447
          have q452 := mm_meet (lo := 0) (hi := 9) (mm_l2x ev448 q451) h2 (by decide)
          refine lv_iconst (v := 0) hx hb dX12_drawnOf_58 (by decide) ?_
          refine lv_iadd hx hb dX12_drawnOf_59 ?_
          refine lv_topi (fun v453 ev453 => ?_)
          have rv453 : mm_rg v453 (-2147483648) 2147483647 := mm_add ev453 (mm_top x9_6_437) mm_k0 (by decide) (by decide)
          have tv453 := mm_addEc ev453 (mm_top x9_6_437) mm_k0 (by decide) (k := 0) (by decide)
          refine lv_istore (lv' := [(6, .int v453), (4, .long v445), (7, .int x9_7_436), (0, .ref a_0), (1, .long j_0), (3, .int i_0)]) hx hb dX12_drawnOf_60 hl (by decide) rfl ?_
          clear hl
          clear ls
          intro ls hl
          obtain ⟨v454, ev454⟩ : ∃ y : Int32, y = x9_7_436 + 1 := ⟨_, rfl⟩
          refine lv_iinc (v := v454) (lv' := [(7, .int v454), (6, .int v453), (4, .long v445), (0, .ref a_0), (1, .long j_0), (3, .int i_0)]) hx hb dX12_drawnOf_62 hl (k := 2) rfl (by rw [ev454]; rfl) (by decide) rfl ?_
          clear hl
          clear ls
          intro ls hl
          have rv454 : mm_rg v454 1 7 := mm_add ev454 q441 mm_k1 (by decide) (by decide)
          have tv454 := mm_addEc ev454 q441 mm_k1 (by decide) (k := 1) (by decide)
          refine lv_goto (tgt := 9) hx hb dX12_drawnOf_65 (by decide) ?_
          exact ih9 v454 v453 v445 (mm_wk rv454 (by decide)) rv445 (mm_mu hm9 tv454 (by decide) (rv454).2 (by decide)) H locs hP hD hS ls (lv_sub hl [0, 1, 2, 3, 4, 5] rfl)
        · have q455 := mm_ltRl (lo := 1) (mm_cmp_lt ev449 (mm_n_ge c450)) rv447 rv448 (by decide)
          have q456 := mm_meet (lo := 1) (hi := 10) (mm_l2x ev448 q455) h2 (by decide)
          refine lv_iconst (v := 1) hx hb dX12_drawnOf_54 (by decide) ?_
          refine lv_goto (tgt := 59) hx hb dX12_drawnOf_55 (by decide) ?_
          refine lv_iadd hx hb dX12_drawnOf_59 ?_
          refine lv_topi (fun v457 ev457 => ?_)
          refine lv_istore (lv' := [(6, .int v457), (4, .long v445), (7, .int x9_7_436), (0, .ref a_0), (1, .long j_0), (3, .int i_0)]) hx hb dX12_drawnOf_60 hl (by decide) rfl ?_
          clear hl
          clear ls
          intro ls hl
          obtain ⟨v458, ev458⟩ : ∃ y : Int32, y = x9_7_436 + 1 := ⟨_, rfl⟩
          refine lv_iinc (v := v458) (lv' := [(7, .int v458), (6, .int v457), (4, .long v445), (0, .ref a_0), (1, .long j_0), (3, .int i_0)]) hx hb dX12_drawnOf_62 hl (k := 2) rfl (by rw [ev458]; rfl) (by decide) rfl ?_
          clear hl
          clear ls
          intro ls hl
          have rv458 : mm_rg v458 1 7 := mm_add ev458 q441 mm_k1 (by decide) (by decide)
          have tv458 := mm_addEc ev458 q441 mm_k1 (by decide) (k := 1) (by decide)
          refine lv_goto (tgt := 9) hx hb dX12_drawnOf_65 (by decide) ?_
          exact ih9 v458 v457 v445 (mm_wk rv458 (by decide)) rv445 (mm_mu hm9 tv458 (by decide) (rv458).2 (by decide)) H locs hP hD hS ls (lv_sub hl [0, 1, 2, 3, 4, 5] rfl)
  exact L9_438 _ 0 0 j_0 (mm_wk mm_k0 (by decide)) (mm_wkl h0 (by decide)) (Nat.lt_succ_self _) H locs hP hD hS ls (lv_sub hl [0, 1, 2, 3, 4, 5] rfl)

set_option maxHeartbeats 4000000 in
set_option maxRecDepth 100000 in
theorem M110_X12_drawn (l : Launch) (G : va_G) (cy : Nat → ClassId) (sz : Nat) (a_0 : Nat) (i_0 : Int32) (i_1 : Int32) (i_2 : Int32) (a_1 : Nat) (a_2 : Nat) (a_3 : Nat) (a_4 : Nat) (a_5 : Nat) (i_3 : Int32) (i_4 : Int32) (i_5 : Int32) (i_6 : Int32) (i_7 : Int32) (j_0 : Int64) (i_8 : Int32) (i_9 : Int32) (i_10 : Int32) (i_11 : Int32) (a_6 : Nat) (a_7 : Nat) (a_8 : Nat) (a_9 : Nat) (a_10 : Nat) (a_11 : Nat) (a_12 : Nat) (a_13 : Nat) (a_14 : Nat) (a_15 : Nat) (a_16 : Nat) (a_17 : Nat) (a_18 : Nat) (i_12 : Int32) (i_13 : Int32) (i_14 : Int32) (i_15 : Int32) (i_16 : Int32) (i_17 : Int32) (a_19 : Nat) (i_18 : Int32) (a_20 : Nat) (i_19 : Int32) (i_20 : Int32) (i_21 : Int32) (i_22 : Int32) (i_23 : Int32) (i_24 : Int32) (i_25 : Int32) (i_26 : Int32) (i_27 : Int32) (i_28 : Int32) (i_29 : Int32) (i_30 : Int32) (i_31 : Int32) (i_32 : Int32) (i_33 : Int32) (i_34 : Int32) (i_35 : Int32) (i_36 : Int32) (i_37 : Int32) (i_38 : Int32) (i_39 : Int32) (i_40 : Int32) (i_41 : Int32) (i_42 : Int32) (i_43 : Int32) (i_44 : Int32) (i_45 : Int32) (i_46 : Int32) (i_47 : Int32) (i_48 : Int32) (i_49 : Int32) (i_50 : Int32) (i_51 : Int32) (i_52 : Int32) (i_53 : Int32) (h0 : mm_rg i_19 0 601) (h1 : mm_rg i_20 0 601) (h2 : mm_rg i_21 0 601) (h3 : mm_rg i_22 0 601) (h4 : mm_rg i_23 0 601) (h5 : mm_rg i_24 0 10) (h6 : mm_rg i_25 0 99) (h7 : mm_rg i_26 0 9) (h8 : mm_rg i_27 0 3) (h9 : mm_rg i_28 0 6) (h10 : mm_rg i_29 0 30) (h11 : mm_rg i_30 0 10) (h12 : mm_rg i_31 0 99) (h13 : mm_rg i_32 0 9) (h14 : mm_rg i_33 0 3) (h15 : mm_rg i_34 0 6) (h16 : mm_rg i_35 0 30) (h17 : mm_rg i_36 0 10) (h18 : mm_rg i_37 0 99) (h19 : mm_rg i_38 0 9) (h20 : mm_rg i_39 0 3) (h21 : mm_rg i_40 0 6) (h22 : mm_rg i_41 0 30) (h23 : mm_rg i_42 0 10) (h24 : mm_rg i_43 0 99) (h25 : mm_rg i_44 0 9) (h26 : mm_rg i_45 0 3) (h27 : mm_rg i_46 0 6) (h28 : mm_rg i_47 0 30) (h29 : mm_rg i_48 0 10) (h30 : mm_rg i_49 0 99) (h31 : mm_rg i_50 0 9) (h32 : mm_rg i_51 0 3) (h33 : mm_rg i_52 0 6) (h34 : mm_rg i_53 0 30) (h35 : mm_tl i_19 i_27 i_28) (h36 : mm_tl i_20 i_33 i_34) (h37 : mm_tl i_21 i_39 i_40) (h38 : mm_tl i_22 i_45 i_46)  : mm_CI l yX12_drawn (mm_ws yX12_drawn cX12_drawn 3 (some .int)) ({ frames := 2, cells := 0, slots := 0, locals := 45 } : Room) G cy sz [(a_0, .inr (12, [.int i_2, .ref a_1, .ref a_2, .ref a_3, .ref a_4, .ref a_5, .int i_3, .int i_4, .int i_5, .int i_6, .int i_7, .long j_0, .int i_8, .int i_9, .int i_10, .int i_11, .ref a_6, .ref a_7, .ref a_8, .ref a_9, .ref a_10, .ref a_11, .ref a_12, .ref a_13, .ref a_14, .ref a_15, .ref a_16, .ref a_17, .ref a_18, .int i_12, .int i_13, .int i_14, .int i_15, .int i_16, .int i_17, .ref a_19, .int i_18, .ref a_20])), (a_6, .inl (cy 1, 5, .inl (mm_g [i_19, i_20, i_21, i_22, i_23]))), (a_7, .inl (cy 1, 30, .inl (mm_g [i_24, i_25, i_26, i_27, i_28, i_29, i_30, i_31, i_32, i_33, i_34, i_35, i_36, i_37, i_38, i_39, i_40, i_41, i_42, i_43, i_44, i_45, i_46, i_47, i_48, i_49, i_50, i_51, i_52, i_53])))] [.ref a_0, .int i_0, .int i_1] (fun u : Unit => [(a_0, .inr (12, [.int 0, .ref a_1, .ref a_2, .ref a_3, .ref a_4, .ref a_5, .int i_3, .int i_4, .int i_5, .int i_6, .int i_7, .long j_0, .int i_8, .int i_9, .int i_10, .int i_11, .ref a_6, .ref a_7, .ref a_8, .ref a_9, .ref a_10, .ref a_11, .ref a_12, .ref a_13, .ref a_14, .ref a_15, .ref a_16, .ref a_17, .ref a_18, .int i_12, .int i_13, .int i_14, .int i_15, .int i_16, .int i_17, .ref a_19, .int i_18, .ref a_20])), (a_6, .inl (cy 1, 5, .inl (mm_g [i_19, i_20, i_21, i_22, i_23]))), (a_7, .inl (cy 1, 30, .inl (mm_g [i_24, i_25, i_26, i_27, i_28, i_29, i_30, i_31, i_32, i_33, i_34, i_35, i_36, i_37, i_38, i_39, i_40, i_41, i_42, i_43, i_44, i_45, i_46, i_47, i_48, i_49, i_50, i_51, i_52, i_53])))]) (fun (r : Int32) (u : Unit) => True) 0 0 := by
  refine mm_begin (lv := [(0, .ref a_0), (1, .int i_0), (2, .int i_1)]) (by decide) (Nat.le_of_ble_eq_true rfl) rfl ?_
  intro p e s m below meth c A ls R args Q H locs hRe hQ hAe hx hb hr hlocks hml hown hnm hts hsz hA hS hP hK hD hZ hl
  have hRf : R.frames = 2 := by rw [hRe]
  have hRl : R.locals = 45 := by rw [hRe]
  have hRc : R.cells = 0 := by rw [hRe]
  have hRs : R.slots = 0 := by rw [hRe]
  refine lv_aload_n hx hb dX12_drawn_0 rfl (lv_at hl 0 rfl) ?_
  refine lv_iconst (v := 0) hx hb dX12_drawn_1 (by decide) ?_
  refine va_put (D := G) (ci := 12) (v := .int 0) (ty := tyX12 0) (C := RX12) (T := TX12) (N := 38) hx hb hts (mm_i inlX12) tyX12 tyX12_ok nmX12 hown hK.1 hP hD hS 0 rfl rfl 0 (by decide) (mm_h hts mm_w177) (fun _ h9 => h9) rfl (tyX12_ok 0 (by decide)) rfl rfl (Nat.le_of_ble_eq_true rfl) dX12_drawn_2 ?_
  clear hP hD hS
  clear H locs
  intro H locs (hP : va_P G vwCl [(a_0, .inr (12, [.int 0, .ref a_1, .ref a_2, .ref a_3, .ref a_4, .ref a_5, .int i_3, .int i_4, .int i_5, .int i_6, .int i_7, .long j_0, .int i_8, .int i_9, .int i_10, .int i_11, .ref a_6, .ref a_7, .ref a_8, .ref a_9, .ref a_10, .ref a_11, .ref a_12, .ref a_13, .ref a_14, .ref a_15, .ref a_16, .ref a_17, .ref a_18, .int i_12, .int i_13, .int i_14, .int i_15, .int i_16, .int i_17, .ref a_19, .int i_18, .ref a_20])), (a_6, .inl (cy 1, 5, .inl (mm_g [i_19, i_20, i_21, i_22, i_23]))), (a_7, .inl (cy 1, 30, .inl (mm_g [i_24, i_25, i_26, i_27, i_28, i_29, i_30, i_31, i_32, i_33, i_34, i_35, i_36, i_37, i_38, i_39, i_40, i_41, i_42, i_43, i_44, i_45, i_46, i_47, i_48, i_49, i_50, i_51, i_52, i_53])))] H) (hD : va_D A [(a_0, .inr (12, [.int 0, .ref a_1, .ref a_2, .ref a_3, .ref a_4, .ref a_5, .int i_3, .int i_4, .int i_5, .int i_6, .int i_7, .long j_0, .int i_8, .int i_9, .int i_10, .int i_11, .ref a_6, .ref a_7, .ref a_8, .ref a_9, .ref a_10, .ref a_11, .ref a_12, .ref a_13, .ref a_14, .ref a_15, .ref a_16, .ref a_17, .ref a_18, .int i_12, .int i_13, .int i_14, .int i_15, .int i_16, .int i_17, .ref a_19, .int i_18, .ref a_20])), (a_6, .inl (cy 1, 5, .inl (mm_g [i_19, i_20, i_21, i_22, i_23]))), (a_7, .inl (cy 1, 30, .inl (mm_g [i_24, i_25, i_26, i_27, i_28, i_29, i_30, i_31, i_32, i_33, i_34, i_35, i_36, i_37, i_38, i_39, i_40, i_41, i_42, i_43, i_44, i_45, i_46, i_47, i_48, i_49, i_50, i_51, i_52, i_53])))]) hS
  refine lv_aload_n hx hb dX12_drawn_5 rfl (lv_at hl 0 rfl) ?_
  refine mm_finir (va_runV (As := []) (rest := []) ⟨hx, hb, hml, hown, hts⟩ (M105_X12_isBook l G cy H.size a_0 0 a_1 a_2 a_3 a_4 a_5 i_3 i_4 i_5 i_6 i_7 j_0 i_8 i_9 i_10 i_11 a_6 a_7 a_8 a_9 a_10 a_11 a_12 a_13 a_14 a_15 a_16 a_17 a_18 i_12 i_13 i_14 i_15 i_16 i_17 a_19 i_18 a_20 i_19 i_20 i_21 i_22 i_23 h0 h1 h2 h3 h4) (cwV 0 hts (mm_gV mm_w653 mm_w654 mm_w655 mm_w5 mm_w656) rfl rfl rfl hd_X12_isBook ⟨by rw [hRf]; exact Nat.le_of_ble_eq_true rfl, by rw [hRl]; exact Nat.le_of_ble_eq_true rfl⟩) (mm_preV hK hZ hS hA hP hD [0, 1] rfl rfl 0 rfl rfl rfl) rfl rfl hl.1 rfl (lv_room (Nat.le_of_ble_eq_true rfl)) dX12_drawn_6 ⟨by rw [hRc]; exact Nat.le_of_ble_eq_true rfl, by rw [hRs]; exact Nat.le_of_ble_eq_true rfl⟩) hP hD hS hA [0, 1] rfl (fun _ => rfl) ?_
  clear hP hD hS
  clear H locs
  intro v1 _u H locs hw hP hD hS
  rcases hw with rfl | rfl
  · refine lv_if_eq (tgt := 41) hx hb dX12_drawn_9 (by decide) (fun c2 => ?_) (fun c2 => ?_)
    · refine lv_bipush (v := (-2)) hx hb dX12_drawn_41 (by decide) ?_
      subst hAe
      rw [hQ]
      exact W.iret (v := (-2)) hx hb hr (fun t ht hW => ⟨⟨(-2), (), rfl, trivial, by rw [ht]; exact hP, hK.warm hW, hD⟩, hS.F ht⟩) hS.2.2 dX12_drawn_43
    · have q3 := mm_neL (lo := 1) (mm_ne c2) mm_k0 mm_k0 (by decide) (by decide)
      exact mm_no q3 (by decide)
  · refine lv_if_eq (tgt := 41) hx hb dX12_drawn_9 (by decide) (fun c4 => ?_) (fun c4 => ?_)
    · exact mm_eqN c4.symm mm_k0 mm_k1 (by decide)
    · refine lv_iload_n hx hb dX12_drawn_12 rfl (lv_at hl 1 rfl) ?_
      refine mm_finir (va_runS (As := [.int i_0]) (rest := []) ⟨hx, hb, hml, hown, hts⟩ (M108_X12_isSeed l G cy H.size i_0 ) (va_cwS 1 hts (mm_gS mm_w1608 mm_w1609 mm_w5 mm_w1610) rfl rfl rfl hs_X12_isSeed ⟨by rw [hRf]; exact Nat.le_of_ble_eq_true rfl, by rw [hRl]; exact Nat.le_of_ble_eq_true rfl⟩) (mm_preS hK hZ hS hA hP hD [] rfl rfl) rfl rfl hl.1 rfl (lv_room (Nat.le_of_ble_eq_true rfl)) dX12_drawn_13 ⟨by rw [hRc]; exact Nat.le_of_ble_eq_true rfl, by rw [hRs]; exact Nat.le_of_ble_eq_true rfl⟩) hP hD hS hA [] rfl (fun _ => rfl) ?_
      clear hP hD hS
      clear H locs
      intro v5 _u H locs hw hP hD hS
      rcases hw with rfl | ⟨rfl, w6⟩
      · refine lv_if_eq (tgt := 41) hx hb dX12_drawn_16 (by decide) (fun c7 => ?_) (fun c7 => ?_)
        · refine lv_bipush (v := (-2)) hx hb dX12_drawn_41 (by decide) ?_
          subst hAe
          rw [hQ]
          exact W.iret (v := (-2)) hx hb hr (fun t ht hW => ⟨⟨(-2), (), rfl, trivial, by rw [ht]; exact hP, hK.warm hW, hD⟩, hS.F ht⟩) hS.2.2 dX12_drawn_43
        · have q8 := mm_neL (lo := 1) (mm_ne c7) mm_k0 mm_k0 (by decide) (by decide)
          exact mm_no q8 (by decide)
      · refine lv_if_eq (tgt := 41) hx hb dX12_drawn_16 (by decide) (fun c9 => ?_) (fun c9 => ?_)
        · exact mm_eqN c9.symm mm_k0 mm_k1 (by decide)
        · refine lv_iload_n hx hb dX12_drawn_19 rfl (lv_at hl 2 rfl) ?_
          obtain ⟨v10, ev10⟩ : ∃ y : Int64, y = i_1.toInt64 := ⟨_, rfl⟩
          refine lv_i2l hx hb dX12_drawn_20 ev10.symm ?_
          have rv10 : mm_rl v10 (-2147483648) 2147483647 := mm_i2l ev10 (mm_top i_1)
          refine lv_lconst (v := 0) hx hb dX12_drawn_21 (by decide) ?_
          refine lv_ldc2 (v := 7) hx hb hown (mm_h hts mm_w1399) dX12_drawn_22 ?_
          refine mm_finir (va_runS (As := [.long v10, .long 0, .long 7]) (rest := []) ⟨hx, hb, hml, hown, hts⟩ (M7_X12_in l G cy H.size v10 7 ) (va_cwS 3 hts (mm_gS mm_w191 mm_w192 mm_w5 mm_w193) rfl rfl rfl hs_X12_in ⟨by rw [hRf]; exact Nat.le_of_ble_eq_true rfl, by rw [hRl]; exact Nat.le_of_ble_eq_true rfl⟩) (mm_preS hK hZ hS hA hP hD [] rfl rfl) rfl rfl hl.1 rfl (lv_room (Nat.le_of_ble_eq_true rfl)) dX12_drawn_25 ⟨by rw [hRc]; exact Nat.le_of_ble_eq_true rfl, by rw [hRs]; exact Nat.le_of_ble_eq_true rfl⟩) hP hD hS hA [] rfl (fun _ => rfl) ?_
          clear hP hD hS
          clear H locs
          intro v11 _u H locs hw hP hD hS
          rcases hw with ⟨rfl, w12⟩ | ⟨rfl, w13, w14, w15, w16⟩
          · refine lv_if_eq (tgt := 41) hx hb dX12_drawn_28 (by decide) (fun c17 => ?_) (fun c17 => ?_)
            · refine lv_bipush (v := (-2)) hx hb dX12_drawn_41 (by decide) ?_
              subst hAe
              rw [hQ]
              exact W.iret (v := (-2)) hx hb hr (fun t ht hW => ⟨⟨(-2), (), rfl, trivial, by rw [ht]; exact hP, hK.warm hW, hD⟩, hS.F ht⟩) hS.2.2 dX12_drawn_43
            · have q18 := mm_neL (lo := 1) (mm_ne c17) mm_k0 mm_k0 (by decide) (by decide)
              exact mm_no q18 (by decide)
          · have q19 := mm_meetl (lo := 0) (hi := 2147483647) w13 rv10 (by decide)
            have q20 := mm_meet (lo := 0) (hi := 2147483647) (mm_l2x ev10 q19) (mm_top i_1) (by decide)
            have q21 := mm_leLl w15 q19 mm_kl7
            have q22 := mm_meet (lo := 0) (hi := 7) (mm_l2x ev10 q21) q20 (by decide)
            refine lv_if_eq (tgt := 41) hx hb dX12_drawn_28 (by decide) (fun c23 => ?_) (fun c23 => ?_)
            · exact mm_eqN c23.symm mm_k0 mm_k1 (by decide)
            · refine lv_aload_n hx hb dX12_drawn_31 rfl (lv_at hl 0 rfl) ?_
              refine lv_iload_n hx hb dX12_drawn_32 rfl (lv_at hl 1 rfl) ?_
              obtain ⟨v24, ev24⟩ : ∃ y : Int64, y = i_0.toInt64 := ⟨_, rfl⟩
              refine lv_i2l hx hb dX12_drawn_33 ev24.symm ?_
              have rv24 : mm_rl v24 0 2000000000 := mm_i2l ev24 w6
              refine lv_iload_n hx hb dX12_drawn_34 rfl (lv_at hl 2 rfl) ?_
              refine mm_finir (va_runV (As := [.long v24, .int i_1]) (rest := []) ⟨hx, hb, hml, hown, hts⟩ (M109_X12_drawnOf l G cy H.size a_0 v24 i_1 0 a_1 a_2 a_3 a_4 a_5 i_3 i_4 i_5 i_6 i_7 j_0 i_8 i_9 i_10 i_11 a_6 a_7 a_8 a_9 a_10 a_11 a_12 a_13 a_14 a_15 a_16 a_17 a_18 i_12 i_13 i_14 i_15 i_16 i_17 a_19 i_18 a_20 i_24 i_25 i_26 i_27 i_28 i_29 i_30 i_31 i_32 i_33 i_34 i_35 i_36 i_37 i_38 i_39 i_40 i_41 i_42 i_43 i_44 i_45 i_46 i_47 i_48 i_49 i_50 i_51 i_52 i_53 rv24 q22 h5 h6 h7 h8 h9 h10 h11 h12 h13 h14 h15 h16 h17 h18 h19 h20 h21 h22 h23 h24 h25 h26 h27 h28 h29 h30 h31 h32 h33 h34) (cwV 2 hts (mm_gV mm_w1612 mm_w1613 mm_w1614 mm_w5 mm_w1615) rfl rfl rfl hd_X12_drawnOf ⟨by rw [hRf]; exact Nat.le_of_ble_eq_true rfl, by rw [hRl]; exact Nat.le_of_ble_eq_true rfl⟩) (mm_preV hK hZ hS hA hP hD [0, 2] rfl rfl 0 rfl rfl rfl) rfl rfl hl.1 rfl (lv_room (Nat.le_of_ble_eq_true rfl)) dX12_drawn_35 ⟨by rw [hRc]; exact Nat.le_of_ble_eq_true rfl, by rw [hRs]; exact Nat.le_of_ble_eq_true rfl⟩) hP hD hS hA [0, 2] rfl (fun _ => rfl) ?_
              clear hP hD hS
              clear H locs
              intro v25 _u H locs hw hP hD hS
              refine lv_goto (tgt := 43) hx hb dX12_drawn_38 (by decide) ?_
              subst hAe
              rw [hQ]
              exact W.iret (v := v25) hx hb hr (fun t ht hW => ⟨⟨v25, (), rfl, trivial, by rw [ht]; exact hP, hK.warm hW, hD⟩, hS.F ht⟩) hS.2.2 dX12_drawn_43

set_option maxHeartbeats 4000000 in
set_option maxRecDepth 100000 in
theorem M111_X12_rate (l : Launch) (G : va_G) (cy : Nat → ClassId) (sz : Nat) (a_0 : Nat) (i_0 : Int32) (i_1 : Int32) (i_2 : Int32) (a_1 : Nat) (a_2 : Nat) (a_3 : Nat) (a_4 : Nat) (a_5 : Nat) (i_3 : Int32) (i_4 : Int32) (i_5 : Int32) (i_6 : Int32) (i_7 : Int32) (j_0 : Int64) (i_8 : Int32) (i_9 : Int32) (i_10 : Int32) (i_11 : Int32) (a_6 : Nat) (a_7 : Nat) (a_8 : Nat) (a_9 : Nat) (a_10 : Nat) (a_11 : Nat) (a_12 : Nat) (a_13 : Nat) (a_14 : Nat) (a_15 : Nat) (a_16 : Nat) (a_17 : Nat) (a_18 : Nat) (i_12 : Int32) (i_13 : Int32) (i_14 : Int32) (i_15 : Int32) (i_16 : Int32) (i_17 : Int32) (a_19 : Nat) (i_18 : Int32) (a_20 : Nat) (i_19 : Int32) (i_20 : Int32) (i_21 : Int32) (i_22 : Int32) (i_23 : Int32) (i_24 : Int32) (i_25 : Int32) (i_26 : Int32) (i_27 : Int32) (i_28 : Int32) (i_29 : Int32) (i_30 : Int32) (i_31 : Int32) (i_32 : Int32) (i_33 : Int32) (i_34 : Int32) (i_35 : Int32) (i_36 : Int32) (i_37 : Int32) (i_38 : Int32) (i_39 : Int32) (i_40 : Int32) (i_41 : Int32) (i_42 : Int32) (i_43 : Int32) (i_44 : Int32) (i_45 : Int32) (i_46 : Int32) (i_47 : Int32) (i_48 : Int32) (f_0 : Nat → Int32) (h0 : mm_rg i_19 0 10) (h1 : mm_rg i_20 0 99) (h2 : mm_rg i_21 0 9) (h3 : mm_rg i_22 0 3) (h4 : mm_rg i_23 0 6) (h5 : mm_rg i_24 0 30) (h6 : mm_rg i_25 0 10) (h7 : mm_rg i_26 0 99) (h8 : mm_rg i_27 0 9) (h9 : mm_rg i_28 0 3) (h10 : mm_rg i_29 0 6) (h11 : mm_rg i_30 0 30) (h12 : mm_rg i_31 0 10) (h13 : mm_rg i_32 0 99) (h14 : mm_rg i_33 0 9) (h15 : mm_rg i_34 0 3) (h16 : mm_rg i_35 0 6) (h17 : mm_rg i_36 0 30) (h18 : mm_rg i_37 0 10) (h19 : mm_rg i_38 0 99) (h20 : mm_rg i_39 0 9) (h21 : mm_rg i_40 0 3) (h22 : mm_rg i_41 0 6) (h23 : mm_rg i_42 0 30) (h24 : mm_rg i_43 0 10) (h25 : mm_rg i_44 0 99) (h26 : mm_rg i_45 0 9) (h27 : mm_rg i_46 0 3) (h28 : mm_rg i_47 0 6) (h29 : mm_rg i_48 0 30) (h30 : mm_ar f_0 0 99)  : mm_CI l yX12_rate (mm_ws yX12_rate cX12_rate 4 (some .int)) ({ frames := 1, cells := 0, slots := 0, locals := 25 } : Room) G cy sz [(a_0, .inr (12, [.int i_2, .ref a_1, .ref a_2, .ref a_3, .ref a_4, .ref a_5, .int i_3, .int i_4, .int i_5, .int i_6, .int i_7, .long j_0, .int i_8, .int i_9, .int i_10, .int i_11, .ref a_6, .ref a_7, .ref a_8, .ref a_9, .ref a_10, .ref a_11, .ref a_12, .ref a_13, .ref a_14, .ref a_15, .ref a_16, .ref a_17, .ref a_18, .int i_12, .int i_13, .int i_14, .int i_15, .int i_16, .int i_17, .ref a_19, .int i_18, .ref a_20])), (a_7, .inl (cy 1, 30, .inl (mm_g [i_19, i_20, i_21, i_22, i_23, i_24, i_25, i_26, i_27, i_28, i_29, i_30, i_31, i_32, i_33, i_34, i_35, i_36, i_37, i_38, i_39, i_40, i_41, i_42, i_43, i_44, i_45, i_46, i_47, i_48]))), (a_8, .inl (cy 1, 90, .inl f_0))] [.ref a_0, .int i_0, .int i_1] (fun u : (Nat → Int32) => [(a_0, .inr (12, [.int 0, .ref a_1, .ref a_2, .ref a_3, .ref a_4, .ref a_5, .int i_3, .int i_4, .int i_5, .int i_6, .int i_7, .long j_0, .int i_8, .int i_9, .int i_10, .int i_11, .ref a_6, .ref a_7, .ref a_8, .ref a_9, .ref a_10, .ref a_11, .ref a_12, .ref a_13, .ref a_14, .ref a_15, .ref a_16, .ref a_17, .ref a_18, .int i_12, .int i_13, .int i_14, .int i_15, .int i_16, .int i_17, .ref a_19, .int i_18, .ref a_20])), (a_7, .inl (cy 1, 30, .inl (mm_g [i_19, i_20, i_21, i_22, i_23, i_24, i_25, i_26, i_27, i_28, i_29, i_30, i_31, i_32, i_33, i_34, i_35, i_36, i_37, i_38, i_39, i_40, i_41, i_42, i_43, i_44, i_45, i_46, i_47, i_48]))), (a_8, .inl (cy 1, 90, .inl u))]) (fun (r : Int32) (u : (Nat → Int32)) => mm_ar u 0 99 ∧ mm_rg r (-5) 99) 0 0 := by
  refine mm_begin (lv := [(0, .ref a_0), (1, .int i_0), (2, .int i_1)]) (by decide) (Nat.le_of_ble_eq_true rfl) rfl ?_
  intro p e s m below meth c A ls R args Q H locs hRe hQ hAe hx hb hr hlocks hml hown hnm hts hsz hA hS hP hK hD hZ hl
  have hRf : R.frames = 1 := by rw [hRe]
  have hRl : R.locals = 25 := by rw [hRe]
  have hRc : R.cells = 0 := by rw [hRe]
  have hRs : R.slots = 0 := by rw [hRe]
  refine lv_aload_n hx hb dX12_rate_0 rfl (lv_at hl 0 rfl) ?_
  refine lv_iconst (v := 0) hx hb dX12_rate_1 (by decide) ?_
  refine va_put (D := G) (ci := 12) (v := .int 0) (ty := tyX12 0) (C := RX12) (T := TX12) (N := 38) hx hb hts (mm_i inlX12) tyX12 tyX12_ok nmX12 hown hK.1 hP hD hS 0 rfl rfl 0 (by decide) (mm_h hts mm_w177) (fun _ h9 => h9) rfl (tyX12_ok 0 (by decide)) rfl rfl (Nat.le_of_ble_eq_true rfl) dX12_rate_2 ?_
  clear hP hD hS
  clear H locs
  intro H locs (hP : va_P G vwCl [(a_0, .inr (12, [.int 0, .ref a_1, .ref a_2, .ref a_3, .ref a_4, .ref a_5, .int i_3, .int i_4, .int i_5, .int i_6, .int i_7, .long j_0, .int i_8, .int i_9, .int i_10, .int i_11, .ref a_6, .ref a_7, .ref a_8, .ref a_9, .ref a_10, .ref a_11, .ref a_12, .ref a_13, .ref a_14, .ref a_15, .ref a_16, .ref a_17, .ref a_18, .int i_12, .int i_13, .int i_14, .int i_15, .int i_16, .int i_17, .ref a_19, .int i_18, .ref a_20])), (a_7, .inl (cy 1, 30, .inl (mm_g [i_19, i_20, i_21, i_22, i_23, i_24, i_25, i_26, i_27, i_28, i_29, i_30, i_31, i_32, i_33, i_34, i_35, i_36, i_37, i_38, i_39, i_40, i_41, i_42, i_43, i_44, i_45, i_46, i_47, i_48]))), (a_8, .inl (cy 1, 90, .inl f_0))] H) (hD : va_D A [(a_0, .inr (12, [.int 0, .ref a_1, .ref a_2, .ref a_3, .ref a_4, .ref a_5, .int i_3, .int i_4, .int i_5, .int i_6, .int i_7, .long j_0, .int i_8, .int i_9, .int i_10, .int i_11, .ref a_6, .ref a_7, .ref a_8, .ref a_9, .ref a_10, .ref a_11, .ref a_12, .ref a_13, .ref a_14, .ref a_15, .ref a_16, .ref a_17, .ref a_18, .int i_12, .int i_13, .int i_14, .int i_15, .int i_16, .int i_17, .ref a_19, .int i_18, .ref a_20])), (a_7, .inl (cy 1, 30, .inl (mm_g [i_19, i_20, i_21, i_22, i_23, i_24, i_25, i_26, i_27, i_28, i_29, i_30, i_31, i_32, i_33, i_34, i_35, i_36, i_37, i_38, i_39, i_40, i_41, i_42, i_43, i_44, i_45, i_46, i_47, i_48]))), (a_8, .inl (cy 1, 90, .inl f_0))]) hS
  refine lv_iload_n hx hb dX12_rate_5 rfl (lv_at hl 1 rfl) ?_
  obtain ⟨v1, ev1⟩ : ∃ y : Int64, y = i_0.toInt64 := ⟨_, rfl⟩
  refine lv_i2l hx hb dX12_rate_6 ev1.symm ?_
  have rv1 : mm_rl v1 (-2147483648) 2147483647 := mm_i2l ev1 (mm_top i_0)
  refine lv_lconst (v := 0) hx hb dX12_rate_7 (by decide) ?_
  refine lv_aload_n hx hb dX12_rate_8 rfl (lv_at hl 0 rfl) ?_
  refine mm_finir (va_runV (As := []) (rest := [.long 0, .long v1]) ⟨hx, hb, hml, hown, hts⟩ (M92_X12_senses l G cy H.size a_0 0 a_1 a_2 a_3 a_4 a_5 i_3 i_4 i_5 i_6 i_7 j_0 i_8 i_9 i_10 i_11 a_6 a_7 a_8 a_9 a_10 a_11 a_12 a_13 a_14 a_15 a_16 a_17 a_18 i_12 i_13 i_14 i_15 i_16 i_17 a_19 i_18 a_20 i_19 i_20 i_21 i_22 i_23 i_24 i_25 i_26 i_27 i_28 i_29 i_30 i_31 i_32 i_33 i_34 i_35 i_36 i_37 i_38 i_39 i_40 i_41 i_42 i_43 i_44 i_45 i_46 i_47 i_48 h0 h1 h2 h3 h4 h5 h6 h7 h8 h9 h10 h11 h12 h13 h14 h15 h16 h17 h18 h19 h20 h21 h22 h23 h24 h25 h26 h27 h28 h29) (cwV 0 hts (mm_gV mm_w588 mm_w589 mm_w590 mm_w5 mm_w591) rfl rfl rfl hd_X12_senses ⟨by rw [hRf]; exact Nat.le_of_ble_eq_true rfl, by rw [hRl]; exact Nat.le_of_ble_eq_true rfl⟩) (mm_preV hK hZ hS hA hP hD [0, 1] rfl rfl 0 rfl rfl rfl) rfl rfl hl.1 rfl (lv_room (Nat.le_of_ble_eq_true rfl)) dX12_rate_9 ⟨by rw [hRc]; exact Nat.le_of_ble_eq_true rfl, by rw [hRs]; exact Nat.le_of_ble_eq_true rfl⟩) hP hD hS hA [0, 1] rfl (fun _ => rfl) ?_
  clear hP hD hS
  clear H locs
  intro v2 _u H locs hw hP hD hS
  subst hw
  obtain ⟨v3, ev3⟩ : ∃ y : Int64, y = i_21.toInt64 := ⟨_, rfl⟩
  refine lv_i2l hx hb dX12_rate_12 ev3.symm ?_
  have rv3 : mm_rl v3 0 9 := mm_i2l ev3 h2
  refine lv_lconst (v := 1) hx hb dX12_rate_13 (by decide) ?_
  refine lv_lsub hx hb dX12_rate_14 ?_
  refine lv_topl (fun v4 ev4 => ?_)
  have rv4 : mm_rl v4 (-1) 8 := mm_subl ev4 rv3 mm_kl1 (by decide) (by decide)
  have tv4 := mm_sublEc ev4 rv3 mm_kl1 (by decide) (k := 1) (by decide)
  refine mm_finir (va_runS (As := [.long v1, .long 0, .long v4]) (rest := []) ⟨hx, hb, hml, hown, hts⟩ (M7_X12_in l G cy H.size v1 v4 ) (va_cwS 3 hts (mm_gS mm_w191 mm_w192 mm_w5 mm_w193) rfl rfl rfl hs_X12_in ⟨by rw [hRf]; exact Nat.le_of_ble_eq_true rfl, by rw [hRl]; exact Nat.le_of_ble_eq_true rfl⟩) (mm_preS hK hZ hS hA hP hD [] rfl rfl) rfl rfl hl.1 rfl (lv_room (Nat.le_of_ble_eq_true rfl)) dX12_rate_15 ⟨by rw [hRc]; exact Nat.le_of_ble_eq_true rfl, by rw [hRs]; exact Nat.le_of_ble_eq_true rfl⟩) hP hD hS hA [] rfl (fun _ => rfl) ?_
  clear hP hD hS
  clear H locs
  intro v5 _u H locs hw hP hD hS
  rcases hw with ⟨rfl, w6⟩ | ⟨rfl, w7, w8, w9, w10⟩
  · refine lv_if_eq (tgt := 45) hx hb dX12_rate_18 (by decide) (fun c11 => ?_) (fun c11 => ?_)
    · refine lv_bipush (v := (-2)) hx hb dX12_rate_45 (by decide) ?_
      subst hAe
      rw [hQ]
      exact W.iret (v := (-2)) hx hb hr (fun t ht hW => ⟨⟨(-2), f_0, rfl, ⟨h30, (mm_wk mm_km2 (by decide))⟩, by rw [ht]; exact hP, hK.warm hW, hD⟩, hS.F ht⟩) hS.2.2 dX12_rate_47
    · have q12 := mm_neL (lo := 1) (mm_ne c11) mm_k0 mm_k0 (by decide) (by decide)
      exact mm_no q12 (by decide)
  · have q13 := mm_meetl (lo := 0) (hi := 2147483647) w7 rv1 (by decide)
    have q14 := mm_meet (lo := 0) (hi := 2147483647) (mm_l2x ev1 q13) (mm_top i_0) (by decide)
    have q15 := mm_meetl (lo := 0) (hi := 8) w8 rv4 (by decide)
    have q16 := mm_leLl w9 q13 q15
    have q17 := mm_meet (lo := 0) (hi := 8) (mm_l2x ev1 q16) q14 (by decide)
    have w18 : (i_0 : Int32).toInt < (i_21 : Int32).toInt := by have := (mm_i2lE ev1); have := (mm_i2lE ev3); have := tv4; have := w9; omega
    have q19 := mm_ltR (lo := 1) w18 q17 h2 (by decide)
    refine lv_if_eq (tgt := 45) hx hb dX12_rate_18 (by decide) (fun c20 => ?_) (fun c20 => ?_)
    · exact mm_eqN c20.symm mm_k0 mm_k1 (by decide)
    · refine lv_aload_n hx hb dX12_rate_21 rfl (lv_at hl 0 rfl) ?_
      refine va_get (D := G) (ci := 12) (v := .ref a_8) (C := RX12) (T := TX12) (N := 38) hx hb hts (mm_i inlX12) hown hK.1 hP 0 rfl rfl 18 (by decide) (mm_h hts mm_w150) (fun _ h9 => h9) rfl dX12_rate_22 ?_
      refine lv_iconst (v := 2) hx hb dX12_rate_25 (by decide) ?_
      refine lv_iload_n hx hb dX12_rate_26 rfl (lv_at hl 1 rfl) ?_
      refine lv_imul hx hb dX12_rate_27 ?_
      refine lv_topi (fun v21 ev21 => ?_)
      have rv21 : mm_rg v21 0 16 := mm_mul ev21 mm_k2 q17 (by decide) (by decide)
      have tv21 := mm_mulEc ev21 mm_k2 q17 (by decide) (k := 2) (by decide)
      refine va_iald hx hb hK.1 hP 2 1 rfl rfl (mm_in rv21 (by decide)) dX12_rate_28 ?_
      refine lv_topi (fun v22 ev22 => ?_)
      have rv22 : mm_rg v22 0 99 := mm_eqv ev22 (h30 _)
      refine lv_iconst (v := 1) hx hb dX12_rate_29 (by decide) ?_
      refine lv_icmp_gt (tgt := 45) hx hb dX12_rate_30 (by decide) (fun c23 => ?_) (fun c23 => ?_)
      · have q24 := mm_ltR (lo := 2) (mm_lt c23) mm_k1 rv22 (by decide)
        refine lv_bipush (v := (-2)) hx hb dX12_rate_45 (by decide) ?_
        subst hAe
        rw [hQ]
        exact W.iret (v := (-2)) hx hb hr (fun t ht hW => ⟨⟨(-2), f_0, rfl, ⟨h30, (mm_wk mm_km2 (by decide))⟩, by rw [ht]; exact hP, hK.warm hW, hD⟩, hS.F ht⟩) hS.2.2 dX12_rate_47
      · have q25 := mm_leL (mm_nlt c23) rv22 mm_k1
        refine lv_iload_n hx hb dX12_rate_33 rfl (lv_at hl 2 rfl) ?_
        obtain ⟨v26, ev26⟩ : ∃ y : Int64, y = i_1.toInt64 := ⟨_, rfl⟩
        refine lv_i2l hx hb dX12_rate_34 ev26.symm ?_
        have rv26 : mm_rl v26 (-2147483648) 2147483647 := mm_i2l ev26 (mm_top i_1)
        refine lv_lconst (v := 0) hx hb dX12_rate_35 (by decide) ?_
        refine lv_ldc2 (v := 99) hx hb hown (mm_h hts mm_w1566) dX12_rate_36 ?_
        refine mm_finir (va_runS (As := [.long v26, .long 0, .long 99]) (rest := []) ⟨hx, hb, hml, hown, hts⟩ (M7_X12_in l G cy H.size v26 99 ) (va_cwS 3 hts (mm_gS mm_w191 mm_w192 mm_w5 mm_w193) rfl rfl rfl hs_X12_in ⟨by rw [hRf]; exact Nat.le_of_ble_eq_true rfl, by rw [hRl]; exact Nat.le_of_ble_eq_true rfl⟩) (mm_preS hK hZ hS hA hP hD [] rfl rfl) rfl rfl hl.1 rfl (lv_room (Nat.le_of_ble_eq_true rfl)) dX12_rate_39 ⟨by rw [hRc]; exact Nat.le_of_ble_eq_true rfl, by rw [hRs]; exact Nat.le_of_ble_eq_true rfl⟩) hP hD hS hA [] rfl (fun _ => rfl) ?_
        clear hP hD hS
        clear H locs
        intro v27 _u H locs hw hP hD hS
        rcases hw with ⟨rfl, w28⟩ | ⟨rfl, w29, w30, w31, w32⟩
        · refine lv_if_ne (tgt := 48) hx hb dX12_rate_42 (by decide) (fun c33 => ?_) (fun c33 => ?_)
          · have q34 := mm_neL (lo := 1) (mm_ne c33) mm_k0 mm_k0 (by decide) (by decide)
            exact mm_no q34 (by decide)
          · refine lv_bipush (v := (-2)) hx hb dX12_rate_45 (by decide) ?_
            subst hAe
            rw [hQ]
            exact W.iret (v := (-2)) hx hb hr (fun t ht hW => ⟨⟨(-2), f_0, rfl, ⟨h30, (mm_wk mm_km2 (by decide))⟩, by rw [ht]; exact hP, hK.warm hW, hD⟩, hS.F ht⟩) hS.2.2 dX12_rate_47
        · have q35 := mm_meetl (lo := 0) (hi := 2147483647) w29 rv26 (by decide)
          have q36 := mm_meet (lo := 0) (hi := 2147483647) (mm_l2x ev26 q35) (mm_top i_1) (by decide)
          have q37 := mm_leLl w31 q35 mm_kl99
          have q38 := mm_meet (lo := 0) (hi := 99) (mm_l2x ev26 q37) q36 (by decide)
          refine lv_if_ne (tgt := 48) hx hb dX12_rate_42 (by decide) (fun c39 => ?_) (fun c39 => ?_)
          · refine lv_aload_n hx hb dX12_rate_48 rfl (lv_at hl 0 rfl) ?_
            refine va_get (D := G) (ci := 12) (v := .ref a_7) (C := RX12) (T := TX12) (N := 38) hx hb hts (mm_i inlX12) hown hK.1 hP 0 rfl rfl 17 (by decide) (mm_h hts mm_w149) (fun _ h9 => h9) rfl dX12_rate_49 ?_
            refine lv_iconst (v := 5) hx hb dX12_rate_52 (by decide) ?_
            refine va_iald hx hb hK.1 hP 1 1 rfl rfl (mm_in mm_k5 (by decide)) dX12_rate_53 ?_
            rw [show (mm_g [i_19, i_20, i_21, i_22, i_23, i_24, i_25, i_26, i_27, i_28, i_29, i_30, i_31, i_32, i_33, i_34, i_35, i_36, i_37, i_38, i_39, i_40, i_41, i_42, i_43, i_44, i_45, i_46, i_47, i_48]) (5 : Int32).toNatClampNeg = i_24 from mm_ge 5 (by decide) rfl]
            refine lv_if_le (tgt := 60) hx hb dX12_rate_54 (by decide) (fun c40 => ?_) (fun c40 => ?_)
            · have q41 := mm_leL (mm_le c40) h5 mm_k0
              refine lv_aload_n hx hb dX12_rate_60 rfl (lv_at hl 0 rfl) ?_
              refine va_get (D := G) (ci := 12) (v := .ref a_8) (C := RX12) (T := TX12) (N := 38) hx hb hts (mm_i inlX12) hown hK.1 hP 0 rfl rfl 18 (by decide) (mm_h hts mm_w150) (fun _ h9 => h9) rfl dX12_rate_61 ?_
              refine lv_iconst (v := 2) hx hb dX12_rate_64 (by decide) ?_
              refine lv_iload_n hx hb dX12_rate_65 rfl (lv_at hl 1 rfl) ?_
              refine lv_imul hx hb dX12_rate_66 ?_
              refine lv_topi (fun v42 ev42 => ?_)
              have rv42 : mm_rg v42 0 16 := mm_mul ev42 mm_k2 q17 (by decide) (by decide)
              have tv42 := mm_mulEc ev42 mm_k2 q17 (by decide) (k := 2) (by decide)
              refine lv_iconst (v := 1) hx hb dX12_rate_67 (by decide) ?_
              refine lv_iadd hx hb dX12_rate_68 ?_
              refine lv_topi (fun v43 ev43 => ?_)
              have rv43 : mm_rg v43 1 17 := mm_add ev43 rv42 mm_k1 (by decide) (by decide)
              have tv43 := mm_addEc ev43 rv42 mm_k1 (by decide) (k := 1) (by decide)
              refine va_iald hx hb hK.1 hP 2 1 rfl rfl (mm_in rv43 (by decide)) dX12_rate_69 ?_
              refine lv_topi (fun v44 ev44 => ?_)
              have rv44 : mm_rg v44 0 99 := mm_eqv ev44 (h30 _)
              refine lv_istore_n (lv' := [(3, .int v44), (0, .ref a_0), (1, .int i_0), (2, .int i_1)]) hx hb dX12_rate_70 rfl hl (by decide) rfl ?_
              clear hl
              clear ls
              intro ls hl
              refine lv_aload_n hx hb dX12_rate_71 rfl (lv_at hl 1 rfl) ?_
              refine va_get (D := G) (ci := 12) (v := .ref a_8) (C := RX12) (T := TX12) (N := 38) hx hb hts (mm_i inlX12) hown hK.1 hP 0 rfl rfl 18 (by decide) (mm_h hts mm_w150) (fun _ h9 => h9) rfl dX12_rate_72 ?_
              refine lv_iconst (v := 2) hx hb dX12_rate_75 (by decide) ?_
              refine lv_iload_n hx hb dX12_rate_76 rfl (lv_at hl 2 rfl) ?_
              refine lv_imul hx hb dX12_rate_77 ?_
              refine lv_topi (fun v45 ev45 => ?_)
              have rv45 : mm_rg v45 0 16 := mm_mul ev45 mm_k2 q17 (by decide) (by decide)
              have tv45 := mm_mulEc ev45 mm_k2 q17 (by decide) (k := 2) (by decide)
              refine lv_iconst (v := 1) hx hb dX12_rate_78 (by decide) ?_
              refine lv_iadd hx hb dX12_rate_79 ?_
              refine lv_topi (fun v46 ev46 => ?_)
              have rv46 : mm_rg v46 1 17 := mm_add ev46 rv45 mm_k1 (by decide) (by decide)
              have tv46 := mm_addEc ev46 rv45 mm_k1 (by decide) (k := 1) (by decide)
              refine lv_iload_n hx hb dX12_rate_80 rfl (lv_at hl 3 rfl) ?_
              refine va_iast hx hb hK.1 hP hD hS 2 1 rfl rfl (mm_in rv46 (by decide)) dX12_rate_81 ?_
              clear hP hD hS
              clear H locs
              obtain ⟨g47, eg47⟩ : ∃ z : Nat → Int32, z = upd f_0 v46.toNatClampNeg i_1 := ⟨_, rfl⟩
              rw [← eg47]
              intro H locs (hP : va_P G vwCl [(a_0, .inr (12, [.int 0, .ref a_1, .ref a_2, .ref a_3, .ref a_4, .ref a_5, .int i_3, .int i_4, .int i_5, .int i_6, .int i_7, .long j_0, .int i_8, .int i_9, .int i_10, .int i_11, .ref a_6, .ref a_7, .ref a_8, .ref a_9, .ref a_10, .ref a_11, .ref a_12, .ref a_13, .ref a_14, .ref a_15, .ref a_16, .ref a_17, .ref a_18, .int i_12, .int i_13, .int i_14, .int i_15, .int i_16, .int i_17, .ref a_19, .int i_18, .ref a_20])), (a_7, .inl (cy 1, 30, .inl (mm_g [i_19, i_20, i_21, i_22, i_23, i_24, i_25, i_26, i_27, i_28, i_29, i_30, i_31, i_32, i_33, i_34, i_35, i_36, i_37, i_38, i_39, i_40, i_41, i_42, i_43, i_44, i_45, i_46, i_47, i_48]))), (a_8, .inl (cy 1, 90, .inl g47))] H) (hD : va_D A [(a_0, .inr (12, [.int 0, .ref a_1, .ref a_2, .ref a_3, .ref a_4, .ref a_5, .int i_3, .int i_4, .int i_5, .int i_6, .int i_7, .long j_0, .int i_8, .int i_9, .int i_10, .int i_11, .ref a_6, .ref a_7, .ref a_8, .ref a_9, .ref a_10, .ref a_11, .ref a_12, .ref a_13, .ref a_14, .ref a_15, .ref a_16, .ref a_17, .ref a_18, .int i_12, .int i_13, .int i_14, .int i_15, .int i_16, .int i_17, .ref a_19, .int i_18, .ref a_20])), (a_7, .inl (cy 1, 30, .inl (mm_g [i_19, i_20, i_21, i_22, i_23, i_24, i_25, i_26, i_27, i_28, i_29, i_30, i_31, i_32, i_33, i_34, i_35, i_36, i_37, i_38, i_39, i_40, i_41, i_42, i_43, i_44, i_45, i_46, i_47, i_48]))), (a_8, .inl (cy 1, 90, .inl g47))]) hS
              have rg47 : mm_ar g47 0 99 := by rw [eg47]; exact mm_ar_upd (mm_ar_wk h30 (by decide)) (mm_wk q38 (by decide)) _
              refine lv_iload_n hx hb dX12_rate_82 rfl (lv_at hl 0 rfl) ?_
              subst hAe
              rw [hQ]
              exact W.iret (v := v44) hx hb hr (fun t ht hW => ⟨⟨v44, g47, rfl, ⟨rg47, (mm_wk rv44 (by decide))⟩, by rw [ht]; exact hP, hK.warm hW, hD⟩, hS.F ht⟩) hS.2.2 dX12_rate_83
            · have q48 := mm_ltR (lo := 1) (mm_nle c40) mm_k0 h5 (by decide)
              refine lv_bipush (v := (-5)) hx hb dX12_rate_57 (by decide) ?_
              subst hAe
              rw [hQ]
              exact W.iret (v := (-5)) hx hb hr (fun t ht hW => ⟨⟨(-5), f_0, rfl, ⟨h30, (mm_wk mm_km5 (by decide))⟩, by rw [ht]; exact hP, hK.warm hW, hD⟩, hS.F ht⟩) hS.2.2 dX12_rate_59
          · exact mm_eqN c39.symm mm_k0 mm_k1 (by decide)

