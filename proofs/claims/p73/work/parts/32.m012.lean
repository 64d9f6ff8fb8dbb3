theorem dX12_anew_0 : decode cX12_anew 0 = .ok (.aload_n 0, 1) := by decide +kernel
theorem dX12_anew_1 : decode cX12_anew 1 = .ok (.iconst 0, 1) := by decide +kernel
theorem dX12_anew_2 : decode cX12_anew 2 = .ok (.putfield 77, 3) := by decide +kernel
theorem dX12_anew_5 : decode cX12_anew 5 = .ok (.aload_n 0, 1) := by decide +kernel
theorem dX12_anew_6 : decode cX12_anew 6 = .ok (.invokevirtual 251, 3) := by decide +kernel
theorem dX12_anew_9 : decode cX12_anew 9 = .ok (.ifCond .ne 6, 3) := by decide +kernel
theorem dX12_anew_12 : decode cX12_anew 12 = .ok (.bipush (-2), 2) := by decide +kernel
theorem dX12_anew_14 : decode cX12_anew 14 = .ok (.ireturn, 1) := by decide +kernel
theorem dX12_anew_15 : decode cX12_anew 15 = .ok (.aload_n 0, 1) := by decide +kernel
theorem dX12_anew_16 : decode cX12_anew 16 = .ok (.getfield 34, 3) := by decide +kernel
theorem dX12_anew_19 : decode cX12_anew 19 = .ok (.iconst 5, 1) := by decide +kernel
theorem dX12_anew_20 : decode cX12_anew 20 = .ok (.iaload, 1) := by decide +kernel
theorem dX12_anew_21 : decode cX12_anew 21 = .ok (.istore_n 1, 1) := by decide +kernel
theorem dX12_anew_22 : decode cX12_anew 22 = .ok (.aload_n 0, 1) := by decide +kernel
theorem dX12_anew_23 : decode cX12_anew 23 = .ok (.getfield 34, 3) := by decide +kernel
theorem dX12_anew_26 : decode cX12_anew 26 = .ok (.iconst 5, 1) := by decide +kernel
theorem dX12_anew_27 : decode cX12_anew 27 = .ok (.iconst 0, 1) := by decide +kernel
theorem dX12_anew_28 : decode cX12_anew 28 = .ok (.iastore, 1) := by decide +kernel
theorem dX12_anew_29 : decode cX12_anew 29 = .ok (.iload_n 1, 1) := by decide +kernel
theorem dX12_anew_30 : decode cX12_anew 30 = .ok (.ireturn, 1) := by decide +kernel
theorem dX12_chance_0 : decode cX12_chance 0 = .ok (.aload_n 0, 1) := by decide +kernel
theorem dX12_chance_1 : decode cX12_chance 1 = .ok (.iconst 0, 1) := by decide +kernel
theorem dX12_chance_2 : decode cX12_chance 2 = .ok (.putfield 77, 3) := by decide +kernel
theorem dX12_chance_5 : decode cX12_chance 5 = .ok (.aload_n 0, 1) := by decide +kernel
theorem dX12_chance_6 : decode cX12_chance 6 = .ok (.iload_n 1, 1) := by decide +kernel
theorem dX12_chance_7 : decode cX12_chance 7 = .ok (.iload_n 2, 1) := by decide +kernel
theorem dX12_chance_8 : decode cX12_chance 8 = .ok (.iload_n 3, 1) := by decide +kernel
theorem dX12_chance_9 : decode cX12_chance 9 = .ok (.iload 4, 2) := by decide +kernel
theorem dX12_chance_11 : decode cX12_chance 11 = .ok (.invokevirtual 435, 3) := by decide +kernel
theorem dX12_chance_14 : decode cX12_chance 14 = .ok (.ifCond .eq 38, 3) := by decide +kernel
theorem dX12_chance_17 : decode cX12_chance 17 = .ok (.iload 5, 2) := by decide +kernel
theorem dX12_chance_19 : decode cX12_chance 19 = .ok (.invokestatic 314, 3) := by decide +kernel
theorem dX12_chance_22 : decode cX12_chance 22 = .ok (.ifCond .eq 30, 3) := by decide +kernel
theorem dX12_chance_25 : decode cX12_chance 25 = .ok (.aload_n 0, 1) := by decide +kernel
theorem dX12_chance_26 : decode cX12_chance 26 = .ok (.iload_n 1, 1) := by decide +kernel
theorem dX12_chance_27 : decode cX12_chance 27 = .ok (.iload_n 2, 1) := by decide +kernel
theorem dX12_chance_28 : decode cX12_chance 28 = .ok (.iload_n 3, 1) := by decide +kernel
theorem dX12_chance_29 : decode cX12_chance 29 = .ok (.iload 4, 2) := by decide +kernel
theorem dX12_chance_31 : decode cX12_chance 31 = .ok (.iconst 0, 1) := by decide +kernel
theorem dX12_chance_32 : decode cX12_chance 32 = .ok (.invokevirtual 438, 3) := by decide +kernel
theorem dX12_chance_35 : decode cX12_chance 35 = .ok (.ldc2_w 433, 3) := by decide +kernel
theorem dX12_chance_38 : decode cX12_chance 38 = .ok (.iload 4, 2) := by decide +kernel
theorem dX12_chance_40 : decode cX12_chance 40 = .ok (.invokestatic 427, 3) := by decide +kernel
theorem dX12_chance_43 : decode cX12_chance 43 = .ok (.iload 5, 2) := by decide +kernel
theorem dX12_chance_45 : decode cX12_chance 45 = .ok (.invokestatic 359, 3) := by decide +kernel
theorem dX12_chance_48 : decode cX12_chance 48 = .ok (.l2i, 1) := by decide +kernel
theorem dX12_chance_49 : decode cX12_chance 49 = .ok (.goto 5, 3) := by decide +kernel
theorem dX12_chance_52 : decode cX12_chance 52 = .ok (.bipush (-2), 2) := by decide +kernel
theorem dX12_chance_54 : decode cX12_chance 54 = .ok (.ireturn, 1) := by decide +kernel
theorem dX12_does_0 : decode cX12_does 0 = .ok (.iconst 3, 1) := by decide +kernel
theorem dX12_does_1 : decode cX12_does 1 = .ok (.aload_n 0, 1) := by decide +kernel
theorem dX12_does_2 : decode cX12_does 2 = .ok (.getfield 34, 3) := by decide +kernel
theorem dX12_does_5 : decode cX12_does 5 = .ok (.iconst 5, 1) := by decide +kernel
theorem dX12_does_6 : decode cX12_does 6 = .ok (.iaload, 1) := by decide +kernel
theorem dX12_does_7 : decode cX12_does 7 = .ok (.imul, 1) := by decide +kernel
theorem dX12_does_8 : decode cX12_does 8 = .ok (.istore 4, 2) := by decide +kernel
theorem dX12_does_10 : decode cX12_does 10 = .ok (.aload_n 0, 1) := by decide +kernel
theorem dX12_does_11 : decode cX12_does 11 = .ok (.getfield 52, 3) := by decide +kernel
theorem dX12_does_14 : decode cX12_does 14 = .ok (.iload 4, 2) := by decide +kernel
theorem dX12_does_16 : decode cX12_does 16 = .ok (.iload_n 1, 1) := by decide +kernel
theorem dX12_does_17 : decode cX12_does 17 = .ok (.iastore, 1) := by decide +kernel
theorem dX12_does_18 : decode cX12_does 18 = .ok (.aload_n 0, 1) := by decide +kernel
theorem dX12_does_19 : decode cX12_does 19 = .ok (.getfield 52, 3) := by decide +kernel
theorem dX12_does_22 : decode cX12_does 22 = .ok (.iload 4, 2) := by decide +kernel
theorem dX12_does_24 : decode cX12_does 24 = .ok (.iconst 1, 1) := by decide +kernel
theorem dX12_does_25 : decode cX12_does 25 = .ok (.iadd, 1) := by decide +kernel
theorem dX12_does_26 : decode cX12_does 26 = .ok (.iload_n 2, 1) := by decide +kernel
theorem dX12_does_27 : decode cX12_does 27 = .ok (.iastore, 1) := by decide +kernel
theorem dX12_does_28 : decode cX12_does 28 = .ok (.aload_n 0, 1) := by decide +kernel
theorem dX12_does_29 : decode cX12_does 29 = .ok (.getfield 52, 3) := by decide +kernel
theorem dX12_does_32 : decode cX12_does 32 = .ok (.iload 4, 2) := by decide +kernel
theorem dX12_does_34 : decode cX12_does 34 = .ok (.iconst 2, 1) := by decide +kernel
theorem dX12_does_35 : decode cX12_does 35 = .ok (.iadd, 1) := by decide +kernel
theorem dX12_does_36 : decode cX12_does 36 = .ok (.iload_n 3, 1) := by decide +kernel
theorem dX12_does_37 : decode cX12_does 37 = .ok (.iastore, 1) := by decide +kernel
theorem dX12_does_38 : decode cX12_does 38 = .ok (.aload_n 0, 1) := by decide +kernel
theorem dX12_does_39 : decode cX12_does 39 = .ok (.getfield 34, 3) := by decide +kernel
theorem dX12_does_42 : decode cX12_does 42 = .ok (.iconst 5, 1) := by decide +kernel
theorem dX12_does_43 : decode cX12_does 43 = .ok (.dup2, 1) := by decide +kernel
theorem dX12_does_44 : decode cX12_does 44 = .ok (.iaload, 1) := by decide +kernel
theorem dX12_does_45 : decode cX12_does 45 = .ok (.iconst 1, 1) := by decide +kernel
theorem dX12_does_46 : decode cX12_does 46 = .ok (.iadd, 1) := by decide +kernel
theorem dX12_does_47 : decode cX12_does 47 = .ok (.iastore, 1) := by decide +kernel
theorem dX12_does_48 : decode cX12_does 48 = .ok (.return_, 1) := by decide +kernel
theorem dX12_drawn_0 : decode cX12_drawn 0 = .ok (.aload_n 0, 1) := by decide +kernel
theorem dX12_drawn_1 : decode cX12_drawn 1 = .ok (.iconst 0, 1) := by decide +kernel
theorem dX12_drawn_2 : decode cX12_drawn 2 = .ok (.putfield 77, 3) := by decide +kernel
theorem dX12_drawn_5 : decode cX12_drawn 5 = .ok (.aload_n 0, 1) := by decide +kernel
theorem dX12_drawn_6 : decode cX12_drawn 6 = .ok (.invokevirtual 251, 3) := by decide +kernel
theorem dX12_drawn_9 : decode cX12_drawn 9 = .ok (.ifCond .eq 32, 3) := by decide +kernel
theorem dX12_drawn_12 : decode cX12_drawn 12 = .ok (.iload_n 1, 1) := by decide +kernel
theorem dX12_drawn_13 : decode cX12_drawn 13 = .ok (.invokestatic 454, 3) := by decide +kernel
theorem dX12_drawn_16 : decode cX12_drawn 16 = .ok (.ifCond .eq 25, 3) := by decide +kernel
theorem dX12_drawn_19 : decode cX12_drawn 19 = .ok (.iload_n 2, 1) := by decide +kernel
theorem dX12_drawn_20 : decode cX12_drawn 20 = .ok (.i2l, 1) := by decide +kernel
theorem dX12_drawn_21 : decode cX12_drawn 21 = .ok (.lconst 0, 1) := by decide +kernel
theorem dX12_drawn_22 : decode cX12_drawn 22 = .ok (.ldc2_w 410, 3) := by decide +kernel
theorem dX12_drawn_25 : decode cX12_drawn 25 = .ok (.invokestatic 82, 3) := by decide +kernel
theorem dX12_drawn_28 : decode cX12_drawn 28 = .ok (.ifCond .eq 13, 3) := by decide +kernel
theorem dX12_drawn_31 : decode cX12_drawn 31 = .ok (.aload_n 0, 1) := by decide +kernel
theorem dX12_drawn_32 : decode cX12_drawn 32 = .ok (.iload_n 1, 1) := by decide +kernel
theorem dX12_drawn_33 : decode cX12_drawn 33 = .ok (.i2l, 1) := by decide +kernel
theorem dX12_drawn_34 : decode cX12_drawn 34 = .ok (.iload_n 2, 1) := by decide +kernel
theorem dX12_drawn_35 : decode cX12_drawn 35 = .ok (.invokevirtual 457, 3) := by decide +kernel
theorem dX12_drawn_38 : decode cX12_drawn 38 = .ok (.goto 5, 3) := by decide +kernel
theorem dX12_drawn_41 : decode cX12_drawn 41 = .ok (.bipush (-2), 2) := by decide +kernel
theorem dX12_drawn_43 : decode cX12_drawn 43 = .ok (.ireturn, 1) := by decide +kernel
theorem dX12_drawnOf_0 : decode cX12_drawnOf 0 = .ok (.lload_n 1, 1) := by decide +kernel
theorem dX12_drawnOf_1 : decode cX12_drawnOf 1 = .ok (.lstore 4, 2) := by decide +kernel
theorem dX12_drawnOf_3 : decode cX12_drawnOf 3 = .ok (.iconst 0, 1) := by decide +kernel
theorem dX12_drawnOf_4 : decode cX12_drawnOf 4 = .ok (.istore 6, 2) := by decide +kernel
theorem dX12_drawnOf_6 : decode cX12_drawnOf 6 = .ok (.iconst 0, 1) := by decide +kernel
theorem dX12_drawnOf_7 : decode cX12_drawnOf 7 = .ok (.istore 7, 2) := by decide +kernel
theorem dX12_drawnOf_9 : decode cX12_drawnOf 9 = .ok (.iload 7, 2) := by decide +kernel
theorem dX12_drawnOf_11 : decode cX12_drawnOf 11 = .ok (.iload_n 3, 1) := by decide +kernel
theorem dX12_drawnOf_12 : decode cX12_drawnOf 12 = .ok (.if_icmp .ge 56, 3) := by decide +kernel
theorem dX12_drawnOf_15 : decode cX12_drawnOf 15 = .ok (.ldc2_w 444, 3) := by decide +kernel
theorem dX12_drawnOf_18 : decode cX12_drawnOf 18 = .ok (.lload 4, 2) := by decide +kernel
theorem dX12_drawnOf_20 : decode cX12_drawnOf 20 = .ok (.lmul, 1) := by decide +kernel
theorem dX12_drawnOf_21 : decode cX12_drawnOf 21 = .ok (.ldc2_w 446, 3) := by decide +kernel
theorem dX12_drawnOf_24 : decode cX12_drawnOf 24 = .ok (.ladd, 1) := by decide +kernel
theorem dX12_drawnOf_25 : decode cX12_drawnOf 25 = .ok (.ldc2_w 448, 3) := by decide +kernel
theorem dX12_drawnOf_28 : decode cX12_drawnOf 28 = .ok (.lrem, 1) := by decide +kernel
theorem dX12_drawnOf_29 : decode cX12_drawnOf 29 = .ok (.lstore 4, 2) := by decide +kernel
theorem dX12_drawnOf_31 : decode cX12_drawnOf 31 = .ok (.iload 6, 2) := by decide +kernel
theorem dX12_drawnOf_33 : decode cX12_drawnOf 33 = .ok (.lload 4, 2) := by decide +kernel
theorem dX12_drawnOf_35 : decode cX12_drawnOf 35 = .ok (.ldc2_w 450, 3) := by decide +kernel
theorem dX12_drawnOf_38 : decode cX12_drawnOf 38 = .ok (.ldiv, 1) := by decide +kernel
theorem dX12_drawnOf_39 : decode cX12_drawnOf 39 = .ok (.ldc2_w 433, 3) := by decide +kernel
theorem dX12_drawnOf_42 : decode cX12_drawnOf 42 = .ok (.lrem, 1) := by decide +kernel
theorem dX12_drawnOf_43 : decode cX12_drawnOf 43 = .ok (.aload_n 0, 1) := by decide +kernel
theorem dX12_drawnOf_44 : decode cX12_drawnOf 44 = .ok (.getfield 34, 3) := by decide +kernel
theorem dX12_drawnOf_47 : decode cX12_drawnOf 47 = .ok (.iconst 0, 1) := by decide +kernel
theorem dX12_drawnOf_48 : decode cX12_drawnOf 48 = .ok (.iaload, 1) := by decide +kernel
theorem dX12_drawnOf_49 : decode cX12_drawnOf 49 = .ok (.i2l, 1) := by decide +kernel
theorem dX12_drawnOf_50 : decode cX12_drawnOf 50 = .ok (.lcmp, 1) := by decide +kernel
theorem dX12_drawnOf_51 : decode cX12_drawnOf 51 = .ok (.ifCond .ge 7, 3) := by decide +kernel
theorem dX12_drawnOf_54 : decode cX12_drawnOf 54 = .ok (.iconst 1, 1) := by decide +kernel
theorem dX12_drawnOf_55 : decode cX12_drawnOf 55 = .ok (.goto 4, 3) := by decide +kernel
theorem dX12_drawnOf_58 : decode cX12_drawnOf 58 = .ok (.iconst 0, 1) := by decide +kernel
theorem dX12_drawnOf_59 : decode cX12_drawnOf 59 = .ok (.iadd, 1) := by decide +kernel
theorem dX12_drawnOf_60 : decode cX12_drawnOf 60 = .ok (.istore 6, 2) := by decide +kernel
theorem dX12_drawnOf_62 : decode cX12_drawnOf 62 = .ok (.iinc 7 1, 3) := by decide +kernel
theorem dX12_drawnOf_65 : decode cX12_drawnOf 65 = .ok (.goto (-56), 3) := by decide +kernel
theorem dX12_drawnOf_68 : decode cX12_drawnOf 68 = .ok (.iload 6, 2) := by decide +kernel
theorem dX12_drawnOf_70 : decode cX12_drawnOf 70 = .ok (.ireturn, 1) := by decide +kernel
theorem dX12_isSeed_0 : decode cX12_isSeed 0 = .ok (.iload_n 0, 1) := by decide +kernel
theorem dX12_isSeed_1 : decode cX12_isSeed 1 = .ok (.i2l, 1) := by decide +kernel
theorem dX12_isSeed_2 : decode cX12_isSeed 2 = .ok (.lconst 0, 1) := by decide +kernel
theorem dX12_isSeed_3 : decode cX12_isSeed 3 = .ok (.ldc2_w 452, 3) := by decide +kernel
theorem dX12_isSeed_6 : decode cX12_isSeed 6 = .ok (.invokestatic 82, 3) := by decide +kernel
theorem dX12_isSeed_9 : decode cX12_isSeed 9 = .ok (.ireturn, 1) := by decide +kernel
theorem dX12_luck_0 : decode cX12_luck 0 = .ok (.aload_n 0, 1) := by decide +kernel
theorem dX12_luck_1 : decode cX12_luck 1 = .ok (.iconst 0, 1) := by decide +kernel
theorem dX12_luck_2 : decode cX12_luck 2 = .ok (.putfield 77, 3) := by decide +kernel
theorem dX12_luck_5 : decode cX12_luck 5 = .ok (.iload_n 1, 1) := by decide +kernel
theorem dX12_luck_6 : decode cX12_luck 6 = .ok (.invokestatic 454, 3) := by decide +kernel
theorem dX12_luck_9 : decode cX12_luck 9 = .ok (.ifCond .eq 35, 3) := by decide +kernel
theorem dX12_luck_12 : decode cX12_luck 12 = .ok (.iload_n 2, 1) := by decide +kernel
theorem dX12_luck_13 : decode cX12_luck 13 = .ok (.i2l, 1) := by decide +kernel
theorem dX12_luck_14 : decode cX12_luck 14 = .ok (.lconst 1, 1) := by decide +kernel
theorem dX12_luck_15 : decode cX12_luck 15 = .ok (.ldc2_w 461, 3) := by decide +kernel
theorem dX12_luck_18 : decode cX12_luck 18 = .ok (.invokestatic 82, 3) := by decide +kernel
theorem dX12_luck_21 : decode cX12_luck 21 = .ok (.ifCond .eq 23, 3) := by decide +kernel
theorem dX12_luck_24 : decode cX12_luck 24 = .ok (.aload_n 0, 1) := by decide +kernel
theorem dX12_luck_25 : decode cX12_luck 25 = .ok (.iload_n 3, 1) := by decide +kernel
theorem dX12_luck_26 : decode cX12_luck 26 = .ok (.iload 4, 2) := by decide +kernel
theorem dX12_luck_28 : decode cX12_luck 28 = .ok (.invokevirtual 323, 3) := by decide +kernel
theorem dX12_luck_31 : decode cX12_luck 31 = .ok (.ifCond .eq 13, 3) := by decide +kernel
theorem dX12_luck_34 : decode cX12_luck 34 = .ok (.aload_n 0, 1) := by decide +kernel
theorem dX12_luck_35 : decode cX12_luck 35 = .ok (.iload 5, 2) := by decide +kernel
theorem dX12_luck_37 : decode cX12_luck 37 = .ok (.i2l, 1) := by decide +kernel
theorem dX12_luck_38 : decode cX12_luck 38 = .ok (.invokevirtual 317, 3) := by decide +kernel
theorem dX12_luck_41 : decode cX12_luck 41 = .ok (.ifCond .ne 6, 3) := by decide +kernel
theorem dX12_luck_44 : decode cX12_luck 44 = .ok (.bipush (-2), 2) := by decide +kernel
theorem dX12_luck_46 : decode cX12_luck 46 = .ok (.ireturn, 1) := by decide +kernel
theorem dX12_luck_47 : decode cX12_luck 47 = .ok (.aload_n 0, 1) := by decide +kernel
theorem dX12_luck_48 : decode cX12_luck 48 = .ok (.invokevirtual 326, 3) := by decide +kernel
theorem dX12_luck_51 : decode cX12_luck 51 = .ok (.iconst 0, 1) := by decide +kernel
theorem dX12_luck_52 : decode cX12_luck 52 = .ok (.istore 6, 2) := by decide +kernel
theorem dX12_luck_54 : decode cX12_luck 54 = .ok (.iconst 0, 1) := by decide +kernel
theorem dX12_luck_55 : decode cX12_luck 55 = .ok (.istore 7, 2) := by decide +kernel
theorem dX12_luck_57 : decode cX12_luck 57 = .ok (.iload 7, 2) := by decide +kernel
theorem dX12_luck_59 : decode cX12_luck 59 = .ok (.iload_n 2, 1) := by decide +kernel
theorem dX12_luck_60 : decode cX12_luck 60 = .ok (.if_icmp .ge 48, 3) := by decide +kernel
theorem dX12_luck_63 : decode cX12_luck 63 = .ok (.iload 6, 2) := by decide +kernel
theorem dX12_luck_65 : decode cX12_luck 65 = .ok (.aload_n 0, 1) := by decide +kernel
theorem dX12_luck_66 : decode cX12_luck 66 = .ok (.iload_n 3, 1) := by decide +kernel
theorem dX12_luck_67 : decode cX12_luck 67 = .ok (.iload 4, 2) := by decide +kernel
theorem dX12_luck_69 : decode cX12_luck 69 = .ok (.aload_n 0, 1) := by decide +kernel
theorem dX12_luck_70 : decode cX12_luck 70 = .ok (.iload_n 1, 1) := by decide +kernel
theorem dX12_luck_71 : decode cX12_luck 71 = .ok (.i2l, 1) := by decide +kernel
theorem dX12_luck_72 : decode cX12_luck 72 = .ok (.iload 7, 2) := by decide +kernel
theorem dX12_luck_74 : decode cX12_luck 74 = .ok (.i2l, 1) := by decide +kernel
theorem dX12_luck_75 : decode cX12_luck 75 = .ok (.ladd, 1) := by decide +kernel
theorem dX12_luck_76 : decode cX12_luck 76 = .ok (.bipush 7, 2) := by decide +kernel
theorem dX12_luck_78 : decode cX12_luck 78 = .ok (.invokevirtual 457, 3) := by decide +kernel
theorem dX12_luck_81 : decode cX12_luck 81 = .ok (.iadd, 1) := by decide +kernel
theorem dX12_luck_82 : decode cX12_luck 82 = .ok (.iload 5, 2) := by decide +kernel
theorem dX12_luck_84 : decode cX12_luck 84 = .ok (.invokevirtual 338, 3) := by decide +kernel
theorem dX12_luck_87 : decode cX12_luck 87 = .ok (.aload_n 0, 1) := by decide +kernel
theorem dX12_luck_88 : decode cX12_luck 88 = .ok (.invokevirtual 308, 3) := by decide +kernel
theorem dX12_luck_91 : decode cX12_luck 91 = .ok (.if_icmp .le 7, 3) := by decide +kernel
theorem dX12_luck_94 : decode cX12_luck 94 = .ok (.iconst 1, 1) := by decide +kernel
theorem dX12_luck_95 : decode cX12_luck 95 = .ok (.goto 4, 3) := by decide +kernel
theorem dX12_luck_98 : decode cX12_luck 98 = .ok (.iconst 0, 1) := by decide +kernel
theorem dX12_luck_99 : decode cX12_luck 99 = .ok (.iadd, 1) := by decide +kernel
theorem dX12_luck_100 : decode cX12_luck 100 = .ok (.istore 6, 2) := by decide +kernel
theorem dX12_luck_102 : decode cX12_luck 102 = .ok (.iinc 7 1, 3) := by decide +kernel
theorem dX12_luck_105 : decode cX12_luck 105 = .ok (.goto (-48), 3) := by decide +kernel
theorem dX12_luck_108 : decode cX12_luck 108 = .ok (.iload 6, 2) := by decide +kernel
theorem dX12_luck_110 : decode cX12_luck 110 = .ok (.ireturn, 1) := by decide +kernel
theorem dX12_mean_0 : decode cX12_mean 0 = .ok (.aload_n 0, 1) := by decide +kernel
theorem dX12_mean_1 : decode cX12_mean 1 = .ok (.iconst 0, 1) := by decide +kernel
theorem dX12_mean_2 : decode cX12_mean 2 = .ok (.putfield 77, 3) := by decide +kernel
theorem dX12_mean_5 : decode cX12_mean 5 = .ok (.aload_n 0, 1) := by decide +kernel
theorem dX12_mean_6 : decode cX12_mean 6 = .ok (.iload_n 1, 1) := by decide +kernel
theorem dX12_mean_7 : decode cX12_mean 7 = .ok (.iload_n 2, 1) := by decide +kernel
theorem dX12_mean_8 : decode cX12_mean 8 = .ok (.iload_n 3, 1) := by decide +kernel
theorem dX12_mean_9 : decode cX12_mean 9 = .ok (.iload 4, 2) := by decide +kernel
theorem dX12_mean_11 : decode cX12_mean 11 = .ok (.invokevirtual 435, 3) := by decide +kernel
theorem dX12_mean_14 : decode cX12_mean 14 = .ok (.ifCond .eq 37, 3) := by decide +kernel
theorem dX12_mean_17 : decode cX12_mean 17 = .ok (.iload 5, 2) := by decide +kernel
theorem dX12_mean_19 : decode cX12_mean 19 = .ok (.invokestatic 314, 3) := by decide +kernel
theorem dX12_mean_22 : decode cX12_mean 22 = .ok (.ifCond .eq 29, 3) := by decide +kernel
theorem dX12_mean_25 : decode cX12_mean 25 = .ok (.aload_n 0, 1) := by decide +kernel
theorem dX12_mean_26 : decode cX12_mean 26 = .ok (.iload_n 1, 1) := by decide +kernel
theorem dX12_mean_27 : decode cX12_mean 27 = .ok (.iload_n 2, 1) := by decide +kernel
theorem dX12_mean_28 : decode cX12_mean 28 = .ok (.iload_n 3, 1) := by decide +kernel
theorem dX12_mean_29 : decode cX12_mean 29 = .ok (.iload 4, 2) := by decide +kernel
theorem dX12_mean_31 : decode cX12_mean 31 = .ok (.iconst 1, 1) := by decide +kernel
theorem dX12_mean_32 : decode cX12_mean 32 = .ok (.invokevirtual 438, 3) := by decide +kernel
theorem dX12_mean_35 : decode cX12_mean 35 = .ok (.ldc2_w 433, 3) := by decide +kernel
theorem dX12_mean_38 : decode cX12_mean 38 = .ok (.iload 4, 2) := by decide +kernel
theorem dX12_mean_40 : decode cX12_mean 40 = .ok (.invokestatic 427, 3) := by decide +kernel
theorem dX12_mean_43 : decode cX12_mean 43 = .ok (.iload 5, 2) := by decide +kernel
theorem dX12_mean_45 : decode cX12_mean 45 = .ok (.invokestatic 359, 3) := by decide +kernel
theorem dX12_mean_48 : decode cX12_mean 48 = .ok (.goto 6, 3) := by decide +kernel
theorem dX12_mean_51 : decode cX12_mean 51 = .ok (.ldc2_w 442, 3) := by decide +kernel
theorem dX12_mean_54 : decode cX12_mean 54 = .ok (.lreturn, 1) := by decide +kernel
theorem dX12_stock_0 : decode cX12_stock 0 = .ok (.aload_n 0, 1) := by decide +kernel
theorem dX12_stock_1 : decode cX12_stock 1 = .ok (.iconst 0, 1) := by decide +kernel
theorem dX12_stock_2 : decode cX12_stock 2 = .ok (.putfield 77, 3) := by decide +kernel
theorem dX12_stock_5 : decode cX12_stock 5 = .ok (.aload_n 0, 1) := by decide +kernel
theorem dX12_stock_6 : decode cX12_stock 6 = .ok (.invokevirtual 251, 3) := by decide +kernel
theorem dX12_stock_9 : decode cX12_stock 9 = .ok (.ifCond .eq 15, 3) := by decide +kernel
theorem dX12_stock_12 : decode cX12_stock 12 = .ok (.iload_n 1, 1) := by decide +kernel
theorem dX12_stock_13 : decode cX12_stock 13 = .ok (.i2l, 1) := by decide +kernel
theorem dX12_stock_14 : decode cX12_stock 14 = .ok (.lconst 0, 1) := by decide +kernel
theorem dX12_stock_15 : decode cX12_stock 15 = .ok (.ldc2_w 467, 3) := by decide +kernel
theorem dX12_stock_18 : decode cX12_stock 18 = .ok (.invokestatic 82, 3) := by decide +kernel
theorem dX12_stock_21 : decode cX12_stock 21 = .ok (.ifCond .ne 6, 3) := by decide +kernel
theorem dX12_stock_24 : decode cX12_stock 24 = .ok (.bipush (-2), 2) := by decide +kernel
theorem dX12_stock_26 : decode cX12_stock 26 = .ok (.ireturn, 1) := by decide +kernel
theorem dX12_stock_27 : decode cX12_stock 27 = .ok (.aload_n 0, 1) := by decide +kernel
theorem dX12_stock_28 : decode cX12_stock 28 = .ok (.getfield 34, 3) := by decide +kernel
theorem dX12_stock_31 : decode cX12_stock 31 = .ok (.iconst 5, 1) := by decide +kernel
theorem dX12_stock_32 : decode cX12_stock 32 = .ok (.iaload, 1) := by decide +kernel
theorem dX12_stock_33 : decode cX12_stock 33 = .ok (.bipush 30, 2) := by decide +kernel
theorem dX12_stock_35 : decode cX12_stock 35 = .ok (.if_icmp .ne 6, 3) := by decide +kernel
theorem dX12_stock_38 : decode cX12_stock 38 = .ok (.bipush (-5), 2) := by decide +kernel
theorem dX12_stock_40 : decode cX12_stock 40 = .ok (.ireturn, 1) := by decide +kernel
theorem dX12_stock_41 : decode cX12_stock 41 = .ok (.aload_n 0, 1) := by decide +kernel
theorem dX12_stock_42 : decode cX12_stock 42 = .ok (.invokevirtual 308, 3) := by decide +kernel
theorem dX12_stock_45 : decode cX12_stock 45 = .ok (.istore_n 2, 1) := by decide +kernel
theorem dX12_stock_46 : decode cX12_stock 46 = .ok (.aload_n 0, 1) := by decide +kernel
theorem dX12_stock_47 : decode cX12_stock 47 = .ok (.iconst (-1), 1) := by decide +kernel
theorem dX12_stock_48 : decode cX12_stock 48 = .ok (.iconst 0, 1) := by decide +kernel
theorem dX12_stock_49 : decode cX12_stock 49 = .ok (.iload_n 1, 1) := by decide +kernel
theorem dX12_stock_50 : decode cX12_stock 50 = .ok (.invokevirtual 463, 3) := by decide +kernel
theorem dX12_stock_53 : decode cX12_stock 53 = .ok (.iload_n 2, 1) := by decide +kernel
theorem dX12_stock_54 : decode cX12_stock 54 = .ok (.ireturn, 1) := by decide +kernel
theorem dX12_swaps_0 : decode cX12_swaps 0 = .ok (.aload_n 0, 1) := by decide +kernel
theorem dX12_swaps_1 : decode cX12_swaps 1 = .ok (.iconst 0, 1) := by decide +kernel
theorem dX12_swaps_2 : decode cX12_swaps 2 = .ok (.putfield 77, 3) := by decide +kernel
theorem dX12_swaps_5 : decode cX12_swaps 5 = .ok (.aload_n 0, 1) := by decide +kernel
theorem dX12_swaps_6 : decode cX12_swaps 6 = .ok (.iload_n 1, 1) := by decide +kernel
theorem dX12_swaps_7 : decode cX12_swaps 7 = .ok (.invokevirtual 265, 3) := by decide +kernel
theorem dX12_swaps_10 : decode cX12_swaps 10 = .ok (.ifCond .eq 24, 3) := by decide +kernel
theorem dX12_swaps_13 : decode cX12_swaps 13 = .ok (.aload_n 0, 1) := by decide +kernel
theorem dX12_swaps_14 : decode cX12_swaps 14 = .ok (.iload_n 2, 1) := by decide +kernel
theorem dX12_swaps_15 : decode cX12_swaps 15 = .ok (.invokevirtual 320, 3) := by decide +kernel
theorem dX12_swaps_18 : decode cX12_swaps 18 = .ok (.ifCond .eq 16, 3) := by decide +kernel
theorem dX12_swaps_21 : decode cX12_swaps 21 = .ok (.aload_n 0, 1) := by decide +kernel
theorem dX12_swaps_22 : decode cX12_swaps 22 = .ok (.iload_n 3, 1) := by decide +kernel
theorem dX12_swaps_23 : decode cX12_swaps 23 = .ok (.invokevirtual 320, 3) := by decide +kernel
theorem dX12_swaps_26 : decode cX12_swaps 26 = .ok (.ifCond .eq 8, 3) := by decide +kernel
theorem dX12_swaps_29 : decode cX12_swaps 29 = .ok (.iload_n 2, 1) := by decide +kernel
theorem dX12_swaps_30 : decode cX12_swaps 30 = .ok (.iload_n 3, 1) := by decide +kernel
theorem dX12_swaps_31 : decode cX12_swaps 31 = .ok (.if_icmp .ne 6, 3) := by decide +kernel
theorem dX12_swaps_34 : decode cX12_swaps 34 = .ok (.bipush (-2), 2) := by decide +kernel
theorem dX12_swaps_36 : decode cX12_swaps 36 = .ok (.ireturn, 1) := by decide +kernel
theorem dX12_swaps_37 : decode cX12_swaps 37 = .ok (.aload_n 0, 1) := by decide +kernel
theorem dX12_swaps_38 : decode cX12_swaps 38 = .ok (.getfield 34, 3) := by decide +kernel
theorem dX12_swaps_41 : decode cX12_swaps 41 = .ok (.iconst 5, 1) := by decide +kernel
theorem dX12_swaps_42 : decode cX12_swaps 42 = .ok (.iaload, 1) := by decide +kernel
theorem dX12_swaps_43 : decode cX12_swaps 43 = .ok (.bipush 30, 2) := by decide +kernel
theorem dX12_swaps_45 : decode cX12_swaps 45 = .ok (.if_icmp .ne 6, 3) := by decide +kernel
theorem dX12_swaps_48 : decode cX12_swaps 48 = .ok (.bipush (-5), 2) := by decide +kernel
theorem dX12_swaps_50 : decode cX12_swaps 50 = .ok (.ireturn, 1) := by decide +kernel
theorem dX12_swaps_51 : decode cX12_swaps 51 = .ok (.aload_n 0, 1) := by decide +kernel
theorem dX12_swaps_52 : decode cX12_swaps 52 = .ok (.invokevirtual 326, 3) := by decide +kernel
theorem dX12_swaps_55 : decode cX12_swaps 55 = .ok (.aload_n 0, 1) := by decide +kernel
theorem dX12_swaps_56 : decode cX12_swaps 56 = .ok (.iload_n 1, 1) := by decide +kernel
theorem dX12_swaps_57 : decode cX12_swaps 57 = .ok (.iconst 0, 1) := by decide +kernel
theorem dX12_swaps_58 : decode cX12_swaps 58 = .ok (.iload_n 2, 1) := by decide +kernel
theorem dX12_swaps_59 : decode cX12_swaps 59 = .ok (.invokevirtual 289, 3) := by decide +kernel
theorem dX12_swaps_62 : decode cX12_swaps 62 = .ok (.istore 4, 2) := by decide +kernel
theorem dX12_swaps_64 : decode cX12_swaps 64 = .ok (.aload_n 0, 1) := by decide +kernel
theorem dX12_swaps_65 : decode cX12_swaps 65 = .ok (.iload_n 1, 1) := by decide +kernel
theorem dX12_swaps_66 : decode cX12_swaps 66 = .ok (.iload_n 2, 1) := by decide +kernel
theorem dX12_swaps_67 : decode cX12_swaps 67 = .ok (.iload_n 3, 1) := by decide +kernel
theorem dX12_swaps_68 : decode cX12_swaps 68 = .ok (.invokevirtual 463, 3) := by decide +kernel
theorem dX12_swaps_71 : decode cX12_swaps 71 = .ok (.iload 4, 2) := by decide +kernel
theorem dX12_swaps_73 : decode cX12_swaps 73 = .ok (.ireturn, 1) := by decide +kernel
theorem dX12_undo_0 : decode cX12_undo 0 = .ok (.aload_n 0, 1) := by decide +kernel
theorem dX12_undo_1 : decode cX12_undo 1 = .ok (.iconst 0, 1) := by decide +kernel
theorem dX12_undo_2 : decode cX12_undo 2 = .ok (.putfield 77, 3) := by decide +kernel
theorem dX12_undo_5 : decode cX12_undo 5 = .ok (.aload_n 0, 1) := by decide +kernel
theorem dX12_undo_6 : decode cX12_undo 6 = .ok (.invokevirtual 251, 3) := by decide +kernel
theorem dX12_undo_9 : decode cX12_undo 9 = .ok (.ifCond .ne 6, 3) := by decide +kernel
theorem dX12_undo_12 : decode cX12_undo 12 = .ok (.bipush (-2), 2) := by decide +kernel
theorem dX12_undo_14 : decode cX12_undo 14 = .ok (.ireturn, 1) := by decide +kernel
theorem dX12_undo_15 : decode cX12_undo 15 = .ok (.aload_n 0, 1) := by decide +kernel
theorem dX12_undo_16 : decode cX12_undo 16 = .ok (.getfield 34, 3) := by decide +kernel
theorem dX12_undo_19 : decode cX12_undo 19 = .ok (.iconst 5, 1) := by decide +kernel
theorem dX12_undo_20 : decode cX12_undo 20 = .ok (.iaload, 1) := by decide +kernel
theorem dX12_undo_21 : decode cX12_undo 21 = .ok (.ifCond .ne 6, 3) := by decide +kernel
theorem dX12_undo_24 : decode cX12_undo 24 = .ok (.bipush (-5), 2) := by decide +kernel
theorem dX12_undo_26 : decode cX12_undo 26 = .ok (.ireturn, 1) := by decide +kernel
theorem dX12_undo_27 : decode cX12_undo 27 = .ok (.aload_n 0, 1) := by decide +kernel
theorem dX12_undo_28 : decode cX12_undo 28 = .ok (.getfield 34, 3) := by decide +kernel
theorem dX12_undo_31 : decode cX12_undo 31 = .ok (.iconst 5, 1) := by decide +kernel
theorem dX12_undo_32 : decode cX12_undo 32 = .ok (.dup2, 1) := by decide +kernel
theorem dX12_undo_33 : decode cX12_undo 33 = .ok (.iaload, 1) := by decide +kernel
theorem dX12_undo_34 : decode cX12_undo 34 = .ok (.iconst 1, 1) := by decide +kernel
theorem dX12_undo_35 : decode cX12_undo 35 = .ok (.isub, 1) := by decide +kernel
theorem dX12_undo_36 : decode cX12_undo 36 = .ok (.iastore, 1) := by decide +kernel
theorem dX12_undo_37 : decode cX12_undo 37 = .ok (.aload_n 0, 1) := by decide +kernel
theorem dX12_undo_38 : decode cX12_undo 38 = .ok (.getfield 34, 3) := by decide +kernel
theorem dX12_undo_41 : decode cX12_undo 41 = .ok (.iconst 5, 1) := by decide +kernel
theorem dX12_undo_42 : decode cX12_undo 42 = .ok (.iaload, 1) := by decide +kernel
theorem dX12_undo_43 : decode cX12_undo 43 = .ok (.ireturn, 1) := by decide +kernel
theorem dX12_weightOf_81 : decode cX12_weightOf 81 = .ok (.iload 12, 2) := by decide +kernel
theorem dX12_weightOf_83 : decode cX12_weightOf 83 = .ok (.goto 17, 3) := by decide +kernel
theorem mm_kl20 : mm_rl 20 20 20 := ⟨by decide, by decide⟩
theorem mm_kl2000000000 : mm_rl 2000000000 2000000000 2000000000 := ⟨by decide, by decide⟩
theorem mm_klm2 : mm_rl (-2) (-2) (-2) := ⟨by decide, by decide⟩
theorem hd_X12_does : yX12_does.cls = RX12 ∧ yX12_does.cls ≠ "java/lang/invoke/MethodHandle" ∧ yX12_does.cls ≠ "java/lang/invoke/VarHandle" ∧ (parseMethodDescriptor yX12_does.desc).map (fun d => d.parameters.length) = some 3 := by decide +kernel
theorem hd_X12_drawnOf : yX12_drawnOf.cls = RX12 ∧ yX12_drawnOf.cls ≠ "java/lang/invoke/MethodHandle" ∧ yX12_drawnOf.cls ≠ "java/lang/invoke/VarHandle" ∧ (parseMethodDescriptor yX12_drawnOf.desc).map (fun d => d.parameters.length) = some 2 := by decide +kernel
theorem hd_X12_isSent : yX12_isSent.cls = RX12 ∧ yX12_isSent.cls ≠ "java/lang/invoke/MethodHandle" ∧ yX12_isSent.cls ≠ "java/lang/invoke/VarHandle" ∧ (parseMethodDescriptor yX12_isSent.desc).map (fun d => d.parameters.length) = some 4 := by decide +kernel
theorem hd_X12_weightOf : yX12_weightOf.cls = RX12 ∧ yX12_weightOf.cls ≠ "java/lang/invoke/MethodHandle" ∧ yX12_weightOf.cls ≠ "java/lang/invoke/VarHandle" ∧ (parseMethodDescriptor yX12_weightOf.desc).map (fun d => d.parameters.length) = some 5 := by decide +kernel
theorem hs_X12_isSeed : yX12_isSeed.cls ≠ "java/lang/invoke/MethodHandle" ∧ yX12_isSeed.cls ≠ "java/lang/invoke/VarHandle" ∧ (parseMethodDescriptor yX12_isSeed.desc).map (fun d => d.parameters.length) = some 1 := by decide +kernel
set_option maxHeartbeats 4000000 in
set_option maxRecDepth 100000 in
theorem M254_X12_power (l : Launch) (G : va_G) (cy : Nat → ClassId) (sz : Nat) (i_0 : Int32) (h0 : mm_rg i_0 0 0)  : mm_CL l yX12_power (mm_ws yX12_power cX12_power 3 (some .long)) ({ frames := 0, cells := 0, slots := 0, locals := 0 } : Room) G cy sz [] [.long 10, .int i_0] (fun u : Unit => []) (fun (r : Int64) (u : Unit) => mm_rl r 1 1 ∧ mm_pw i_0 r) 0 0 := by
  refine mm_begin (lv := [(0, .long 10), (2, .int i_0)]) (by decide) (Nat.le_of_ble_eq_true rfl) rfl ?_
  intro p e s m below meth c A ls R args Q H locs hRe hQ hAe hx hb hr hlocks hml hown hnm hts hsz hA hS hP hK hD hZ hl
  have hRf : R.frames = 0 := by rw [hRe]
  have hRl : R.locals = 0 := by rw [hRe]
  have hRc : R.cells = 0 := by rw [hRe]
  have hRs : R.slots = 0 := by rw [hRe]
  refine lv_iload_n hx hb dX12_power_0 rfl (lv_at hl 1 rfl) ?_
  refine lv_if_ne (tgt := 8) hx hb dX12_power_1 (by decide) (fun c1 => ?_) (fun c1 => ?_)
  · have q2 := mm_neL (lo := 1) (mm_ne c1) h0 mm_k0 (by decide) (by decide)
    exact mm_no q2 (by decide)
  · refine lv_lconst (v := 1) hx hb dX12_power_4 (by decide) ?_
    refine lv_goto (tgt := 17) hx hb dX12_power_5 (by decide) ?_
    have w3 : mm_pw i_0 1 := (mm_pw_0 _)
    subst hAe
    rw [hQ]
    exact W.lret (v := 1) hx hb hr (fun t ht hW => ⟨⟨1, (), rfl, ⟨mm_kl1, w3⟩, by rw [ht]; exact hP, hK.warm hW, hD⟩, hS.F ht⟩) hS.2.2 dX12_power_17

set_option maxHeartbeats 4000000 in
set_option maxRecDepth 100000 in
theorem M255_X12_power (l : Launch) (G : va_G) (cy : Nat → ClassId) (sz : Nat) (i_0 : Int32) (h0 : mm_rg i_0 0 1)  : mm_CL l yX12_power (mm_ws yX12_power cX12_power 3 (some .long)) ({ frames := 1, cells := 0, slots := 0, locals := 22 } : Room) G cy sz [] [.long 10, .int i_0] (fun u : Unit => []) (fun (r : Int64) (u : Unit) => mm_rl r 1 10 ∧ mm_pw i_0 r) 0 0 := by
  refine mm_begin (lv := [(0, .long 10), (2, .int i_0)]) (by decide) (Nat.le_of_ble_eq_true rfl) rfl ?_
  intro p e s m below meth c A ls R args Q H locs hRe hQ hAe hx hb hr hlocks hml hown hnm hts hsz hA hS hP hK hD hZ hl
  have hRf : R.frames = 1 := by rw [hRe]
  have hRl : R.locals = 22 := by rw [hRe]
  have hRc : R.cells = 0 := by rw [hRe]
  have hRs : R.slots = 0 := by rw [hRe]
  refine lv_iload_n hx hb dX12_power_0 rfl (lv_at hl 1 rfl) ?_
  refine lv_if_ne (tgt := 8) hx hb dX12_power_1 (by decide) (fun c1 => ?_) (fun c1 => ?_)
  · have q2 := mm_neL (lo := 1) (mm_ne c1) h0 mm_k0 (by decide) (by decide)
    refine lv_lload_n hx hb dX12_power_8 rfl (lv_at hl 0 rfl) ?_
    refine lv_lload_n hx hb dX12_power_9 rfl (lv_at hl 0 rfl) ?_
    refine lv_iload_n hx hb dX12_power_10 rfl (lv_at hl 1 rfl) ?_
    refine lv_iconst (v := 1) hx hb dX12_power_11 (by decide) ?_
    refine lv_isub hx hb dX12_power_12 ?_
    refine lv_topi (fun v3 ev3 => ?_)
    have rv3 : mm_rg v3 0 0 := mm_sub ev3 q2 mm_k1 (by decide) (by decide)
    have tv3 := mm_subEc ev3 q2 mm_k1 (by decide) (k := (-1)) (by decide)
    refine mm_finlr (va_runS (As := [.long 10, .int v3]) (rest := [.long 10]) ⟨hx, hb, hml, hown, hts⟩ (M254_X12_power l G cy H.size v3 rv3) (va_cwS 2 hts (mm_gS mm_w1523 mm_w1524 mm_w5 mm_w1525) rfl rfl rfl hs_X12_power ⟨by rw [hRf]; exact Nat.le_of_ble_eq_true rfl, by rw [hRl]; exact Nat.le_of_ble_eq_true rfl⟩) (mm_preS hK hZ hS hA hP hD [] rfl rfl) rfl rfl hl.1 rfl (lv_room (Nat.le_of_ble_eq_true rfl)) dX12_power_13 ⟨by rw [hRc]; exact Nat.le_of_ble_eq_true rfl, by rw [hRs]; exact Nat.le_of_ble_eq_true rfl⟩) hP hD hS hA [] rfl (fun _ => rfl) ?_
    clear hP hD hS
    clear H locs
    intro v4 _u H locs hw hP hD hS
    obtain ⟨w5, w6⟩ := hw
    refine lv_lmul hx hb dX12_power_16 ?_
    refine lv_topl (fun v7 ev7 => ?_)
    have rv7 : mm_rl v7 10 10 := mm_mull ev7 mm_kl10 w5 (by decide) (by decide)
    have w8 : mm_pw i_0 v7 := (mm_pw_s w6 tv3 ev7 mm_kl10 w5 rv3 (by decide))
    subst hAe
    rw [hQ]
    exact W.lret (v := v7) hx hb hr (fun t ht hW => ⟨⟨v7, (), rfl, ⟨(mm_wkl rv7 (by decide)), w8⟩, by rw [ht]; exact hP, hK.warm hW, hD⟩, hS.F ht⟩) hS.2.2 dX12_power_17
  · have q9 := mm_eqI (lo := 0) (hi := 0) c1 h0 mm_k0 (by decide)
    refine lv_lconst (v := 1) hx hb dX12_power_4 (by decide) ?_
    refine lv_goto (tgt := 17) hx hb dX12_power_5 (by decide) ?_
    have w10 : mm_pw i_0 1 := (mm_pw_0 _)
    subst hAe
    rw [hQ]
    exact W.lret (v := 1) hx hb hr (fun t ht hW => ⟨⟨1, (), rfl, ⟨(mm_wkl mm_kl1 (by decide)), w10⟩, by rw [ht]; exact hP, hK.warm hW, hD⟩, hS.F ht⟩) hS.2.2 dX12_power_17

set_option maxHeartbeats 4000000 in
set_option maxRecDepth 100000 in
theorem M256_X12_power (l : Launch) (G : va_G) (cy : Nat → ClassId) (sz : Nat) (i_0 : Int32) (h0 : mm_rg i_0 0 2)  : mm_CL l yX12_power (mm_ws yX12_power cX12_power 3 (some .long)) ({ frames := 2, cells := 0, slots := 0, locals := 44 } : Room) G cy sz [] [.long 10, .int i_0] (fun u : Unit => []) (fun (r : Int64) (u : Unit) => mm_rl r 1 100 ∧ mm_pw i_0 r) 0 0 := by
  refine mm_begin (lv := [(0, .long 10), (2, .int i_0)]) (by decide) (Nat.le_of_ble_eq_true rfl) rfl ?_
  intro p e s m below meth c A ls R args Q H locs hRe hQ hAe hx hb hr hlocks hml hown hnm hts hsz hA hS hP hK hD hZ hl
  have hRf : R.frames = 2 := by rw [hRe]
  have hRl : R.locals = 44 := by rw [hRe]
  have hRc : R.cells = 0 := by rw [hRe]
  have hRs : R.slots = 0 := by rw [hRe]
  refine lv_iload_n hx hb dX12_power_0 rfl (lv_at hl 1 rfl) ?_
  refine lv_if_ne (tgt := 8) hx hb dX12_power_1 (by decide) (fun c1 => ?_) (fun c1 => ?_)
  · have q2 := mm_neL (lo := 1) (mm_ne c1) h0 mm_k0 (by decide) (by decide)
    refine lv_lload_n hx hb dX12_power_8 rfl (lv_at hl 0 rfl) ?_
    refine lv_lload_n hx hb dX12_power_9 rfl (lv_at hl 0 rfl) ?_
    refine lv_iload_n hx hb dX12_power_10 rfl (lv_at hl 1 rfl) ?_
    refine lv_iconst (v := 1) hx hb dX12_power_11 (by decide) ?_
    refine lv_isub hx hb dX12_power_12 ?_
    refine lv_topi (fun v3 ev3 => ?_)
    have rv3 : mm_rg v3 0 1 := mm_sub ev3 q2 mm_k1 (by decide) (by decide)
    have tv3 := mm_subEc ev3 q2 mm_k1 (by decide) (k := (-1)) (by decide)
    refine mm_finlr (va_runS (As := [.long 10, .int v3]) (rest := [.long 10]) ⟨hx, hb, hml, hown, hts⟩ (M255_X12_power l G cy H.size v3 rv3) (va_cwS 2 hts (mm_gS mm_w1523 mm_w1524 mm_w5 mm_w1525) rfl rfl rfl hs_X12_power ⟨by rw [hRf]; exact Nat.le_of_ble_eq_true rfl, by rw [hRl]; exact Nat.le_of_ble_eq_true rfl⟩) (mm_preS hK hZ hS hA hP hD [] rfl rfl) rfl rfl hl.1 rfl (lv_room (Nat.le_of_ble_eq_true rfl)) dX12_power_13 ⟨by rw [hRc]; exact Nat.le_of_ble_eq_true rfl, by rw [hRs]; exact Nat.le_of_ble_eq_true rfl⟩) hP hD hS hA [] rfl (fun _ => rfl) ?_
    clear hP hD hS
    clear H locs
    intro v4 _u H locs hw hP hD hS
    obtain ⟨w5, w6⟩ := hw
    refine lv_lmul hx hb dX12_power_16 ?_
    refine lv_topl (fun v7 ev7 => ?_)
    have rv7 : mm_rl v7 10 100 := mm_mull ev7 mm_kl10 w5 (by decide) (by decide)
    have w8 : mm_pw i_0 v7 := (mm_pw_s w6 tv3 ev7 mm_kl10 w5 rv3 (by decide))
    subst hAe
    rw [hQ]
    exact W.lret (v := v7) hx hb hr (fun t ht hW => ⟨⟨v7, (), rfl, ⟨(mm_wkl rv7 (by decide)), w8⟩, by rw [ht]; exact hP, hK.warm hW, hD⟩, hS.F ht⟩) hS.2.2 dX12_power_17
  · have q9 := mm_eqI (lo := 0) (hi := 0) c1 h0 mm_k0 (by decide)
    refine lv_lconst (v := 1) hx hb dX12_power_4 (by decide) ?_
    refine lv_goto (tgt := 17) hx hb dX12_power_5 (by decide) ?_
    have w10 : mm_pw i_0 1 := (mm_pw_0 _)
    subst hAe
    rw [hQ]
    exact W.lret (v := 1) hx hb hr (fun t ht hW => ⟨⟨1, (), rfl, ⟨(mm_wkl mm_kl1 (by decide)), w10⟩, by rw [ht]; exact hP, hK.warm hW, hD⟩, hS.F ht⟩) hS.2.2 dX12_power_17

set_option maxHeartbeats 4000000 in
set_option maxRecDepth 100000 in
theorem M257_X12_power (l : Launch) (G : va_G) (cy : Nat → ClassId) (sz : Nat) (i_0 : Int32) (h0 : mm_rg i_0 0 3)  : mm_CL l yX12_power (mm_ws yX12_power cX12_power 3 (some .long)) ({ frames := 3, cells := 0, slots := 0, locals := 66 } : Room) G cy sz [] [.long 10, .int i_0] (fun u : Unit => []) (fun (r : Int64) (u : Unit) => mm_rl r 1 1000 ∧ mm_pw i_0 r) 0 0 := by
  refine mm_begin (lv := [(0, .long 10), (2, .int i_0)]) (by decide) (Nat.le_of_ble_eq_true rfl) rfl ?_
  intro p e s m below meth c A ls R args Q H locs hRe hQ hAe hx hb hr hlocks hml hown hnm hts hsz hA hS hP hK hD hZ hl
  have hRf : R.frames = 3 := by rw [hRe]
  have hRl : R.locals = 66 := by rw [hRe]
  have hRc : R.cells = 0 := by rw [hRe]
  have hRs : R.slots = 0 := by rw [hRe]
  refine lv_iload_n hx hb dX12_power_0 rfl (lv_at hl 1 rfl) ?_
  refine lv_if_ne (tgt := 8) hx hb dX12_power_1 (by decide) (fun c1 => ?_) (fun c1 => ?_)
  · have q2 := mm_neL (lo := 1) (mm_ne c1) h0 mm_k0 (by decide) (by decide)
    refine lv_lload_n hx hb dX12_power_8 rfl (lv_at hl 0 rfl) ?_
    refine lv_lload_n hx hb dX12_power_9 rfl (lv_at hl 0 rfl) ?_
    refine lv_iload_n hx hb dX12_power_10 rfl (lv_at hl 1 rfl) ?_
    refine lv_iconst (v := 1) hx hb dX12_power_11 (by decide) ?_
    refine lv_isub hx hb dX12_power_12 ?_
    refine lv_topi (fun v3 ev3 => ?_)
    have rv3 : mm_rg v3 0 2 := mm_sub ev3 q2 mm_k1 (by decide) (by decide)
    have tv3 := mm_subEc ev3 q2 mm_k1 (by decide) (k := (-1)) (by decide)
    refine mm_finlr (va_runS (As := [.long 10, .int v3]) (rest := [.long 10]) ⟨hx, hb, hml, hown, hts⟩ (M256_X12_power l G cy H.size v3 rv3) (va_cwS 2 hts (mm_gS mm_w1523 mm_w1524 mm_w5 mm_w1525) rfl rfl rfl hs_X12_power ⟨by rw [hRf]; exact Nat.le_of_ble_eq_true rfl, by rw [hRl]; exact Nat.le_of_ble_eq_true rfl⟩) (mm_preS hK hZ hS hA hP hD [] rfl rfl) rfl rfl hl.1 rfl (lv_room (Nat.le_of_ble_eq_true rfl)) dX12_power_13 ⟨by rw [hRc]; exact Nat.le_of_ble_eq_true rfl, by rw [hRs]; exact Nat.le_of_ble_eq_true rfl⟩) hP hD hS hA [] rfl (fun _ => rfl) ?_
    clear hP hD hS
    clear H locs
    intro v4 _u H locs hw hP hD hS
    obtain ⟨w5, w6⟩ := hw
    refine lv_lmul hx hb dX12_power_16 ?_
    refine lv_topl (fun v7 ev7 => ?_)
    have rv7 : mm_rl v7 10 1000 := mm_mull ev7 mm_kl10 w5 (by decide) (by decide)
    have w8 : mm_pw i_0 v7 := (mm_pw_s w6 tv3 ev7 mm_kl10 w5 rv3 (by decide))
    subst hAe
    rw [hQ]
    exact W.lret (v := v7) hx hb hr (fun t ht hW => ⟨⟨v7, (), rfl, ⟨(mm_wkl rv7 (by decide)), w8⟩, by rw [ht]; exact hP, hK.warm hW, hD⟩, hS.F ht⟩) hS.2.2 dX12_power_17
  · have q9 := mm_eqI (lo := 0) (hi := 0) c1 h0 mm_k0 (by decide)
    refine lv_lconst (v := 1) hx hb dX12_power_4 (by decide) ?_
    refine lv_goto (tgt := 17) hx hb dX12_power_5 (by decide) ?_
    have w10 : mm_pw i_0 1 := (mm_pw_0 _)
    subst hAe
    rw [hQ]
    exact W.lret (v := 1) hx hb hr (fun t ht hW => ⟨⟨1, (), rfl, ⟨(mm_wkl mm_kl1 (by decide)), w10⟩, by rw [ht]; exact hP, hK.warm hW, hD⟩, hS.F ht⟩) hS.2.2 dX12_power_17

set_option maxHeartbeats 4000000 in
set_option maxRecDepth 100000 in
theorem M258_X12_power (l : Launch) (G : va_G) (cy : Nat → ClassId) (sz : Nat) (i_0 : Int32) (h0 : mm_rg i_0 0 4)  : mm_CL l yX12_power (mm_ws yX12_power cX12_power 3 (some .long)) ({ frames := 4, cells := 0, slots := 0, locals := 88 } : Room) G cy sz [] [.long 10, .int i_0] (fun u : Unit => []) (fun (r : Int64) (u : Unit) => mm_rl r 1 10000 ∧ mm_pw i_0 r) 0 0 := by
  refine mm_begin (lv := [(0, .long 10), (2, .int i_0)]) (by decide) (Nat.le_of_ble_eq_true rfl) rfl ?_
  intro p e s m below meth c A ls R args Q H locs hRe hQ hAe hx hb hr hlocks hml hown hnm hts hsz hA hS hP hK hD hZ hl
  have hRf : R.frames = 4 := by rw [hRe]
  have hRl : R.locals = 88 := by rw [hRe]
  have hRc : R.cells = 0 := by rw [hRe]
  have hRs : R.slots = 0 := by rw [hRe]
  refine lv_iload_n hx hb dX12_power_0 rfl (lv_at hl 1 rfl) ?_
  refine lv_if_ne (tgt := 8) hx hb dX12_power_1 (by decide) (fun c1 => ?_) (fun c1 => ?_)
  · have q2 := mm_neL (lo := 1) (mm_ne c1) h0 mm_k0 (by decide) (by decide)
    refine lv_lload_n hx hb dX12_power_8 rfl (lv_at hl 0 rfl) ?_
    refine lv_lload_n hx hb dX12_power_9 rfl (lv_at hl 0 rfl) ?_
    refine lv_iload_n hx hb dX12_power_10 rfl (lv_at hl 1 rfl) ?_
    refine lv_iconst (v := 1) hx hb dX12_power_11 (by decide) ?_
    refine lv_isub hx hb dX12_power_12 ?_
    refine lv_topi (fun v3 ev3 => ?_)
    have rv3 : mm_rg v3 0 3 := mm_sub ev3 q2 mm_k1 (by decide) (by decide)
    have tv3 := mm_subEc ev3 q2 mm_k1 (by decide) (k := (-1)) (by decide)
    refine mm_finlr (va_runS (As := [.long 10, .int v3]) (rest := [.long 10]) ⟨hx, hb, hml, hown, hts⟩ (M257_X12_power l G cy H.size v3 rv3) (va_cwS 2 hts (mm_gS mm_w1523 mm_w1524 mm_w5 mm_w1525) rfl rfl rfl hs_X12_power ⟨by rw [hRf]; exact Nat.le_of_ble_eq_true rfl, by rw [hRl]; exact Nat.le_of_ble_eq_true rfl⟩) (mm_preS hK hZ hS hA hP hD [] rfl rfl) rfl rfl hl.1 rfl (lv_room (Nat.le_of_ble_eq_true rfl)) dX12_power_13 ⟨by rw [hRc]; exact Nat.le_of_ble_eq_true rfl, by rw [hRs]; exact Nat.le_of_ble_eq_true rfl⟩) hP hD hS hA [] rfl (fun _ => rfl) ?_
    clear hP hD hS
    clear H locs
    intro v4 _u H locs hw hP hD hS
    obtain ⟨w5, w6⟩ := hw
    refine lv_lmul hx hb dX12_power_16 ?_
    refine lv_topl (fun v7 ev7 => ?_)
    have rv7 : mm_rl v7 10 10000 := mm_mull ev7 mm_kl10 w5 (by decide) (by decide)
    have w8 : mm_pw i_0 v7 := (mm_pw_s w6 tv3 ev7 mm_kl10 w5 rv3 (by decide))
    subst hAe
    rw [hQ]
    exact W.lret (v := v7) hx hb hr (fun t ht hW => ⟨⟨v7, (), rfl, ⟨(mm_wkl rv7 (by decide)), w8⟩, by rw [ht]; exact hP, hK.warm hW, hD⟩, hS.F ht⟩) hS.2.2 dX12_power_17
  · have q9 := mm_eqI (lo := 0) (hi := 0) c1 h0 mm_k0 (by decide)
    refine lv_lconst (v := 1) hx hb dX12_power_4 (by decide) ?_
    refine lv_goto (tgt := 17) hx hb dX12_power_5 (by decide) ?_
    have w10 : mm_pw i_0 1 := (mm_pw_0 _)
    subst hAe
    rw [hQ]
    exact W.lret (v := 1) hx hb hr (fun t ht hW => ⟨⟨1, (), rfl, ⟨(mm_wkl mm_kl1 (by decide)), w10⟩, by rw [ht]; exact hP, hK.warm hW, hD⟩, hS.F ht⟩) hS.2.2 dX12_power_17

set_option maxHeartbeats 4000000 in
set_option maxRecDepth 100000 in
theorem M259_X12_power (l : Launch) (G : va_G) (cy : Nat → ClassId) (sz : Nat) (i_0 : Int32) (h0 : mm_rg i_0 0 5)  : mm_CL l yX12_power (mm_ws yX12_power cX12_power 3 (some .long)) ({ frames := 5, cells := 0, slots := 0, locals := 110 } : Room) G cy sz [] [.long 10, .int i_0] (fun u : Unit => []) (fun (r : Int64) (u : Unit) => mm_rl r 1 100000 ∧ mm_pw i_0 r) 0 0 := by
  refine mm_begin (lv := [(0, .long 10), (2, .int i_0)]) (by decide) (Nat.le_of_ble_eq_true rfl) rfl ?_
  intro p e s m below meth c A ls R args Q H locs hRe hQ hAe hx hb hr hlocks hml hown hnm hts hsz hA hS hP hK hD hZ hl
  have hRf : R.frames = 5 := by rw [hRe]
  have hRl : R.locals = 110 := by rw [hRe]
  have hRc : R.cells = 0 := by rw [hRe]
  have hRs : R.slots = 0 := by rw [hRe]
  refine lv_iload_n hx hb dX12_power_0 rfl (lv_at hl 1 rfl) ?_
  refine lv_if_ne (tgt := 8) hx hb dX12_power_1 (by decide) (fun c1 => ?_) (fun c1 => ?_)
  · have q2 := mm_neL (lo := 1) (mm_ne c1) h0 mm_k0 (by decide) (by decide)
    refine lv_lload_n hx hb dX12_power_8 rfl (lv_at hl 0 rfl) ?_
    refine lv_lload_n hx hb dX12_power_9 rfl (lv_at hl 0 rfl) ?_
    refine lv_iload_n hx hb dX12_power_10 rfl (lv_at hl 1 rfl) ?_
    refine lv_iconst (v := 1) hx hb dX12_power_11 (by decide) ?_
    refine lv_isub hx hb dX12_power_12 ?_
    refine lv_topi (fun v3 ev3 => ?_)
    have rv3 : mm_rg v3 0 4 := mm_sub ev3 q2 mm_k1 (by decide) (by decide)
    have tv3 := mm_subEc ev3 q2 mm_k1 (by decide) (k := (-1)) (by decide)
    refine mm_finlr (va_runS (As := [.long 10, .int v3]) (rest := [.long 10]) ⟨hx, hb, hml, hown, hts⟩ (M258_X12_power l G cy H.size v3 rv3) (va_cwS 2 hts (mm_gS mm_w1523 mm_w1524 mm_w5 mm_w1525) rfl rfl rfl hs_X12_power ⟨by rw [hRf]; exact Nat.le_of_ble_eq_true rfl, by rw [hRl]; exact Nat.le_of_ble_eq_true rfl⟩) (mm_preS hK hZ hS hA hP hD [] rfl rfl) rfl rfl hl.1 rfl (lv_room (Nat.le_of_ble_eq_true rfl)) dX12_power_13 ⟨by rw [hRc]; exact Nat.le_of_ble_eq_true rfl, by rw [hRs]; exact Nat.le_of_ble_eq_true rfl⟩) hP hD hS hA [] rfl (fun _ => rfl) ?_
    clear hP hD hS
    clear H locs
    intro v4 _u H locs hw hP hD hS
    obtain ⟨w5, w6⟩ := hw
    refine lv_lmul hx hb dX12_power_16 ?_
    refine lv_topl (fun v7 ev7 => ?_)
    have rv7 : mm_rl v7 10 100000 := mm_mull ev7 mm_kl10 w5 (by decide) (by decide)
    have w8 : mm_pw i_0 v7 := (mm_pw_s w6 tv3 ev7 mm_kl10 w5 rv3 (by decide))
    subst hAe
    rw [hQ]
    exact W.lret (v := v7) hx hb hr (fun t ht hW => ⟨⟨v7, (), rfl, ⟨(mm_wkl rv7 (by decide)), w8⟩, by rw [ht]; exact hP, hK.warm hW, hD⟩, hS.F ht⟩) hS.2.2 dX12_power_17
  · have q9 := mm_eqI (lo := 0) (hi := 0) c1 h0 mm_k0 (by decide)
    refine lv_lconst (v := 1) hx hb dX12_power_4 (by decide) ?_
    refine lv_goto (tgt := 17) hx hb dX12_power_5 (by decide) ?_
    have w10 : mm_pw i_0 1 := (mm_pw_0 _)
    subst hAe
    rw [hQ]
    exact W.lret (v := 1) hx hb hr (fun t ht hW => ⟨⟨1, (), rfl, ⟨(mm_wkl mm_kl1 (by decide)), w10⟩, by rw [ht]; exact hP, hK.warm hW, hD⟩, hS.F ht⟩) hS.2.2 dX12_power_17

set_option maxHeartbeats 4000000 in
set_option maxRecDepth 100000 in
theorem M260_X12_power (l : Launch) (G : va_G) (cy : Nat → ClassId) (sz : Nat) (i_0 : Int32) (h0 : mm_rg i_0 0 6)  : mm_CL l yX12_power (mm_ws yX12_power cX12_power 3 (some .long)) ({ frames := 6, cells := 0, slots := 0, locals := 132 } : Room) G cy sz [] [.long 10, .int i_0] (fun u : Unit => []) (fun (r : Int64) (u : Unit) => mm_rl r 1 1000000 ∧ mm_pw i_0 r) 0 0 := by
  refine mm_begin (lv := [(0, .long 10), (2, .int i_0)]) (by decide) (Nat.le_of_ble_eq_true rfl) rfl ?_
  intro p e s m below meth c A ls R args Q H locs hRe hQ hAe hx hb hr hlocks hml hown hnm hts hsz hA hS hP hK hD hZ hl
  have hRf : R.frames = 6 := by rw [hRe]
  have hRl : R.locals = 132 := by rw [hRe]
  have hRc : R.cells = 0 := by rw [hRe]
  have hRs : R.slots = 0 := by rw [hRe]
  refine lv_iload_n hx hb dX12_power_0 rfl (lv_at hl 1 rfl) ?_
  refine lv_if_ne (tgt := 8) hx hb dX12_power_1 (by decide) (fun c1 => ?_) (fun c1 => ?_)
  · have q2 := mm_neL (lo := 1) (mm_ne c1) h0 mm_k0 (by decide) (by decide)
    refine lv_lload_n hx hb dX12_power_8 rfl (lv_at hl 0 rfl) ?_
    refine lv_lload_n hx hb dX12_power_9 rfl (lv_at hl 0 rfl) ?_
    refine lv_iload_n hx hb dX12_power_10 rfl (lv_at hl 1 rfl) ?_
    refine lv_iconst (v := 1) hx hb dX12_power_11 (by decide) ?_
    refine lv_isub hx hb dX12_power_12 ?_
    refine lv_topi (fun v3 ev3 => ?_)
    have rv3 : mm_rg v3 0 5 := mm_sub ev3 q2 mm_k1 (by decide) (by decide)
    have tv3 := mm_subEc ev3 q2 mm_k1 (by decide) (k := (-1)) (by decide)
    refine mm_finlr (va_runS (As := [.long 10, .int v3]) (rest := [.long 10]) ⟨hx, hb, hml, hown, hts⟩ (M259_X12_power l G cy H.size v3 rv3) (va_cwS 2 hts (mm_gS mm_w1523 mm_w1524 mm_w5 mm_w1525) rfl rfl rfl hs_X12_power ⟨by rw [hRf]; exact Nat.le_of_ble_eq_true rfl, by rw [hRl]; exact Nat.le_of_ble_eq_true rfl⟩) (mm_preS hK hZ hS hA hP hD [] rfl rfl) rfl rfl hl.1 rfl (lv_room (Nat.le_of_ble_eq_true rfl)) dX12_power_13 ⟨by rw [hRc]; exact Nat.le_of_ble_eq_true rfl, by rw [hRs]; exact Nat.le_of_ble_eq_true rfl⟩) hP hD hS hA [] rfl (fun _ => rfl) ?_
    clear hP hD hS
    clear H locs
    intro v4 _u H locs hw hP hD hS
    obtain ⟨w5, w6⟩ := hw
    refine lv_lmul hx hb dX12_power_16 ?_
    refine lv_topl (fun v7 ev7 => ?_)
    have rv7 : mm_rl v7 10 1000000 := mm_mull ev7 mm_kl10 w5 (by decide) (by decide)
    have w8 : mm_pw i_0 v7 := (mm_pw_s w6 tv3 ev7 mm_kl10 w5 rv3 (by decide))
    subst hAe
    rw [hQ]
    exact W.lret (v := v7) hx hb hr (fun t ht hW => ⟨⟨v7, (), rfl, ⟨(mm_wkl rv7 (by decide)), w8⟩, by rw [ht]; exact hP, hK.warm hW, hD⟩, hS.F ht⟩) hS.2.2 dX12_power_17
  · have q9 := mm_eqI (lo := 0) (hi := 0) c1 h0 mm_k0 (by decide)
    refine lv_lconst (v := 1) hx hb dX12_power_4 (by decide) ?_
    refine lv_goto (tgt := 17) hx hb dX12_power_5 (by decide) ?_
    have w10 : mm_pw i_0 1 := (mm_pw_0 _)
    subst hAe
    rw [hQ]
    exact W.lret (v := 1) hx hb hr (fun t ht hW => ⟨⟨1, (), rfl, ⟨(mm_wkl mm_kl1 (by decide)), w10⟩, by rw [ht]; exact hP, hK.warm hW, hD⟩, hS.F ht⟩) hS.2.2 dX12_power_17

set_option maxHeartbeats 4000000 in
set_option maxRecDepth 100000 in
theorem M261_X12_power (l : Launch) (G : va_G) (cy : Nat → ClassId) (sz : Nat) (i_0 : Int32) (h0 : mm_rg i_0 0 7)  : mm_CL l yX12_power (mm_ws yX12_power cX12_power 3 (some .long)) ({ frames := 7, cells := 0, slots := 0, locals := 154 } : Room) G cy sz [] [.long 10, .int i_0] (fun u : Unit => []) (fun (r : Int64) (u : Unit) => mm_rl r 1 10000000 ∧ mm_pw i_0 r) 0 0 := by
  refine mm_begin (lv := [(0, .long 10), (2, .int i_0)]) (by decide) (Nat.le_of_ble_eq_true rfl) rfl ?_
  intro p e s m below meth c A ls R args Q H locs hRe hQ hAe hx hb hr hlocks hml hown hnm hts hsz hA hS hP hK hD hZ hl
  have hRf : R.frames = 7 := by rw [hRe]
  have hRl : R.locals = 154 := by rw [hRe]
  have hRc : R.cells = 0 := by rw [hRe]
  have hRs : R.slots = 0 := by rw [hRe]
  refine lv_iload_n hx hb dX12_power_0 rfl (lv_at hl 1 rfl) ?_
  refine lv_if_ne (tgt := 8) hx hb dX12_power_1 (by decide) (fun c1 => ?_) (fun c1 => ?_)
  · have q2 := mm_neL (lo := 1) (mm_ne c1) h0 mm_k0 (by decide) (by decide)
    refine lv_lload_n hx hb dX12_power_8 rfl (lv_at hl 0 rfl) ?_
    refine lv_lload_n hx hb dX12_power_9 rfl (lv_at hl 0 rfl) ?_
    refine lv_iload_n hx hb dX12_power_10 rfl (lv_at hl 1 rfl) ?_
    refine lv_iconst (v := 1) hx hb dX12_power_11 (by decide) ?_
    refine lv_isub hx hb dX12_power_12 ?_
    refine lv_topi (fun v3 ev3 => ?_)
    have rv3 : mm_rg v3 0 6 := mm_sub ev3 q2 mm_k1 (by decide) (by decide)
    have tv3 := mm_subEc ev3 q2 mm_k1 (by decide) (k := (-1)) (by decide)
    refine mm_finlr (va_runS (As := [.long 10, .int v3]) (rest := [.long 10]) ⟨hx, hb, hml, hown, hts⟩ (M260_X12_power l G cy H.size v3 rv3) (va_cwS 2 hts (mm_gS mm_w1523 mm_w1524 mm_w5 mm_w1525) rfl rfl rfl hs_X12_power ⟨by rw [hRf]; exact Nat.le_of_ble_eq_true rfl, by rw [hRl]; exact Nat.le_of_ble_eq_true rfl⟩) (mm_preS hK hZ hS hA hP hD [] rfl rfl) rfl rfl hl.1 rfl (lv_room (Nat.le_of_ble_eq_true rfl)) dX12_power_13 ⟨by rw [hRc]; exact Nat.le_of_ble_eq_true rfl, by rw [hRs]; exact Nat.le_of_ble_eq_true rfl⟩) hP hD hS hA [] rfl (fun _ => rfl) ?_
    clear hP hD hS
    clear H locs
    intro v4 _u H locs hw hP hD hS
    obtain ⟨w5, w6⟩ := hw
    refine lv_lmul hx hb dX12_power_16 ?_
    refine lv_topl (fun v7 ev7 => ?_)
    have rv7 : mm_rl v7 10 10000000 := mm_mull ev7 mm_kl10 w5 (by decide) (by decide)
    have w8 : mm_pw i_0 v7 := (mm_pw_s w6 tv3 ev7 mm_kl10 w5 rv3 (by decide))
    subst hAe
    rw [hQ]
    exact W.lret (v := v7) hx hb hr (fun t ht hW => ⟨⟨v7, (), rfl, ⟨(mm_wkl rv7 (by decide)), w8⟩, by rw [ht]; exact hP, hK.warm hW, hD⟩, hS.F ht⟩) hS.2.2 dX12_power_17
  · have q9 := mm_eqI (lo := 0) (hi := 0) c1 h0 mm_k0 (by decide)
    refine lv_lconst (v := 1) hx hb dX12_power_4 (by decide) ?_
    refine lv_goto (tgt := 17) hx hb dX12_power_5 (by decide) ?_
    have w10 : mm_pw i_0 1 := (mm_pw_0 _)
    subst hAe
    rw [hQ]
    exact W.lret (v := 1) hx hb hr (fun t ht hW => ⟨⟨1, (), rfl, ⟨(mm_wkl mm_kl1 (by decide)), w10⟩, by rw [ht]; exact hP, hK.warm hW, hD⟩, hS.F ht⟩) hS.2.2 dX12_power_17

set_option maxHeartbeats 4000000 in
set_option maxRecDepth 100000 in
theorem M262_X12_common_ (l : Launch) (G : va_G) (cy : Nat → ClassId) (sz : Nat) (j_0 : Int64) (j_1 : Int64) (h0 : mm_rl j_0 1 4611686018427387904) (h1 : mm_rl j_1 0 255)  : mm_CL l yX12_common_ (mm_ws yX12_common_ cX12_common_ 4 (some .long)) ({ frames := 15, cells := 0, slots := 0, locals := 345 } : Room) G cy sz [] [.long j_0, .long j_1] (fun u : Unit => []) (fun (r : Int64) (u : Unit) => mm_rl r 1 4611686018427387904) 0 0 := by
  refine mm_begin (lv := [(0, .long j_0), (2, .long j_1)]) (by decide) (Nat.le_of_ble_eq_true rfl) rfl ?_
  intro p e s m below meth c A ls R args Q H locs hRe hQ hAe hx hb hr hlocks hml hown hnm hts hsz hA hS hP hK hD hZ hl
  have hRf : R.frames = 15 := by rw [hRe]
  have hRl : R.locals = 345 := by rw [hRe]
  have hRc : R.cells = 0 := by rw [hRe]
  have hRs : R.slots = 0 := by rw [hRe]
  refine lv_lload_n hx hb dX12_common__0 rfl (lv_at hl 1 rfl) ?_
  refine lv_lconst (v := 0) hx hb dX12_common__1 (by decide) ?_
  refine W.lcmp hx hb dX12_common__2 ?_
  refine lv_topi (fun v1 ev1 => ?_)
  refine lv_if_ne (tgt := 10) hx hb dX12_common__3 (by decide) (fun c2 => ?_) (fun c2 => ?_)
  · have q3 := mm_neLl (lo := 1) (mm_cmp_ne ev1 c2) h1 mm_kl0 (by decide) (by decide)
    refine lv_lload_n hx hb dX12_common__10 rfl (lv_at hl 1 rfl) ?_
    refine lv_lload_n hx hb dX12_common__11 rfl (lv_at hl 0 rfl) ?_
    refine lv_lload_n hx hb dX12_common__12 rfl (lv_at hl 1 rfl) ?_
    refine lv_lrem hx hb dX12_common__13 (mm_nzl q3 (by decide)) ?_
    refine lv_topl (fun v4 ev4 => ?_)
    have rv4 : mm_rl v4 0 254 := mm_reml ev4 h0 q3 (by decide) (by decide)
    have w5 := mm_remlLt ev4 h0 q3 (by decide)
    refine mm_finlr (va_runS (As := [.long j_1, .long v4]) (rest := []) ⟨hx, hb, hml, hown, hts⟩ (M173_X12_common_ l G cy H.size j_1 v4 q3 rv4 w5) (va_cwS 2 hts (mm_gS mm_w1043 mm_w1044 mm_w5 mm_w1045) rfl rfl rfl hs_X12_common_ ⟨by rw [hRf]; exact Nat.le_of_ble_eq_true rfl, by rw [hRl]; exact Nat.le_of_ble_eq_true rfl⟩) (mm_preS hK hZ hS hA hP hD [] rfl rfl) rfl rfl hl.1 rfl (lv_room (Nat.le_of_ble_eq_true rfl)) dX12_common__14 ⟨by rw [hRc]; exact Nat.le_of_ble_eq_true rfl, by rw [hRs]; exact Nat.le_of_ble_eq_true rfl⟩) hP hD hS hA [] rfl (fun _ => rfl) ?_
    clear hP hD hS
    clear H locs
    intro v6 _u H locs hw hP hD hS
    have w7 := hw
    subst hAe
    rw [hQ]
    exact W.lret (v := v6) hx hb hr (fun t ht hW => ⟨⟨v6, (), rfl, w7, by rw [ht]; exact hP, hK.warm hW, hD⟩, hS.F ht⟩) hS.2.2 dX12_common__17
  · have q8 := mm_eqIl (lo := 0) (hi := 0) (mm_cmp_eq ev1 c2) h1 mm_kl0 (by decide)
    refine lv_lload_n hx hb dX12_common__6 rfl (lv_at hl 0 rfl) ?_
    refine lv_goto (tgt := 17) hx hb dX12_common__7 (by decide) ?_
    subst hAe
    rw [hQ]
    exact W.lret (v := j_0) hx hb hr (fun t ht hW => ⟨⟨j_0, (), rfl, h0, by rw [ht]; exact hP, hK.warm hW, hD⟩, hS.F ht⟩) hS.2.2 dX12_common__17

set_option maxHeartbeats 4000000 in
set_option maxRecDepth 100000 in
theorem M263_X12_common_ (l : Launch) (G : va_G) (cy : Nat → ClassId) (sz : Nat) (j_0 : Int64) (j_1 : Int64) (h0 : mm_rl j_0 1 511) (h1 : mm_rl j_1 0 510) (h2 : (j_1 : Int64).toInt < (j_0 : Int64).toInt)  : mm_CL l yX12_common_ (mm_ws yX12_common_ cX12_common_ 4 (some .long)) ({ frames := 16, cells := 0, slots := 0, locals := 368 } : Room) G cy sz [] [.long j_0, .long j_1] (fun u : Unit => []) (fun (r : Int64) (u : Unit) => mm_rl r 1 4611686018427387904) 0 0 := by
  refine mm_begin (lv := [(0, .long j_0), (2, .long j_1)]) (by decide) (Nat.le_of_ble_eq_true rfl) rfl ?_
  intro p e s m below meth c A ls R args Q H locs hRe hQ hAe hx hb hr hlocks hml hown hnm hts hsz hA hS hP hK hD hZ hl
  have hRf : R.frames = 16 := by rw [hRe]
  have hRl : R.locals = 368 := by rw [hRe]
  have hRc : R.cells = 0 := by rw [hRe]
  have hRs : R.slots = 0 := by rw [hRe]
  refine lv_lload_n hx hb dX12_common__0 rfl (lv_at hl 1 rfl) ?_
  refine lv_lconst (v := 0) hx hb dX12_common__1 (by decide) ?_
  refine W.lcmp hx hb dX12_common__2 ?_
  refine lv_topi (fun v1 ev1 => ?_)
  refine lv_if_ne (tgt := 10) hx hb dX12_common__3 (by decide) (fun c2 => ?_) (fun c2 => ?_)
  · have q3 := mm_neLl (lo := 1) (mm_cmp_ne ev1 c2) h1 mm_kl0 (by decide) (by decide)
    refine lv_lload_n hx hb dX12_common__10 rfl (lv_at hl 1 rfl) ?_
    refine lv_lload_n hx hb dX12_common__11 rfl (lv_at hl 0 rfl) ?_
    refine lv_lload_n hx hb dX12_common__12 rfl (lv_at hl 1 rfl) ?_
    refine lv_lrem hx hb dX12_common__13 (mm_nzl q3 (by decide)) ?_
    refine lv_topl (fun v4 ev4 => ?_)
    have rv4 : mm_rl v4 0 509 := mm_reml ev4 h0 q3 (by decide) (by decide)
    have w5 := mm_remlLt ev4 h0 q3 (by decide)
    have q6 : mm_rl v4 0 255 := mm_remlHalf ev4 (Int.le_of_lt h2) h0 q3 (by decide)
    refine mm_finlr (va_runS (As := [.long j_1, .long v4]) (rest := []) ⟨hx, hb, hml, hown, hts⟩ (M262_X12_common_ l G cy H.size j_1 v4 (mm_wkl q3 (by decide)) q6) (va_cwS 2 hts (mm_gS mm_w1043 mm_w1044 mm_w5 mm_w1045) rfl rfl rfl hs_X12_common_ ⟨by rw [hRf]; exact Nat.le_of_ble_eq_true rfl, by rw [hRl]; exact Nat.le_of_ble_eq_true rfl⟩) (mm_preS hK hZ hS hA hP hD [] rfl rfl) rfl rfl hl.1 rfl (lv_room (Nat.le_of_ble_eq_true rfl)) dX12_common__14 ⟨by rw [hRc]; exact Nat.le_of_ble_eq_true rfl, by rw [hRs]; exact Nat.le_of_ble_eq_true rfl⟩) hP hD hS hA [] rfl (fun _ => rfl) ?_
    clear hP hD hS
    clear H locs
    intro v7 _u H locs hw hP hD hS
    have w8 := hw
    subst hAe
    rw [hQ]
    exact W.lret (v := v7) hx hb hr (fun t ht hW => ⟨⟨v7, (), rfl, w8, by rw [ht]; exact hP, hK.warm hW, hD⟩, hS.F ht⟩) hS.2.2 dX12_common__17
  · have q9 := mm_eqIl (lo := 0) (hi := 0) (mm_cmp_eq ev1 c2) h1 mm_kl0 (by decide)
    refine lv_lload_n hx hb dX12_common__6 rfl (lv_at hl 0 rfl) ?_
    refine lv_goto (tgt := 17) hx hb dX12_common__7 (by decide) ?_
    subst hAe
    rw [hQ]
    exact W.lret (v := j_0) hx hb hr (fun t ht hW => ⟨⟨j_0, (), rfl, (mm_wkl h0 (by decide)), by rw [ht]; exact hP, hK.warm hW, hD⟩, hS.F ht⟩) hS.2.2 dX12_common__17

set_option maxHeartbeats 4000000 in
set_option maxRecDepth 100000 in
theorem M264_X12_common_ (l : Launch) (G : va_G) (cy : Nat → ClassId) (sz : Nat) (j_0 : Int64) (j_1 : Int64) (h0 : mm_rl j_0 1 4611686018427387904) (h1 : mm_rl j_1 0 511)  : mm_CL l yX12_common_ (mm_ws yX12_common_ cX12_common_ 4 (some .long)) ({ frames := 17, cells := 0, slots := 0, locals := 391 } : Room) G cy sz [] [.long j_0, .long j_1] (fun u : Unit => []) (fun (r : Int64) (u : Unit) => mm_rl r 1 4611686018427387904) 0 0 := by
  refine mm_begin (lv := [(0, .long j_0), (2, .long j_1)]) (by decide) (Nat.le_of_ble_eq_true rfl) rfl ?_
  intro p e s m below meth c A ls R args Q H locs hRe hQ hAe hx hb hr hlocks hml hown hnm hts hsz hA hS hP hK hD hZ hl
  have hRf : R.frames = 17 := by rw [hRe]
  have hRl : R.locals = 391 := by rw [hRe]
  have hRc : R.cells = 0 := by rw [hRe]
  have hRs : R.slots = 0 := by rw [hRe]
  refine lv_lload_n hx hb dX12_common__0 rfl (lv_at hl 1 rfl) ?_
  refine lv_lconst (v := 0) hx hb dX12_common__1 (by decide) ?_
  refine W.lcmp hx hb dX12_common__2 ?_
  refine lv_topi (fun v1 ev1 => ?_)
  refine lv_if_ne (tgt := 10) hx hb dX12_common__3 (by decide) (fun c2 => ?_) (fun c2 => ?_)
  · have q3 := mm_neLl (lo := 1) (mm_cmp_ne ev1 c2) h1 mm_kl0 (by decide) (by decide)
    refine lv_lload_n hx hb dX12_common__10 rfl (lv_at hl 1 rfl) ?_
    refine lv_lload_n hx hb dX12_common__11 rfl (lv_at hl 0 rfl) ?_
    refine lv_lload_n hx hb dX12_common__12 rfl (lv_at hl 1 rfl) ?_
    refine lv_lrem hx hb dX12_common__13 (mm_nzl q3 (by decide)) ?_
    refine lv_topl (fun v4 ev4 => ?_)
    have rv4 : mm_rl v4 0 510 := mm_reml ev4 h0 q3 (by decide) (by decide)
    have w5 := mm_remlLt ev4 h0 q3 (by decide)
    refine mm_finlr (va_runS (As := [.long j_1, .long v4]) (rest := []) ⟨hx, hb, hml, hown, hts⟩ (M263_X12_common_ l G cy H.size j_1 v4 q3 rv4 w5) (va_cwS 2 hts (mm_gS mm_w1043 mm_w1044 mm_w5 mm_w1045) rfl rfl rfl hs_X12_common_ ⟨by rw [hRf]; exact Nat.le_of_ble_eq_true rfl, by rw [hRl]; exact Nat.le_of_ble_eq_true rfl⟩) (mm_preS hK hZ hS hA hP hD [] rfl rfl) rfl rfl hl.1 rfl (lv_room (Nat.le_of_ble_eq_true rfl)) dX12_common__14 ⟨by rw [hRc]; exact Nat.le_of_ble_eq_true rfl, by rw [hRs]; exact Nat.le_of_ble_eq_true rfl⟩) hP hD hS hA [] rfl (fun _ => rfl) ?_
    clear hP hD hS
    clear H locs
    intro v6 _u H locs hw hP hD hS
    have w7 := hw
    subst hAe
    rw [hQ]
    exact W.lret (v := v6) hx hb hr (fun t ht hW => ⟨⟨v6, (), rfl, w7, by rw [ht]; exact hP, hK.warm hW, hD⟩, hS.F ht⟩) hS.2.2 dX12_common__17
  · have q8 := mm_eqIl (lo := 0) (hi := 0) (mm_cmp_eq ev1 c2) h1 mm_kl0 (by decide)
    refine lv_lload_n hx hb dX12_common__6 rfl (lv_at hl 0 rfl) ?_
    refine lv_goto (tgt := 17) hx hb dX12_common__7 (by decide) ?_
    subst hAe
    rw [hQ]
    exact W.lret (v := j_0) hx hb hr (fun t ht hW => ⟨⟨j_0, (), rfl, h0, by rw [ht]; exact hP, hK.warm hW, hD⟩, hS.F ht⟩) hS.2.2 dX12_common__17

set_option maxHeartbeats 4000000 in
set_option maxRecDepth 100000 in
theorem M265_X12_common_ (l : Launch) (G : va_G) (cy : Nat → ClassId) (sz : Nat) (j_0 : Int64) (j_1 : Int64) (h0 : mm_rl j_0 1 1023) (h1 : mm_rl j_1 0 1022) (h2 : (j_1 : Int64).toInt < (j_0 : Int64).toInt)  : mm_CL l yX12_common_ (mm_ws yX12_common_ cX12_common_ 4 (some .long)) ({ frames := 18, cells := 0, slots := 0, locals := 414 } : Room) G cy sz [] [.long j_0, .long j_1] (fun u : Unit => []) (fun (r : Int64) (u : Unit) => mm_rl r 1 4611686018427387904) 0 0 := by
  refine mm_begin (lv := [(0, .long j_0), (2, .long j_1)]) (by decide) (Nat.le_of_ble_eq_true rfl) rfl ?_
  intro p e s m below meth c A ls R args Q H locs hRe hQ hAe hx hb hr hlocks hml hown hnm hts hsz hA hS hP hK hD hZ hl
  have hRf : R.frames = 18 := by rw [hRe]
  have hRl : R.locals = 414 := by rw [hRe]
  have hRc : R.cells = 0 := by rw [hRe]
  have hRs : R.slots = 0 := by rw [hRe]
  refine lv_lload_n hx hb dX12_common__0 rfl (lv_at hl 1 rfl) ?_
  refine lv_lconst (v := 0) hx hb dX12_common__1 (by decide) ?_
  refine W.lcmp hx hb dX12_common__2 ?_
  refine lv_topi (fun v1 ev1 => ?_)
  refine lv_if_ne (tgt := 10) hx hb dX12_common__3 (by decide) (fun c2 => ?_) (fun c2 => ?_)
  · have q3 := mm_neLl (lo := 1) (mm_cmp_ne ev1 c2) h1 mm_kl0 (by decide) (by decide)
    refine lv_lload_n hx hb dX12_common__10 rfl (lv_at hl 1 rfl) ?_
    refine lv_lload_n hx hb dX12_common__11 rfl (lv_at hl 0 rfl) ?_
    refine lv_lload_n hx hb dX12_common__12 rfl (lv_at hl 1 rfl) ?_
    refine lv_lrem hx hb dX12_common__13 (mm_nzl q3 (by decide)) ?_
    refine lv_topl (fun v4 ev4 => ?_)
    have rv4 : mm_rl v4 0 1021 := mm_reml ev4 h0 q3 (by decide) (by decide)
    have w5 := mm_remlLt ev4 h0 q3 (by decide)
    have q6 : mm_rl v4 0 511 := mm_remlHalf ev4 (Int.le_of_lt h2) h0 q3 (by decide)
    refine mm_finlr (va_runS (As := [.long j_1, .long v4]) (rest := []) ⟨hx, hb, hml, hown, hts⟩ (M264_X12_common_ l G cy H.size j_1 v4 (mm_wkl q3 (by decide)) q6) (va_cwS 2 hts (mm_gS mm_w1043 mm_w1044 mm_w5 mm_w1045) rfl rfl rfl hs_X12_common_ ⟨by rw [hRf]; exact Nat.le_of_ble_eq_true rfl, by rw [hRl]; exact Nat.le_of_ble_eq_true rfl⟩) (mm_preS hK hZ hS hA hP hD [] rfl rfl) rfl rfl hl.1 rfl (lv_room (Nat.le_of_ble_eq_true rfl)) dX12_common__14 ⟨by rw [hRc]; exact Nat.le_of_ble_eq_true rfl, by rw [hRs]; exact Nat.le_of_ble_eq_true rfl⟩) hP hD hS hA [] rfl (fun _ => rfl) ?_
    clear hP hD hS
    clear H locs
    intro v7 _u H locs hw hP hD hS
    have w8 := hw
    subst hAe
    rw [hQ]
    exact W.lret (v := v7) hx hb hr (fun t ht hW => ⟨⟨v7, (), rfl, w8, by rw [ht]; exact hP, hK.warm hW, hD⟩, hS.F ht⟩) hS.2.2 dX12_common__17
  · have q9 := mm_eqIl (lo := 0) (hi := 0) (mm_cmp_eq ev1 c2) h1 mm_kl0 (by decide)
    refine lv_lload_n hx hb dX12_common__6 rfl (lv_at hl 0 rfl) ?_
    refine lv_goto (tgt := 17) hx hb dX12_common__7 (by decide) ?_
    subst hAe
    rw [hQ]
    exact W.lret (v := j_0) hx hb hr (fun t ht hW => ⟨⟨j_0, (), rfl, (mm_wkl h0 (by decide)), by rw [ht]; exact hP, hK.warm hW, hD⟩, hS.F ht⟩) hS.2.2 dX12_common__17

set_option maxHeartbeats 4000000 in
set_option maxRecDepth 100000 in
theorem M266_X12_common_ (l : Launch) (G : va_G) (cy : Nat → ClassId) (sz : Nat) (j_0 : Int64) (j_1 : Int64) (h0 : mm_rl j_0 1 4611686018427387904) (h1 : mm_rl j_1 0 1023)  : mm_CL l yX12_common_ (mm_ws yX12_common_ cX12_common_ 4 (some .long)) ({ frames := 19, cells := 0, slots := 0, locals := 437 } : Room) G cy sz [] [.long j_0, .long j_1] (fun u : Unit => []) (fun (r : Int64) (u : Unit) => mm_rl r 1 4611686018427387904) 0 0 := by
  refine mm_begin (lv := [(0, .long j_0), (2, .long j_1)]) (by decide) (Nat.le_of_ble_eq_true rfl) rfl ?_
  intro p e s m below meth c A ls R args Q H locs hRe hQ hAe hx hb hr hlocks hml hown hnm hts hsz hA hS hP hK hD hZ hl
  have hRf : R.frames = 19 := by rw [hRe]
  have hRl : R.locals = 437 := by rw [hRe]
  have hRc : R.cells = 0 := by rw [hRe]
  have hRs : R.slots = 0 := by rw [hRe]
  refine lv_lload_n hx hb dX12_common__0 rfl (lv_at hl 1 rfl) ?_
  refine lv_lconst (v := 0) hx hb dX12_common__1 (by decide) ?_
  refine W.lcmp hx hb dX12_common__2 ?_
  refine lv_topi (fun v1 ev1 => ?_)
  refine lv_if_ne (tgt := 10) hx hb dX12_common__3 (by decide) (fun c2 => ?_) (fun c2 => ?_)
  · have q3 := mm_neLl (lo := 1) (mm_cmp_ne ev1 c2) h1 mm_kl0 (by decide) (by decide)
    refine lv_lload_n hx hb dX12_common__10 rfl (lv_at hl 1 rfl) ?_
    refine lv_lload_n hx hb dX12_common__11 rfl (lv_at hl 0 rfl) ?_
    refine lv_lload_n hx hb dX12_common__12 rfl (lv_at hl 1 rfl) ?_
    refine lv_lrem hx hb dX12_common__13 (mm_nzl q3 (by decide)) ?_
    refine lv_topl (fun v4 ev4 => ?_)
    have rv4 : mm_rl v4 0 1022 := mm_reml ev4 h0 q3 (by decide) (by decide)
    have w5 := mm_remlLt ev4 h0 q3 (by decide)
    refine mm_finlr (va_runS (As := [.long j_1, .long v4]) (rest := []) ⟨hx, hb, hml, hown, hts⟩ (M265_X12_common_ l G cy H.size j_1 v4 q3 rv4 w5) (va_cwS 2 hts (mm_gS mm_w1043 mm_w1044 mm_w5 mm_w1045) rfl rfl rfl hs_X12_common_ ⟨by rw [hRf]; exact Nat.le_of_ble_eq_true rfl, by rw [hRl]; exact Nat.le_of_ble_eq_true rfl⟩) (mm_preS hK hZ hS hA hP hD [] rfl rfl) rfl rfl hl.1 rfl (lv_room (Nat.le_of_ble_eq_true rfl)) dX12_common__14 ⟨by rw [hRc]; exact Nat.le_of_ble_eq_true rfl, by rw [hRs]; exact Nat.le_of_ble_eq_true rfl⟩) hP hD hS hA [] rfl (fun _ => rfl) ?_
    clear hP hD hS
    clear H locs
    intro v6 _u H locs hw hP hD hS
    have w7 := hw
    subst hAe
    rw [hQ]
    exact W.lret (v := v6) hx hb hr (fun t ht hW => ⟨⟨v6, (), rfl, w7, by rw [ht]; exact hP, hK.warm hW, hD⟩, hS.F ht⟩) hS.2.2 dX12_common__17
  · have q8 := mm_eqIl (lo := 0) (hi := 0) (mm_cmp_eq ev1 c2) h1 mm_kl0 (by decide)
    refine lv_lload_n hx hb dX12_common__6 rfl (lv_at hl 0 rfl) ?_
    refine lv_goto (tgt := 17) hx hb dX12_common__7 (by decide) ?_
    subst hAe
    rw [hQ]
    exact W.lret (v := j_0) hx hb hr (fun t ht hW => ⟨⟨j_0, (), rfl, h0, by rw [ht]; exact hP, hK.warm hW, hD⟩, hS.F ht⟩) hS.2.2 dX12_common__17

set_option maxHeartbeats 4000000 in
set_option maxRecDepth 100000 in
theorem M267_X12_common_ (l : Launch) (G : va_G) (cy : Nat → ClassId) (sz : Nat) (j_0 : Int64) (j_1 : Int64) (h0 : mm_rl j_0 1 2047) (h1 : mm_rl j_1 0 2046) (h2 : (j_1 : Int64).toInt < (j_0 : Int64).toInt)  : mm_CL l yX12_common_ (mm_ws yX12_common_ cX12_common_ 4 (some .long)) ({ frames := 20, cells := 0, slots := 0, locals := 460 } : Room) G cy sz [] [.long j_0, .long j_1] (fun u : Unit => []) (fun (r : Int64) (u : Unit) => mm_rl r 1 4611686018427387904) 0 0 := by
  refine mm_begin (lv := [(0, .long j_0), (2, .long j_1)]) (by decide) (Nat.le_of_ble_eq_true rfl) rfl ?_
  intro p e s m below meth c A ls R args Q H locs hRe hQ hAe hx hb hr hlocks hml hown hnm hts hsz hA hS hP hK hD hZ hl
  have hRf : R.frames = 20 := by rw [hRe]
  have hRl : R.locals = 460 := by rw [hRe]
  have hRc : R.cells = 0 := by rw [hRe]
  have hRs : R.slots = 0 := by rw [hRe]
  refine lv_lload_n hx hb dX12_common__0 rfl (lv_at hl 1 rfl) ?_
  refine lv_lconst (v := 0) hx hb dX12_common__1 (by decide) ?_
  refine W.lcmp hx hb dX12_common__2 ?_
  refine lv_topi (fun v1 ev1 => ?_)
  refine lv_if_ne (tgt := 10) hx hb dX12_common__3 (by decide) (fun c2 => ?_) (fun c2 => ?_)
  · have q3 := mm_neLl (lo := 1) (mm_cmp_ne ev1 c2) h1 mm_kl0 (by decide) (by decide)
    refine lv_lload_n hx hb dX12_common__10 rfl (lv_at hl 1 rfl) ?_
    refine lv_lload_n hx hb dX12_common__11 rfl (lv_at hl 0 rfl) ?_
    refine lv_lload_n hx hb dX12_common__12 rfl (lv_at hl 1 rfl) ?_
    refine lv_lrem hx hb dX12_common__13 (mm_nzl q3 (by decide)) ?_
    refine lv_topl (fun v4 ev4 => ?_)
    have rv4 : mm_rl v4 0 2045 := mm_reml ev4 h0 q3 (by decide) (by decide)
    have w5 := mm_remlLt ev4 h0 q3 (by decide)
    have q6 : mm_rl v4 0 1023 := mm_remlHalf ev4 (Int.le_of_lt h2) h0 q3 (by decide)
    refine mm_finlr (va_runS (As := [.long j_1, .long v4]) (rest := []) ⟨hx, hb, hml, hown, hts⟩ (M266_X12_common_ l G cy H.size j_1 v4 (mm_wkl q3 (by decide)) q6) (va_cwS 2 hts (mm_gS mm_w1043 mm_w1044 mm_w5 mm_w1045) rfl rfl rfl hs_X12_common_ ⟨by rw [hRf]; exact Nat.le_of_ble_eq_true rfl, by rw [hRl]; exact Nat.le_of_ble_eq_true rfl⟩) (mm_preS hK hZ hS hA hP hD [] rfl rfl) rfl rfl hl.1 rfl (lv_room (Nat.le_of_ble_eq_true rfl)) dX12_common__14 ⟨by rw [hRc]; exact Nat.le_of_ble_eq_true rfl, by rw [hRs]; exact Nat.le_of_ble_eq_true rfl⟩) hP hD hS hA [] rfl (fun _ => rfl) ?_
    clear hP hD hS
    clear H locs
    intro v7 _u H locs hw hP hD hS
    have w8 := hw
    subst hAe
    rw [hQ]
    exact W.lret (v := v7) hx hb hr (fun t ht hW => ⟨⟨v7, (), rfl, w8, by rw [ht]; exact hP, hK.warm hW, hD⟩, hS.F ht⟩) hS.2.2 dX12_common__17
  · have q9 := mm_eqIl (lo := 0) (hi := 0) (mm_cmp_eq ev1 c2) h1 mm_kl0 (by decide)
    refine lv_lload_n hx hb dX12_common__6 rfl (lv_at hl 0 rfl) ?_
    refine lv_goto (tgt := 17) hx hb dX12_common__7 (by decide) ?_
    subst hAe
    rw [hQ]
    exact W.lret (v := j_0) hx hb hr (fun t ht hW => ⟨⟨j_0, (), rfl, (mm_wkl h0 (by decide)), by rw [ht]; exact hP, hK.warm hW, hD⟩, hS.F ht⟩) hS.2.2 dX12_common__17

set_option maxHeartbeats 4000000 in
set_option maxRecDepth 100000 in
theorem M268_X12_common_ (l : Launch) (G : va_G) (cy : Nat → ClassId) (sz : Nat) (j_0 : Int64) (j_1 : Int64) (h0 : mm_rl j_0 1 4611686018427387904) (h1 : mm_rl j_1 0 2047)  : mm_CL l yX12_common_ (mm_ws yX12_common_ cX12_common_ 4 (some .long)) ({ frames := 21, cells := 0, slots := 0, locals := 483 } : Room) G cy sz [] [.long j_0, .long j_1] (fun u : Unit => []) (fun (r : Int64) (u : Unit) => mm_rl r 1 4611686018427387904) 0 0 := by
  refine mm_begin (lv := [(0, .long j_0), (2, .long j_1)]) (by decide) (Nat.le_of_ble_eq_true rfl) rfl ?_
  intro p e s m below meth c A ls R args Q H locs hRe hQ hAe hx hb hr hlocks hml hown hnm hts hsz hA hS hP hK hD hZ hl
  have hRf : R.frames = 21 := by rw [hRe]
  have hRl : R.locals = 483 := by rw [hRe]
  have hRc : R.cells = 0 := by rw [hRe]
  have hRs : R.slots = 0 := by rw [hRe]
  refine lv_lload_n hx hb dX12_common__0 rfl (lv_at hl 1 rfl) ?_
  refine lv_lconst (v := 0) hx hb dX12_common__1 (by decide) ?_
  refine W.lcmp hx hb dX12_common__2 ?_
  refine lv_topi (fun v1 ev1 => ?_)
  refine lv_if_ne (tgt := 10) hx hb dX12_common__3 (by decide) (fun c2 => ?_) (fun c2 => ?_)
  · have q3 := mm_neLl (lo := 1) (mm_cmp_ne ev1 c2) h1 mm_kl0 (by decide) (by decide)
    refine lv_lload_n hx hb dX12_common__10 rfl (lv_at hl 1 rfl) ?_
    refine lv_lload_n hx hb dX12_common__11 rfl (lv_at hl 0 rfl) ?_
    refine lv_lload_n hx hb dX12_common__12 rfl (lv_at hl 1 rfl) ?_
    refine lv_lrem hx hb dX12_common__13 (mm_nzl q3 (by decide)) ?_
    refine lv_topl (fun v4 ev4 => ?_)
    have rv4 : mm_rl v4 0 2046 := mm_reml ev4 h0 q3 (by decide) (by decide)
    have w5 := mm_remlLt ev4 h0 q3 (by decide)
    refine mm_finlr (va_runS (As := [.long j_1, .long v4]) (rest := []) ⟨hx, hb, hml, hown, hts⟩ (M267_X12_common_ l G cy H.size j_1 v4 q3 rv4 w5) (va_cwS 2 hts (mm_gS mm_w1043 mm_w1044 mm_w5 mm_w1045) rfl rfl rfl hs_X12_common_ ⟨by rw [hRf]; exact Nat.le_of_ble_eq_true rfl, by rw [hRl]; exact Nat.le_of_ble_eq_true rfl⟩) (mm_preS hK hZ hS hA hP hD [] rfl rfl) rfl rfl hl.1 rfl (lv_room (Nat.le_of_ble_eq_true rfl)) dX12_common__14 ⟨by rw [hRc]; exact Nat.le_of_ble_eq_true rfl, by rw [hRs]; exact Nat.le_of_ble_eq_true rfl⟩) hP hD hS hA [] rfl (fun _ => rfl) ?_
    clear hP hD hS
    clear H locs
    intro v6 _u H locs hw hP hD hS
    have w7 := hw
    subst hAe
    rw [hQ]
    exact W.lret (v := v6) hx hb hr (fun t ht hW => ⟨⟨v6, (), rfl, w7, by rw [ht]; exact hP, hK.warm hW, hD⟩, hS.F ht⟩) hS.2.2 dX12_common__17
  · have q8 := mm_eqIl (lo := 0) (hi := 0) (mm_cmp_eq ev1 c2) h1 mm_kl0 (by decide)
    refine lv_lload_n hx hb dX12_common__6 rfl (lv_at hl 0 rfl) ?_
    refine lv_goto (tgt := 17) hx hb dX12_common__7 (by decide) ?_
    subst hAe
    rw [hQ]
    exact W.lret (v := j_0) hx hb hr (fun t ht hW => ⟨⟨j_0, (), rfl, h0, by rw [ht]; exact hP, hK.warm hW, hD⟩, hS.F ht⟩) hS.2.2 dX12_common__17

set_option maxHeartbeats 4000000 in
set_option maxRecDepth 100000 in
theorem M269_X12_common_ (l : Launch) (G : va_G) (cy : Nat → ClassId) (sz : Nat) (j_0 : Int64) (j_1 : Int64) (h0 : mm_rl j_0 1 4095) (h1 : mm_rl j_1 0 4094) (h2 : (j_1 : Int64).toInt < (j_0 : Int64).toInt)  : mm_CL l yX12_common_ (mm_ws yX12_common_ cX12_common_ 4 (some .long)) ({ frames := 22, cells := 0, slots := 0, locals := 506 } : Room) G cy sz [] [.long j_0, .long j_1] (fun u : Unit => []) (fun (r : Int64) (u : Unit) => mm_rl r 1 4611686018427387904) 0 0 := by
  refine mm_begin (lv := [(0, .long j_0), (2, .long j_1)]) (by decide) (Nat.le_of_ble_eq_true rfl) rfl ?_
  intro p e s m below meth c A ls R args Q H locs hRe hQ hAe hx hb hr hlocks hml hown hnm hts hsz hA hS hP hK hD hZ hl
  have hRf : R.frames = 22 := by rw [hRe]
  have hRl : R.locals = 506 := by rw [hRe]
  have hRc : R.cells = 0 := by rw [hRe]
  have hRs : R.slots = 0 := by rw [hRe]
  refine lv_lload_n hx hb dX12_common__0 rfl (lv_at hl 1 rfl) ?_
  refine lv_lconst (v := 0) hx hb dX12_common__1 (by decide) ?_
  refine W.lcmp hx hb dX12_common__2 ?_
  refine lv_topi (fun v1 ev1 => ?_)
  refine lv_if_ne (tgt := 10) hx hb dX12_common__3 (by decide) (fun c2 => ?_) (fun c2 => ?_)
  · have q3 := mm_neLl (lo := 1) (mm_cmp_ne ev1 c2) h1 mm_kl0 (by decide) (by decide)
    refine lv_lload_n hx hb dX12_common__10 rfl (lv_at hl 1 rfl) ?_
    refine lv_lload_n hx hb dX12_common__11 rfl (lv_at hl 0 rfl) ?_
    refine lv_lload_n hx hb dX12_common__12 rfl (lv_at hl 1 rfl) ?_
    refine lv_lrem hx hb dX12_common__13 (mm_nzl q3 (by decide)) ?_
    refine lv_topl (fun v4 ev4 => ?_)
    have rv4 : mm_rl v4 0 4093 := mm_reml ev4 h0 q3 (by decide) (by decide)
    have w5 := mm_remlLt ev4 h0 q3 (by decide)
    have q6 : mm_rl v4 0 2047 := mm_remlHalf ev4 (Int.le_of_lt h2) h0 q3 (by decide)
    refine mm_finlr (va_runS (As := [.long j_1, .long v4]) (rest := []) ⟨hx, hb, hml, hown, hts⟩ (M268_X12_common_ l G cy H.size j_1 v4 (mm_wkl q3 (by decide)) q6) (va_cwS 2 hts (mm_gS mm_w1043 mm_w1044 mm_w5 mm_w1045) rfl rfl rfl hs_X12_common_ ⟨by rw [hRf]; exact Nat.le_of_ble_eq_true rfl, by rw [hRl]; exact Nat.le_of_ble_eq_true rfl⟩) (mm_preS hK hZ hS hA hP hD [] rfl rfl) rfl rfl hl.1 rfl (lv_room (Nat.le_of_ble_eq_true rfl)) dX12_common__14 ⟨by rw [hRc]; exact Nat.le_of_ble_eq_true rfl, by rw [hRs]; exact Nat.le_of_ble_eq_true rfl⟩) hP hD hS hA [] rfl (fun _ => rfl) ?_
    clear hP hD hS
    clear H locs
    intro v7 _u H locs hw hP hD hS
    have w8 := hw
    subst hAe
    rw [hQ]
    exact W.lret (v := v7) hx hb hr (fun t ht hW => ⟨⟨v7, (), rfl, w8, by rw [ht]; exact hP, hK.warm hW, hD⟩, hS.F ht⟩) hS.2.2 dX12_common__17
  · have q9 := mm_eqIl (lo := 0) (hi := 0) (mm_cmp_eq ev1 c2) h1 mm_kl0 (by decide)
    refine lv_lload_n hx hb dX12_common__6 rfl (lv_at hl 0 rfl) ?_
    refine lv_goto (tgt := 17) hx hb dX12_common__7 (by decide) ?_
    subst hAe
    rw [hQ]
    exact W.lret (v := j_0) hx hb hr (fun t ht hW => ⟨⟨j_0, (), rfl, (mm_wkl h0 (by decide)), by rw [ht]; exact hP, hK.warm hW, hD⟩, hS.F ht⟩) hS.2.2 dX12_common__17

set_option maxHeartbeats 4000000 in
set_option maxRecDepth 100000 in
theorem M270_X12_common_ (l : Launch) (G : va_G) (cy : Nat → ClassId) (sz : Nat) (j_0 : Int64) (j_1 : Int64) (h0 : mm_rl j_0 1 4611686018427387904) (h1 : mm_rl j_1 0 4095)  : mm_CL l yX12_common_ (mm_ws yX12_common_ cX12_common_ 4 (some .long)) ({ frames := 23, cells := 0, slots := 0, locals := 529 } : Room) G cy sz [] [.long j_0, .long j_1] (fun u : Unit => []) (fun (r : Int64) (u : Unit) => mm_rl r 1 4611686018427387904) 0 0 := by
  refine mm_begin (lv := [(0, .long j_0), (2, .long j_1)]) (by decide) (Nat.le_of_ble_eq_true rfl) rfl ?_
  intro p e s m below meth c A ls R args Q H locs hRe hQ hAe hx hb hr hlocks hml hown hnm hts hsz hA hS hP hK hD hZ hl
  have hRf : R.frames = 23 := by rw [hRe]
  have hRl : R.locals = 529 := by rw [hRe]
  have hRc : R.cells = 0 := by rw [hRe]
  have hRs : R.slots = 0 := by rw [hRe]
  refine lv_lload_n hx hb dX12_common__0 rfl (lv_at hl 1 rfl) ?_
  refine lv_lconst (v := 0) hx hb dX12_common__1 (by decide) ?_
  refine W.lcmp hx hb dX12_common__2 ?_
  refine lv_topi (fun v1 ev1 => ?_)
  refine lv_if_ne (tgt := 10) hx hb dX12_common__3 (by decide) (fun c2 => ?_) (fun c2 => ?_)
  · have q3 := mm_neLl (lo := 1) (mm_cmp_ne ev1 c2) h1 mm_kl0 (by decide) (by decide)
    refine lv_lload_n hx hb dX12_common__10 rfl (lv_at hl 1 rfl) ?_
    refine lv_lload_n hx hb dX12_common__11 rfl (lv_at hl 0 rfl) ?_
    refine lv_lload_n hx hb dX12_common__12 rfl (lv_at hl 1 rfl) ?_
    refine lv_lrem hx hb dX12_common__13 (mm_nzl q3 (by decide)) ?_
    refine lv_topl (fun v4 ev4 => ?_)
    have rv4 : mm_rl v4 0 4094 := mm_reml ev4 h0 q3 (by decide) (by decide)
    have w5 := mm_remlLt ev4 h0 q3 (by decide)
    refine mm_finlr (va_runS (As := [.long j_1, .long v4]) (rest := []) ⟨hx, hb, hml, hown, hts⟩ (M269_X12_common_ l G cy H.size j_1 v4 q3 rv4 w5) (va_cwS 2 hts (mm_gS mm_w1043 mm_w1044 mm_w5 mm_w1045) rfl rfl rfl hs_X12_common_ ⟨by rw [hRf]; exact Nat.le_of_ble_eq_true rfl, by rw [hRl]; exact Nat.le_of_ble_eq_true rfl⟩) (mm_preS hK hZ hS hA hP hD [] rfl rfl) rfl rfl hl.1 rfl (lv_room (Nat.le_of_ble_eq_true rfl)) dX12_common__14 ⟨by rw [hRc]; exact Nat.le_of_ble_eq_true rfl, by rw [hRs]; exact Nat.le_of_ble_eq_true rfl⟩) hP hD hS hA [] rfl (fun _ => rfl) ?_
    clear hP hD hS
    clear H locs
    intro v6 _u H locs hw hP hD hS
    have w7 := hw
    subst hAe
    rw [hQ]
    exact W.lret (v := v6) hx hb hr (fun t ht hW => ⟨⟨v6, (), rfl, w7, by rw [ht]; exact hP, hK.warm hW, hD⟩, hS.F ht⟩) hS.2.2 dX12_common__17
  · have q8 := mm_eqIl (lo := 0) (hi := 0) (mm_cmp_eq ev1 c2) h1 mm_kl0 (by decide)
    refine lv_lload_n hx hb dX12_common__6 rfl (lv_at hl 0 rfl) ?_
    refine lv_goto (tgt := 17) hx hb dX12_common__7 (by decide) ?_
    subst hAe
    rw [hQ]
    exact W.lret (v := j_0) hx hb hr (fun t ht hW => ⟨⟨j_0, (), rfl, h0, by rw [ht]; exact hP, hK.warm hW, hD⟩, hS.F ht⟩) hS.2.2 dX12_common__17

set_option maxHeartbeats 4000000 in
set_option maxRecDepth 100000 in
theorem M271_X12_common_ (l : Launch) (G : va_G) (cy : Nat → ClassId) (sz : Nat) (j_0 : Int64) (j_1 : Int64) (h0 : mm_rl j_0 1 8191) (h1 : mm_rl j_1 0 8190) (h2 : (j_1 : Int64).toInt < (j_0 : Int64).toInt)  : mm_CL l yX12_common_ (mm_ws yX12_common_ cX12_common_ 4 (some .long)) ({ frames := 24, cells := 0, slots := 0, locals := 552 } : Room) G cy sz [] [.long j_0, .long j_1] (fun u : Unit => []) (fun (r : Int64) (u : Unit) => mm_rl r 1 4611686018427387904) 0 0 := by
  refine mm_begin (lv := [(0, .long j_0), (2, .long j_1)]) (by decide) (Nat.le_of_ble_eq_true rfl) rfl ?_
  intro p e s m below meth c A ls R args Q H locs hRe hQ hAe hx hb hr hlocks hml hown hnm hts hsz hA hS hP hK hD hZ hl
  have hRf : R.frames = 24 := by rw [hRe]
  have hRl : R.locals = 552 := by rw [hRe]
  have hRc : R.cells = 0 := by rw [hRe]
  have hRs : R.slots = 0 := by rw [hRe]
  refine lv_lload_n hx hb dX12_common__0 rfl (lv_at hl 1 rfl) ?_
  refine lv_lconst (v := 0) hx hb dX12_common__1 (by decide) ?_
  refine W.lcmp hx hb dX12_common__2 ?_
  refine lv_topi (fun v1 ev1 => ?_)
  refine lv_if_ne (tgt := 10) hx hb dX12_common__3 (by decide) (fun c2 => ?_) (fun c2 => ?_)
  · have q3 := mm_neLl (lo := 1) (mm_cmp_ne ev1 c2) h1 mm_kl0 (by decide) (by decide)
    refine lv_lload_n hx hb dX12_common__10 rfl (lv_at hl 1 rfl) ?_
    refine lv_lload_n hx hb dX12_common__11 rfl (lv_at hl 0 rfl) ?_
    refine lv_lload_n hx hb dX12_common__12 rfl (lv_at hl 1 rfl) ?_
    refine lv_lrem hx hb dX12_common__13 (mm_nzl q3 (by decide)) ?_
    refine lv_topl (fun v4 ev4 => ?_)
    have rv4 : mm_rl v4 0 8189 := mm_reml ev4 h0 q3 (by decide) (by decide)
    have w5 := mm_remlLt ev4 h0 q3 (by decide)
    have q6 : mm_rl v4 0 4095 := mm_remlHalf ev4 (Int.le_of_lt h2) h0 q3 (by decide)
    refine mm_finlr (va_runS (As := [.long j_1, .long v4]) (rest := []) ⟨hx, hb, hml, hown, hts⟩ (M270_X12_common_ l G cy H.size j_1 v4 (mm_wkl q3 (by decide)) q6) (va_cwS 2 hts (mm_gS mm_w1043 mm_w1044 mm_w5 mm_w1045) rfl rfl rfl hs_X12_common_ ⟨by rw [hRf]; exact Nat.le_of_ble_eq_true rfl, by rw [hRl]; exact Nat.le_of_ble_eq_true rfl⟩) (mm_preS hK hZ hS hA hP hD [] rfl rfl) rfl rfl hl.1 rfl (lv_room (Nat.le_of_ble_eq_true rfl)) dX12_common__14 ⟨by rw [hRc]; exact Nat.le_of_ble_eq_true rfl, by rw [hRs]; exact Nat.le_of_ble_eq_true rfl⟩) hP hD hS hA [] rfl (fun _ => rfl) ?_
    clear hP hD hS
    clear H locs
    intro v7 _u H locs hw hP hD hS
    have w8 := hw
    subst hAe
    rw [hQ]
    exact W.lret (v := v7) hx hb hr (fun t ht hW => ⟨⟨v7, (), rfl, w8, by rw [ht]; exact hP, hK.warm hW, hD⟩, hS.F ht⟩) hS.2.2 dX12_common__17
  · have q9 := mm_eqIl (lo := 0) (hi := 0) (mm_cmp_eq ev1 c2) h1 mm_kl0 (by decide)
    refine lv_lload_n hx hb dX12_common__6 rfl (lv_at hl 0 rfl) ?_
    refine lv_goto (tgt := 17) hx hb dX12_common__7 (by decide) ?_
    subst hAe
    rw [hQ]
    exact W.lret (v := j_0) hx hb hr (fun t ht hW => ⟨⟨j_0, (), rfl, (mm_wkl h0 (by decide)), by rw [ht]; exact hP, hK.warm hW, hD⟩, hS.F ht⟩) hS.2.2 dX12_common__17

set_option maxHeartbeats 4000000 in
set_option maxRecDepth 100000 in
theorem M272_X12_common_ (l : Launch) (G : va_G) (cy : Nat → ClassId) (sz : Nat) (j_0 : Int64) (j_1 : Int64) (h0 : mm_rl j_0 1 4611686018427387904) (h1 : mm_rl j_1 0 8191)  : mm_CL l yX12_common_ (mm_ws yX12_common_ cX12_common_ 4 (some .long)) ({ frames := 25, cells := 0, slots := 0, locals := 575 } : Room) G cy sz [] [.long j_0, .long j_1] (fun u : Unit => []) (fun (r : Int64) (u : Unit) => mm_rl r 1 4611686018427387904) 0 0 := by
  refine mm_begin (lv := [(0, .long j_0), (2, .long j_1)]) (by decide) (Nat.le_of_ble_eq_true rfl) rfl ?_
  intro p e s m below meth c A ls R args Q H locs hRe hQ hAe hx hb hr hlocks hml hown hnm hts hsz hA hS hP hK hD hZ hl
  have hRf : R.frames = 25 := by rw [hRe]
  have hRl : R.locals = 575 := by rw [hRe]
  have hRc : R.cells = 0 := by rw [hRe]
  have hRs : R.slots = 0 := by rw [hRe]
  refine lv_lload_n hx hb dX12_common__0 rfl (lv_at hl 1 rfl) ?_
  refine lv_lconst (v := 0) hx hb dX12_common__1 (by decide) ?_
  refine W.lcmp hx hb dX12_common__2 ?_
  refine lv_topi (fun v1 ev1 => ?_)
  refine lv_if_ne (tgt := 10) hx hb dX12_common__3 (by decide) (fun c2 => ?_) (fun c2 => ?_)
  · have q3 := mm_neLl (lo := 1) (mm_cmp_ne ev1 c2) h1 mm_kl0 (by decide) (by decide)
    refine lv_lload_n hx hb dX12_common__10 rfl (lv_at hl 1 rfl) ?_
    refine lv_lload_n hx hb dX12_common__11 rfl (lv_at hl 0 rfl) ?_
    refine lv_lload_n hx hb dX12_common__12 rfl (lv_at hl 1 rfl) ?_
    refine lv_lrem hx hb dX12_common__13 (mm_nzl q3 (by decide)) ?_
    refine lv_topl (fun v4 ev4 => ?_)
    have rv4 : mm_rl v4 0 8190 := mm_reml ev4 h0 q3 (by decide) (by decide)
    have w5 := mm_remlLt ev4 h0 q3 (by decide)
    refine mm_finlr (va_runS (As := [.long j_1, .long v4]) (rest := []) ⟨hx, hb, hml, hown, hts⟩ (M271_X12_common_ l G cy H.size j_1 v4 q3 rv4 w5) (va_cwS 2 hts (mm_gS mm_w1043 mm_w1044 mm_w5 mm_w1045) rfl rfl rfl hs_X12_common_ ⟨by rw [hRf]; exact Nat.le_of_ble_eq_true rfl, by rw [hRl]; exact Nat.le_of_ble_eq_true rfl⟩) (mm_preS hK hZ hS hA hP hD [] rfl rfl) rfl rfl hl.1 rfl (lv_room (Nat.le_of_ble_eq_true rfl)) dX12_common__14 ⟨by rw [hRc]; exact Nat.le_of_ble_eq_true rfl, by rw [hRs]; exact Nat.le_of_ble_eq_true rfl⟩) hP hD hS hA [] rfl (fun _ => rfl) ?_
    clear hP hD hS
    clear H locs
    intro v6 _u H locs hw hP hD hS
    have w7 := hw
    subst hAe
    rw [hQ]
    exact W.lret (v := v6) hx hb hr (fun t ht hW => ⟨⟨v6, (), rfl, w7, by rw [ht]; exact hP, hK.warm hW, hD⟩, hS.F ht⟩) hS.2.2 dX12_common__17
  · have q8 := mm_eqIl (lo := 0) (hi := 0) (mm_cmp_eq ev1 c2) h1 mm_kl0 (by decide)
    refine lv_lload_n hx hb dX12_common__6 rfl (lv_at hl 0 rfl) ?_
    refine lv_goto (tgt := 17) hx hb dX12_common__7 (by decide) ?_
    subst hAe
    rw [hQ]
    exact W.lret (v := j_0) hx hb hr (fun t ht hW => ⟨⟨j_0, (), rfl, h0, by rw [ht]; exact hP, hK.warm hW, hD⟩, hS.F ht⟩) hS.2.2 dX12_common__17

set_option maxHeartbeats 4000000 in
set_option maxRecDepth 100000 in
theorem M273_X12_common_ (l : Launch) (G : va_G) (cy : Nat → ClassId) (sz : Nat) (j_0 : Int64) (j_1 : Int64) (h0 : mm_rl j_0 1 16383) (h1 : mm_rl j_1 0 16382) (h2 : (j_1 : Int64).toInt < (j_0 : Int64).toInt)  : mm_CL l yX12_common_ (mm_ws yX12_common_ cX12_common_ 4 (some .long)) ({ frames := 26, cells := 0, slots := 0, locals := 598 } : Room) G cy sz [] [.long j_0, .long j_1] (fun u : Unit => []) (fun (r : Int64) (u : Unit) => mm_rl r 1 4611686018427387904) 0 0 := by
  refine mm_begin (lv := [(0, .long j_0), (2, .long j_1)]) (by decide) (Nat.le_of_ble_eq_true rfl) rfl ?_
  intro p e s m below meth c A ls R args Q H locs hRe hQ hAe hx hb hr hlocks hml hown hnm hts hsz hA hS hP hK hD hZ hl
  have hRf : R.frames = 26 := by rw [hRe]
  have hRl : R.locals = 598 := by rw [hRe]
  have hRc : R.cells = 0 := by rw [hRe]
  have hRs : R.slots = 0 := by rw [hRe]
  refine lv_lload_n hx hb dX12_common__0 rfl (lv_at hl 1 rfl) ?_
  refine lv_lconst (v := 0) hx hb dX12_common__1 (by decide) ?_
  refine W.lcmp hx hb dX12_common__2 ?_
  refine lv_topi (fun v1 ev1 => ?_)
  refine lv_if_ne (tgt := 10) hx hb dX12_common__3 (by decide) (fun c2 => ?_) (fun c2 => ?_)
  · have q3 := mm_neLl (lo := 1) (mm_cmp_ne ev1 c2) h1 mm_kl0 (by decide) (by decide)
    refine lv_lload_n hx hb dX12_common__10 rfl (lv_at hl 1 rfl) ?_
    refine lv_lload_n hx hb dX12_common__11 rfl (lv_at hl 0 rfl) ?_
    refine lv_lload_n hx hb dX12_common__12 rfl (lv_at hl 1 rfl) ?_
    refine lv_lrem hx hb dX12_common__13 (mm_nzl q3 (by decide)) ?_
    refine lv_topl (fun v4 ev4 => ?_)
    have rv4 : mm_rl v4 0 16381 := mm_reml ev4 h0 q3 (by decide) (by decide)
    have w5 := mm_remlLt ev4 h0 q3 (by decide)
    have q6 : mm_rl v4 0 8191 := mm_remlHalf ev4 (Int.le_of_lt h2) h0 q3 (by decide)
    refine mm_finlr (va_runS (As := [.long j_1, .long v4]) (rest := []) ⟨hx, hb, hml, hown, hts⟩ (M272_X12_common_ l G cy H.size j_1 v4 (mm_wkl q3 (by decide)) q6) (va_cwS 2 hts (mm_gS mm_w1043 mm_w1044 mm_w5 mm_w1045) rfl rfl rfl hs_X12_common_ ⟨by rw [hRf]; exact Nat.le_of_ble_eq_true rfl, by rw [hRl]; exact Nat.le_of_ble_eq_true rfl⟩) (mm_preS hK hZ hS hA hP hD [] rfl rfl) rfl rfl hl.1 rfl (lv_room (Nat.le_of_ble_eq_true rfl)) dX12_common__14 ⟨by rw [hRc]; exact Nat.le_of_ble_eq_true rfl, by rw [hRs]; exact Nat.le_of_ble_eq_true rfl⟩) hP hD hS hA [] rfl (fun _ => rfl) ?_
    clear hP hD hS
    clear H locs
    intro v7 _u H locs hw hP hD hS
    have w8 := hw
    subst hAe
    rw [hQ]
    exact W.lret (v := v7) hx hb hr (fun t ht hW => ⟨⟨v7, (), rfl, w8, by rw [ht]; exact hP, hK.warm hW, hD⟩, hS.F ht⟩) hS.2.2 dX12_common__17
  · have q9 := mm_eqIl (lo := 0) (hi := 0) (mm_cmp_eq ev1 c2) h1 mm_kl0 (by decide)
    refine lv_lload_n hx hb dX12_common__6 rfl (lv_at hl 0 rfl) ?_
    refine lv_goto (tgt := 17) hx hb dX12_common__7 (by decide) ?_
    subst hAe
    rw [hQ]
    exact W.lret (v := j_0) hx hb hr (fun t ht hW => ⟨⟨j_0, (), rfl, (mm_wkl h0 (by decide)), by rw [ht]; exact hP, hK.warm hW, hD⟩, hS.F ht⟩) hS.2.2 dX12_common__17

set_option maxHeartbeats 4000000 in
set_option maxRecDepth 100000 in
theorem M274_X12_common_ (l : Launch) (G : va_G) (cy : Nat → ClassId) (sz : Nat) (j_0 : Int64) (j_1 : Int64) (h0 : mm_rl j_0 1 4611686018427387904) (h1 : mm_rl j_1 0 16383)  : mm_CL l yX12_common_ (mm_ws yX12_common_ cX12_common_ 4 (some .long)) ({ frames := 27, cells := 0, slots := 0, locals := 621 } : Room) G cy sz [] [.long j_0, .long j_1] (fun u : Unit => []) (fun (r : Int64) (u : Unit) => mm_rl r 1 4611686018427387904) 0 0 := by
  refine mm_begin (lv := [(0, .long j_0), (2, .long j_1)]) (by decide) (Nat.le_of_ble_eq_true rfl) rfl ?_
  intro p e s m below meth c A ls R args Q H locs hRe hQ hAe hx hb hr hlocks hml hown hnm hts hsz hA hS hP hK hD hZ hl
  have hRf : R.frames = 27 := by rw [hRe]
  have hRl : R.locals = 621 := by rw [hRe]
  have hRc : R.cells = 0 := by rw [hRe]
  have hRs : R.slots = 0 := by rw [hRe]
  refine lv_lload_n hx hb dX12_common__0 rfl (lv_at hl 1 rfl) ?_
  refine lv_lconst (v := 0) hx hb dX12_common__1 (by decide) ?_
  refine W.lcmp hx hb dX12_common__2 ?_
  refine lv_topi (fun v1 ev1 => ?_)
  refine lv_if_ne (tgt := 10) hx hb dX12_common__3 (by decide) (fun c2 => ?_) (fun c2 => ?_)
  · have q3 := mm_neLl (lo := 1) (mm_cmp_ne ev1 c2) h1 mm_kl0 (by decide) (by decide)
    refine lv_lload_n hx hb dX12_common__10 rfl (lv_at hl 1 rfl) ?_
    refine lv_lload_n hx hb dX12_common__11 rfl (lv_at hl 0 rfl) ?_
    refine lv_lload_n hx hb dX12_common__12 rfl (lv_at hl 1 rfl) ?_
    refine lv_lrem hx hb dX12_common__13 (mm_nzl q3 (by decide)) ?_
    refine lv_topl (fun v4 ev4 => ?_)
    have rv4 : mm_rl v4 0 16382 := mm_reml ev4 h0 q3 (by decide) (by decide)
    have w5 := mm_remlLt ev4 h0 q3 (by decide)
    refine mm_finlr (va_runS (As := [.long j_1, .long v4]) (rest := []) ⟨hx, hb, hml, hown, hts⟩ (M273_X12_common_ l G cy H.size j_1 v4 q3 rv4 w5) (va_cwS 2 hts (mm_gS mm_w1043 mm_w1044 mm_w5 mm_w1045) rfl rfl rfl hs_X12_common_ ⟨by rw [hRf]; exact Nat.le_of_ble_eq_true rfl, by rw [hRl]; exact Nat.le_of_ble_eq_true rfl⟩) (mm_preS hK hZ hS hA hP hD [] rfl rfl) rfl rfl hl.1 rfl (lv_room (Nat.le_of_ble_eq_true rfl)) dX12_common__14 ⟨by rw [hRc]; exact Nat.le_of_ble_eq_true rfl, by rw [hRs]; exact Nat.le_of_ble_eq_true rfl⟩) hP hD hS hA [] rfl (fun _ => rfl) ?_
    clear hP hD hS
    clear H locs
    intro v6 _u H locs hw hP hD hS
    have w7 := hw
    subst hAe
    rw [hQ]
    exact W.lret (v := v6) hx hb hr (fun t ht hW => ⟨⟨v6, (), rfl, w7, by rw [ht]; exact hP, hK.warm hW, hD⟩, hS.F ht⟩) hS.2.2 dX12_common__17
  · have q8 := mm_eqIl (lo := 0) (hi := 0) (mm_cmp_eq ev1 c2) h1 mm_kl0 (by decide)
    refine lv_lload_n hx hb dX12_common__6 rfl (lv_at hl 0 rfl) ?_
    refine lv_goto (tgt := 17) hx hb dX12_common__7 (by decide) ?_
    subst hAe
    rw [hQ]
    exact W.lret (v := j_0) hx hb hr (fun t ht hW => ⟨⟨j_0, (), rfl, h0, by rw [ht]; exact hP, hK.warm hW, hD⟩, hS.F ht⟩) hS.2.2 dX12_common__17

set_option maxHeartbeats 4000000 in
set_option maxRecDepth 100000 in
theorem M275_X12_common_ (l : Launch) (G : va_G) (cy : Nat → ClassId) (sz : Nat) (j_0 : Int64) (j_1 : Int64) (h0 : mm_rl j_0 1 32767) (h1 : mm_rl j_1 0 32766) (h2 : (j_1 : Int64).toInt < (j_0 : Int64).toInt)  : mm_CL l yX12_common_ (mm_ws yX12_common_ cX12_common_ 4 (some .long)) ({ frames := 28, cells := 0, slots := 0, locals := 644 } : Room) G cy sz [] [.long j_0, .long j_1] (fun u : Unit => []) (fun (r : Int64) (u : Unit) => mm_rl r 1 4611686018427387904) 0 0 := by
  refine mm_begin (lv := [(0, .long j_0), (2, .long j_1)]) (by decide) (Nat.le_of_ble_eq_true rfl) rfl ?_
  intro p e s m below meth c A ls R args Q H locs hRe hQ hAe hx hb hr hlocks hml hown hnm hts hsz hA hS hP hK hD hZ hl
  have hRf : R.frames = 28 := by rw [hRe]
  have hRl : R.locals = 644 := by rw [hRe]
  have hRc : R.cells = 0 := by rw [hRe]
  have hRs : R.slots = 0 := by rw [hRe]
  refine lv_lload_n hx hb dX12_common__0 rfl (lv_at hl 1 rfl) ?_
  refine lv_lconst (v := 0) hx hb dX12_common__1 (by decide) ?_
  refine W.lcmp hx hb dX12_common__2 ?_
  refine lv_topi (fun v1 ev1 => ?_)
  refine lv_if_ne (tgt := 10) hx hb dX12_common__3 (by decide) (fun c2 => ?_) (fun c2 => ?_)
  · have q3 := mm_neLl (lo := 1) (mm_cmp_ne ev1 c2) h1 mm_kl0 (by decide) (by decide)
    refine lv_lload_n hx hb dX12_common__10 rfl (lv_at hl 1 rfl) ?_
    refine lv_lload_n hx hb dX12_common__11 rfl (lv_at hl 0 rfl) ?_
    refine lv_lload_n hx hb dX12_common__12 rfl (lv_at hl 1 rfl) ?_
    refine lv_lrem hx hb dX12_common__13 (mm_nzl q3 (by decide)) ?_
    refine lv_topl (fun v4 ev4 => ?_)
    have rv4 : mm_rl v4 0 32765 := mm_reml ev4 h0 q3 (by decide) (by decide)
    have w5 := mm_remlLt ev4 h0 q3 (by decide)
    have q6 : mm_rl v4 0 16383 := mm_remlHalf ev4 (Int.le_of_lt h2) h0 q3 (by decide)
    refine mm_finlr (va_runS (As := [.long j_1, .long v4]) (rest := []) ⟨hx, hb, hml, hown, hts⟩ (M274_X12_common_ l G cy H.size j_1 v4 (mm_wkl q3 (by decide)) q6) (va_cwS 2 hts (mm_gS mm_w1043 mm_w1044 mm_w5 mm_w1045) rfl rfl rfl hs_X12_common_ ⟨by rw [hRf]; exact Nat.le_of_ble_eq_true rfl, by rw [hRl]; exact Nat.le_of_ble_eq_true rfl⟩) (mm_preS hK hZ hS hA hP hD [] rfl rfl) rfl rfl hl.1 rfl (lv_room (Nat.le_of_ble_eq_true rfl)) dX12_common__14 ⟨by rw [hRc]; exact Nat.le_of_ble_eq_true rfl, by rw [hRs]; exact Nat.le_of_ble_eq_true rfl⟩) hP hD hS hA [] rfl (fun _ => rfl) ?_
    clear hP hD hS
    clear H locs
    intro v7 _u H locs hw hP hD hS
    have w8 := hw
    subst hAe
    rw [hQ]
    exact W.lret (v := v7) hx hb hr (fun t ht hW => ⟨⟨v7, (), rfl, w8, by rw [ht]; exact hP, hK.warm hW, hD⟩, hS.F ht⟩) hS.2.2 dX12_common__17
  · have q9 := mm_eqIl (lo := 0) (hi := 0) (mm_cmp_eq ev1 c2) h1 mm_kl0 (by decide)
    refine lv_lload_n hx hb dX12_common__6 rfl (lv_at hl 0 rfl) ?_
    refine lv_goto (tgt := 17) hx hb dX12_common__7 (by decide) ?_
    subst hAe
    rw [hQ]
    exact W.lret (v := j_0) hx hb hr (fun t ht hW => ⟨⟨j_0, (), rfl, (mm_wkl h0 (by decide)), by rw [ht]; exact hP, hK.warm hW, hD⟩, hS.F ht⟩) hS.2.2 dX12_common__17

set_option maxHeartbeats 4000000 in
set_option maxRecDepth 100000 in
theorem M276_X12_common_ (l : Launch) (G : va_G) (cy : Nat → ClassId) (sz : Nat) (j_0 : Int64) (j_1 : Int64) (h0 : mm_rl j_0 1 4611686018427387904) (h1 : mm_rl j_1 0 32767)  : mm_CL l yX12_common_ (mm_ws yX12_common_ cX12_common_ 4 (some .long)) ({ frames := 29, cells := 0, slots := 0, locals := 667 } : Room) G cy sz [] [.long j_0, .long j_1] (fun u : Unit => []) (fun (r : Int64) (u : Unit) => mm_rl r 1 4611686018427387904) 0 0 := by
  refine mm_begin (lv := [(0, .long j_0), (2, .long j_1)]) (by decide) (Nat.le_of_ble_eq_true rfl) rfl ?_
  intro p e s m below meth c A ls R args Q H locs hRe hQ hAe hx hb hr hlocks hml hown hnm hts hsz hA hS hP hK hD hZ hl
  have hRf : R.frames = 29 := by rw [hRe]
  have hRl : R.locals = 667 := by rw [hRe]
  have hRc : R.cells = 0 := by rw [hRe]
  have hRs : R.slots = 0 := by rw [hRe]
  refine lv_lload_n hx hb dX12_common__0 rfl (lv_at hl 1 rfl) ?_
  refine lv_lconst (v := 0) hx hb dX12_common__1 (by decide) ?_
  refine W.lcmp hx hb dX12_common__2 ?_
  refine lv_topi (fun v1 ev1 => ?_)
  refine lv_if_ne (tgt := 10) hx hb dX12_common__3 (by decide) (fun c2 => ?_) (fun c2 => ?_)
  · have q3 := mm_neLl (lo := 1) (mm_cmp_ne ev1 c2) h1 mm_kl0 (by decide) (by decide)
    refine lv_lload_n hx hb dX12_common__10 rfl (lv_at hl 1 rfl) ?_
    refine lv_lload_n hx hb dX12_common__11 rfl (lv_at hl 0 rfl) ?_
    refine lv_lload_n hx hb dX12_common__12 rfl (lv_at hl 1 rfl) ?_
    refine lv_lrem hx hb dX12_common__13 (mm_nzl q3 (by decide)) ?_
    refine lv_topl (fun v4 ev4 => ?_)
    have rv4 : mm_rl v4 0 32766 := mm_reml ev4 h0 q3 (by decide) (by decide)
    have w5 := mm_remlLt ev4 h0 q3 (by decide)
    refine mm_finlr (va_runS (As := [.long j_1, .long v4]) (rest := []) ⟨hx, hb, hml, hown, hts⟩ (M275_X12_common_ l G cy H.size j_1 v4 q3 rv4 w5) (va_cwS 2 hts (mm_gS mm_w1043 mm_w1044 mm_w5 mm_w1045) rfl rfl rfl hs_X12_common_ ⟨by rw [hRf]; exact Nat.le_of_ble_eq_true rfl, by rw [hRl]; exact Nat.le_of_ble_eq_true rfl⟩) (mm_preS hK hZ hS hA hP hD [] rfl rfl) rfl rfl hl.1 rfl (lv_room (Nat.le_of_ble_eq_true rfl)) dX12_common__14 ⟨by rw [hRc]; exact Nat.le_of_ble_eq_true rfl, by rw [hRs]; exact Nat.le_of_ble_eq_true rfl⟩) hP hD hS hA [] rfl (fun _ => rfl) ?_
    clear hP hD hS
    clear H locs
    intro v6 _u H locs hw hP hD hS
    have w7 := hw
    subst hAe
    rw [hQ]
    exact W.lret (v := v6) hx hb hr (fun t ht hW => ⟨⟨v6, (), rfl, w7, by rw [ht]; exact hP, hK.warm hW, hD⟩, hS.F ht⟩) hS.2.2 dX12_common__17
  · have q8 := mm_eqIl (lo := 0) (hi := 0) (mm_cmp_eq ev1 c2) h1 mm_kl0 (by decide)
    refine lv_lload_n hx hb dX12_common__6 rfl (lv_at hl 0 rfl) ?_
    refine lv_goto (tgt := 17) hx hb dX12_common__7 (by decide) ?_
    subst hAe
    rw [hQ]
    exact W.lret (v := j_0) hx hb hr (fun t ht hW => ⟨⟨j_0, (), rfl, h0, by rw [ht]; exact hP, hK.warm hW, hD⟩, hS.F ht⟩) hS.2.2 dX12_common__17

set_option maxHeartbeats 4000000 in
set_option maxRecDepth 100000 in
theorem M277_X12_common_ (l : Launch) (G : va_G) (cy : Nat → ClassId) (sz : Nat) (j_0 : Int64) (j_1 : Int64) (h0 : mm_rl j_0 1 65535) (h1 : mm_rl j_1 0 65534) (h2 : (j_1 : Int64).toInt < (j_0 : Int64).toInt)  : mm_CL l yX12_common_ (mm_ws yX12_common_ cX12_common_ 4 (some .long)) ({ frames := 30, cells := 0, slots := 0, locals := 690 } : Room) G cy sz [] [.long j_0, .long j_1] (fun u : Unit => []) (fun (r : Int64) (u : Unit) => mm_rl r 1 4611686018427387904) 0 0 := by
  refine mm_begin (lv := [(0, .long j_0), (2, .long j_1)]) (by decide) (Nat.le_of_ble_eq_true rfl) rfl ?_
  intro p e s m below meth c A ls R args Q H locs hRe hQ hAe hx hb hr hlocks hml hown hnm hts hsz hA hS hP hK hD hZ hl
  have hRf : R.frames = 30 := by rw [hRe]
  have hRl : R.locals = 690 := by rw [hRe]
  have hRc : R.cells = 0 := by rw [hRe]
  have hRs : R.slots = 0 := by rw [hRe]
  refine lv_lload_n hx hb dX12_common__0 rfl (lv_at hl 1 rfl) ?_
  refine lv_lconst (v := 0) hx hb dX12_common__1 (by decide) ?_
  refine W.lcmp hx hb dX12_common__2 ?_
  refine lv_topi (fun v1 ev1 => ?_)
  refine lv_if_ne (tgt := 10) hx hb dX12_common__3 (by decide) (fun c2 => ?_) (fun c2 => ?_)
  · have q3 := mm_neLl (lo := 1) (mm_cmp_ne ev1 c2) h1 mm_kl0 (by decide) (by decide)
    refine lv_lload_n hx hb dX12_common__10 rfl (lv_at hl 1 rfl) ?_
    refine lv_lload_n hx hb dX12_common__11 rfl (lv_at hl 0 rfl) ?_
    refine lv_lload_n hx hb dX12_common__12 rfl (lv_at hl 1 rfl) ?_
    refine lv_lrem hx hb dX12_common__13 (mm_nzl q3 (by decide)) ?_
    refine lv_topl (fun v4 ev4 => ?_)
    have rv4 : mm_rl v4 0 65533 := mm_reml ev4 h0 q3 (by decide) (by decide)
    have w5 := mm_remlLt ev4 h0 q3 (by decide)
    have q6 : mm_rl v4 0 32767 := mm_remlHalf ev4 (Int.le_of_lt h2) h0 q3 (by decide)
    refine mm_finlr (va_runS (As := [.long j_1, .long v4]) (rest := []) ⟨hx, hb, hml, hown, hts⟩ (M276_X12_common_ l G cy H.size j_1 v4 (mm_wkl q3 (by decide)) q6) (va_cwS 2 hts (mm_gS mm_w1043 mm_w1044 mm_w5 mm_w1045) rfl rfl rfl hs_X12_common_ ⟨by rw [hRf]; exact Nat.le_of_ble_eq_true rfl, by rw [hRl]; exact Nat.le_of_ble_eq_true rfl⟩) (mm_preS hK hZ hS hA hP hD [] rfl rfl) rfl rfl hl.1 rfl (lv_room (Nat.le_of_ble_eq_true rfl)) dX12_common__14 ⟨by rw [hRc]; exact Nat.le_of_ble_eq_true rfl, by rw [hRs]; exact Nat.le_of_ble_eq_true rfl⟩) hP hD hS hA [] rfl (fun _ => rfl) ?_
    clear hP hD hS
    clear H locs
    intro v7 _u H locs hw hP hD hS
    have w8 := hw
    subst hAe
    rw [hQ]
    exact W.lret (v := v7) hx hb hr (fun t ht hW => ⟨⟨v7, (), rfl, w8, by rw [ht]; exact hP, hK.warm hW, hD⟩, hS.F ht⟩) hS.2.2 dX12_common__17
  · have q9 := mm_eqIl (lo := 0) (hi := 0) (mm_cmp_eq ev1 c2) h1 mm_kl0 (by decide)
    refine lv_lload_n hx hb dX12_common__6 rfl (lv_at hl 0 rfl) ?_
    refine lv_goto (tgt := 17) hx hb dX12_common__7 (by decide) ?_
    subst hAe
    rw [hQ]
    exact W.lret (v := j_0) hx hb hr (fun t ht hW => ⟨⟨j_0, (), rfl, (mm_wkl h0 (by decide)), by rw [ht]; exact hP, hK.warm hW, hD⟩, hS.F ht⟩) hS.2.2 dX12_common__17

set_option maxHeartbeats 4000000 in
set_option maxRecDepth 100000 in
theorem M278_X12_common_ (l : Launch) (G : va_G) (cy : Nat → ClassId) (sz : Nat) (j_0 : Int64) (j_1 : Int64) (h0 : mm_rl j_0 1 4611686018427387904) (h1 : mm_rl j_1 0 65535)  : mm_CL l yX12_common_ (mm_ws yX12_common_ cX12_common_ 4 (some .long)) ({ frames := 31, cells := 0, slots := 0, locals := 713 } : Room) G cy sz [] [.long j_0, .long j_1] (fun u : Unit => []) (fun (r : Int64) (u : Unit) => mm_rl r 1 4611686018427387904) 0 0 := by
  refine mm_begin (lv := [(0, .long j_0), (2, .long j_1)]) (by decide) (Nat.le_of_ble_eq_true rfl) rfl ?_
  intro p e s m below meth c A ls R args Q H locs hRe hQ hAe hx hb hr hlocks hml hown hnm hts hsz hA hS hP hK hD hZ hl
  have hRf : R.frames = 31 := by rw [hRe]
  have hRl : R.locals = 713 := by rw [hRe]
  have hRc : R.cells = 0 := by rw [hRe]
  have hRs : R.slots = 0 := by rw [hRe]
  refine lv_lload_n hx hb dX12_common__0 rfl (lv_at hl 1 rfl) ?_
  refine lv_lconst (v := 0) hx hb dX12_common__1 (by decide) ?_
  refine W.lcmp hx hb dX12_common__2 ?_
  refine lv_topi (fun v1 ev1 => ?_)
  refine lv_if_ne (tgt := 10) hx hb dX12_common__3 (by decide) (fun c2 => ?_) (fun c2 => ?_)
  · have q3 := mm_neLl (lo := 1) (mm_cmp_ne ev1 c2) h1 mm_kl0 (by decide) (by decide)
    refine lv_lload_n hx hb dX12_common__10 rfl (lv_at hl 1 rfl) ?_
    refine lv_lload_n hx hb dX12_common__11 rfl (lv_at hl 0 rfl) ?_
    refine lv_lload_n hx hb dX12_common__12 rfl (lv_at hl 1 rfl) ?_
    refine lv_lrem hx hb dX12_common__13 (mm_nzl q3 (by decide)) ?_
    refine lv_topl (fun v4 ev4 => ?_)
    have rv4 : mm_rl v4 0 65534 := mm_reml ev4 h0 q3 (by decide) (by decide)
    have w5 := mm_remlLt ev4 h0 q3 (by decide)
    refine mm_finlr (va_runS (As := [.long j_1, .long v4]) (rest := []) ⟨hx, hb, hml, hown, hts⟩ (M277_X12_common_ l G cy H.size j_1 v4 q3 rv4 w5) (va_cwS 2 hts (mm_gS mm_w1043 mm_w1044 mm_w5 mm_w1045) rfl rfl rfl hs_X12_common_ ⟨by rw [hRf]; exact Nat.le_of_ble_eq_true rfl, by rw [hRl]; exact Nat.le_of_ble_eq_true rfl⟩) (mm_preS hK hZ hS hA hP hD [] rfl rfl) rfl rfl hl.1 rfl (lv_room (Nat.le_of_ble_eq_true rfl)) dX12_common__14 ⟨by rw [hRc]; exact Nat.le_of_ble_eq_true rfl, by rw [hRs]; exact Nat.le_of_ble_eq_true rfl⟩) hP hD hS hA [] rfl (fun _ => rfl) ?_
    clear hP hD hS
    clear H locs
    intro v6 _u H locs hw hP hD hS
    have w7 := hw
    subst hAe
    rw [hQ]
    exact W.lret (v := v6) hx hb hr (fun t ht hW => ⟨⟨v6, (), rfl, w7, by rw [ht]; exact hP, hK.warm hW, hD⟩, hS.F ht⟩) hS.2.2 dX12_common__17
  · have q8 := mm_eqIl (lo := 0) (hi := 0) (mm_cmp_eq ev1 c2) h1 mm_kl0 (by decide)
    refine lv_lload_n hx hb dX12_common__6 rfl (lv_at hl 0 rfl) ?_
    refine lv_goto (tgt := 17) hx hb dX12_common__7 (by decide) ?_
    subst hAe
    rw [hQ]
    exact W.lret (v := j_0) hx hb hr (fun t ht hW => ⟨⟨j_0, (), rfl, h0, by rw [ht]; exact hP, hK.warm hW, hD⟩, hS.F ht⟩) hS.2.2 dX12_common__17

set_option maxHeartbeats 4000000 in
set_option maxRecDepth 100000 in
theorem M279_X12_common_ (l : Launch) (G : va_G) (cy : Nat → ClassId) (sz : Nat) (j_0 : Int64) (j_1 : Int64) (h0 : mm_rl j_0 1 131071) (h1 : mm_rl j_1 0 131070) (h2 : (j_1 : Int64).toInt < (j_0 : Int64).toInt)  : mm_CL l yX12_common_ (mm_ws yX12_common_ cX12_common_ 4 (some .long)) ({ frames := 32, cells := 0, slots := 0, locals := 736 } : Room) G cy sz [] [.long j_0, .long j_1] (fun u : Unit => []) (fun (r : Int64) (u : Unit) => mm_rl r 1 4611686018427387904) 0 0 := by
  refine mm_begin (lv := [(0, .long j_0), (2, .long j_1)]) (by decide) (Nat.le_of_ble_eq_true rfl) rfl ?_
  intro p e s m below meth c A ls R args Q H locs hRe hQ hAe hx hb hr hlocks hml hown hnm hts hsz hA hS hP hK hD hZ hl
  have hRf : R.frames = 32 := by rw [hRe]
  have hRl : R.locals = 736 := by rw [hRe]
  have hRc : R.cells = 0 := by rw [hRe]
  have hRs : R.slots = 0 := by rw [hRe]
  refine lv_lload_n hx hb dX12_common__0 rfl (lv_at hl 1 rfl) ?_
  refine lv_lconst (v := 0) hx hb dX12_common__1 (by decide) ?_
  refine W.lcmp hx hb dX12_common__2 ?_
  refine lv_topi (fun v1 ev1 => ?_)
  refine lv_if_ne (tgt := 10) hx hb dX12_common__3 (by decide) (fun c2 => ?_) (fun c2 => ?_)
  · have q3 := mm_neLl (lo := 1) (mm_cmp_ne ev1 c2) h1 mm_kl0 (by decide) (by decide)
    refine lv_lload_n hx hb dX12_common__10 rfl (lv_at hl 1 rfl) ?_
    refine lv_lload_n hx hb dX12_common__11 rfl (lv_at hl 0 rfl) ?_
    refine lv_lload_n hx hb dX12_common__12 rfl (lv_at hl 1 rfl) ?_
    refine lv_lrem hx hb dX12_common__13 (mm_nzl q3 (by decide)) ?_
    refine lv_topl (fun v4 ev4 => ?_)
    have rv4 : mm_rl v4 0 131069 := mm_reml ev4 h0 q3 (by decide) (by decide)
    have w5 := mm_remlLt ev4 h0 q3 (by decide)
    have q6 : mm_rl v4 0 65535 := mm_remlHalf ev4 (Int.le_of_lt h2) h0 q3 (by decide)
    refine mm_finlr (va_runS (As := [.long j_1, .long v4]) (rest := []) ⟨hx, hb, hml, hown, hts⟩ (M278_X12_common_ l G cy H.size j_1 v4 (mm_wkl q3 (by decide)) q6) (va_cwS 2 hts (mm_gS mm_w1043 mm_w1044 mm_w5 mm_w1045) rfl rfl rfl hs_X12_common_ ⟨by rw [hRf]; exact Nat.le_of_ble_eq_true rfl, by rw [hRl]; exact Nat.le_of_ble_eq_true rfl⟩) (mm_preS hK hZ hS hA hP hD [] rfl rfl) rfl rfl hl.1 rfl (lv_room (Nat.le_of_ble_eq_true rfl)) dX12_common__14 ⟨by rw [hRc]; exact Nat.le_of_ble_eq_true rfl, by rw [hRs]; exact Nat.le_of_ble_eq_true rfl⟩) hP hD hS hA [] rfl (fun _ => rfl) ?_
    clear hP hD hS
    clear H locs
    intro v7 _u H locs hw hP hD hS
    have w8 := hw
    subst hAe
    rw [hQ]
    exact W.lret (v := v7) hx hb hr (fun t ht hW => ⟨⟨v7, (), rfl, w8, by rw [ht]; exact hP, hK.warm hW, hD⟩, hS.F ht⟩) hS.2.2 dX12_common__17
  · have q9 := mm_eqIl (lo := 0) (hi := 0) (mm_cmp_eq ev1 c2) h1 mm_kl0 (by decide)
    refine lv_lload_n hx hb dX12_common__6 rfl (lv_at hl 0 rfl) ?_
    refine lv_goto (tgt := 17) hx hb dX12_common__7 (by decide) ?_
    subst hAe
    rw [hQ]
    exact W.lret (v := j_0) hx hb hr (fun t ht hW => ⟨⟨j_0, (), rfl, (mm_wkl h0 (by decide)), by rw [ht]; exact hP, hK.warm hW, hD⟩, hS.F ht⟩) hS.2.2 dX12_common__17

set_option maxHeartbeats 4000000 in
set_option maxRecDepth 100000 in
theorem M280_X12_common_ (l : Launch) (G : va_G) (cy : Nat → ClassId) (sz : Nat) (j_0 : Int64) (j_1 : Int64) (h0 : mm_rl j_0 1 4611686018427387904) (h1 : mm_rl j_1 0 131071)  : mm_CL l yX12_common_ (mm_ws yX12_common_ cX12_common_ 4 (some .long)) ({ frames := 33, cells := 0, slots := 0, locals := 759 } : Room) G cy sz [] [.long j_0, .long j_1] (fun u : Unit => []) (fun (r : Int64) (u : Unit) => mm_rl r 1 4611686018427387904) 0 0 := by
  refine mm_begin (lv := [(0, .long j_0), (2, .long j_1)]) (by decide) (Nat.le_of_ble_eq_true rfl) rfl ?_
  intro p e s m below meth c A ls R args Q H locs hRe hQ hAe hx hb hr hlocks hml hown hnm hts hsz hA hS hP hK hD hZ hl
  have hRf : R.frames = 33 := by rw [hRe]
  have hRl : R.locals = 759 := by rw [hRe]
  have hRc : R.cells = 0 := by rw [hRe]
  have hRs : R.slots = 0 := by rw [hRe]
  refine lv_lload_n hx hb dX12_common__0 rfl (lv_at hl 1 rfl) ?_
  refine lv_lconst (v := 0) hx hb dX12_common__1 (by decide) ?_
  refine W.lcmp hx hb dX12_common__2 ?_
  refine lv_topi (fun v1 ev1 => ?_)
  refine lv_if_ne (tgt := 10) hx hb dX12_common__3 (by decide) (fun c2 => ?_) (fun c2 => ?_)
  · have q3 := mm_neLl (lo := 1) (mm_cmp_ne ev1 c2) h1 mm_kl0 (by decide) (by decide)
    refine lv_lload_n hx hb dX12_common__10 rfl (lv_at hl 1 rfl) ?_
    refine lv_lload_n hx hb dX12_common__11 rfl (lv_at hl 0 rfl) ?_
    refine lv_lload_n hx hb dX12_common__12 rfl (lv_at hl 1 rfl) ?_
    refine lv_lrem hx hb dX12_common__13 (mm_nzl q3 (by decide)) ?_
    refine lv_topl (fun v4 ev4 => ?_)
    have rv4 : mm_rl v4 0 131070 := mm_reml ev4 h0 q3 (by decide) (by decide)
    have w5 := mm_remlLt ev4 h0 q3 (by decide)
    refine mm_finlr (va_runS (As := [.long j_1, .long v4]) (rest := []) ⟨hx, hb, hml, hown, hts⟩ (M279_X12_common_ l G cy H.size j_1 v4 q3 rv4 w5) (va_cwS 2 hts (mm_gS mm_w1043 mm_w1044 mm_w5 mm_w1045) rfl rfl rfl hs_X12_common_ ⟨by rw [hRf]; exact Nat.le_of_ble_eq_true rfl, by rw [hRl]; exact Nat.le_of_ble_eq_true rfl⟩) (mm_preS hK hZ hS hA hP hD [] rfl rfl) rfl rfl hl.1 rfl (lv_room (Nat.le_of_ble_eq_true rfl)) dX12_common__14 ⟨by rw [hRc]; exact Nat.le_of_ble_eq_true rfl, by rw [hRs]; exact Nat.le_of_ble_eq_true rfl⟩) hP hD hS hA [] rfl (fun _ => rfl) ?_
    clear hP hD hS
    clear H locs
    intro v6 _u H locs hw hP hD hS
    have w7 := hw
    subst hAe
    rw [hQ]
    exact W.lret (v := v6) hx hb hr (fun t ht hW => ⟨⟨v6, (), rfl, w7, by rw [ht]; exact hP, hK.warm hW, hD⟩, hS.F ht⟩) hS.2.2 dX12_common__17
  · have q8 := mm_eqIl (lo := 0) (hi := 0) (mm_cmp_eq ev1 c2) h1 mm_kl0 (by decide)
    refine lv_lload_n hx hb dX12_common__6 rfl (lv_at hl 0 rfl) ?_
    refine lv_goto (tgt := 17) hx hb dX12_common__7 (by decide) ?_
    subst hAe
    rw [hQ]
    exact W.lret (v := j_0) hx hb hr (fun t ht hW => ⟨⟨j_0, (), rfl, h0, by rw [ht]; exact hP, hK.warm hW, hD⟩, hS.F ht⟩) hS.2.2 dX12_common__17

set_option maxHeartbeats 4000000 in
set_option maxRecDepth 100000 in
theorem M281_X12_common_ (l : Launch) (G : va_G) (cy : Nat → ClassId) (sz : Nat) (j_0 : Int64) (j_1 : Int64) (h0 : mm_rl j_0 1 262143) (h1 : mm_rl j_1 0 262142) (h2 : (j_1 : Int64).toInt < (j_0 : Int64).toInt)  : mm_CL l yX12_common_ (mm_ws yX12_common_ cX12_common_ 4 (some .long)) ({ frames := 34, cells := 0, slots := 0, locals := 782 } : Room) G cy sz [] [.long j_0, .long j_1] (fun u : Unit => []) (fun (r : Int64) (u : Unit) => mm_rl r 1 4611686018427387904) 0 0 := by
  refine mm_begin (lv := [(0, .long j_0), (2, .long j_1)]) (by decide) (Nat.le_of_ble_eq_true rfl) rfl ?_
  intro p e s m below meth c A ls R args Q H locs hRe hQ hAe hx hb hr hlocks hml hown hnm hts hsz hA hS hP hK hD hZ hl
  have hRf : R.frames = 34 := by rw [hRe]
  have hRl : R.locals = 782 := by rw [hRe]
  have hRc : R.cells = 0 := by rw [hRe]
  have hRs : R.slots = 0 := by rw [hRe]
  refine lv_lload_n hx hb dX12_common__0 rfl (lv_at hl 1 rfl) ?_
  refine lv_lconst (v := 0) hx hb dX12_common__1 (by decide) ?_
  refine W.lcmp hx hb dX12_common__2 ?_
  refine lv_topi (fun v1 ev1 => ?_)
  refine lv_if_ne (tgt := 10) hx hb dX12_common__3 (by decide) (fun c2 => ?_) (fun c2 => ?_)
  · have q3 := mm_neLl (lo := 1) (mm_cmp_ne ev1 c2) h1 mm_kl0 (by decide) (by decide)
    refine lv_lload_n hx hb dX12_common__10 rfl (lv_at hl 1 rfl) ?_
    refine lv_lload_n hx hb dX12_common__11 rfl (lv_at hl 0 rfl) ?_
    refine lv_lload_n hx hb dX12_common__12 rfl (lv_at hl 1 rfl) ?_
    refine lv_lrem hx hb dX12_common__13 (mm_nzl q3 (by decide)) ?_
    refine lv_topl (fun v4 ev4 => ?_)
    have rv4 : mm_rl v4 0 262141 := mm_reml ev4 h0 q3 (by decide) (by decide)
    have w5 := mm_remlLt ev4 h0 q3 (by decide)
    have q6 : mm_rl v4 0 131071 := mm_remlHalf ev4 (Int.le_of_lt h2) h0 q3 (by decide)
    refine mm_finlr (va_runS (As := [.long j_1, .long v4]) (rest := []) ⟨hx, hb, hml, hown, hts⟩ (M280_X12_common_ l G cy H.size j_1 v4 (mm_wkl q3 (by decide)) q6) (va_cwS 2 hts (mm_gS mm_w1043 mm_w1044 mm_w5 mm_w1045) rfl rfl rfl hs_X12_common_ ⟨by rw [hRf]; exact Nat.le_of_ble_eq_true rfl, by rw [hRl]; exact Nat.le_of_ble_eq_true rfl⟩) (mm_preS hK hZ hS hA hP hD [] rfl rfl) rfl rfl hl.1 rfl (lv_room (Nat.le_of_ble_eq_true rfl)) dX12_common__14 ⟨by rw [hRc]; exact Nat.le_of_ble_eq_true rfl, by rw [hRs]; exact Nat.le_of_ble_eq_true rfl⟩) hP hD hS hA [] rfl (fun _ => rfl) ?_
    clear hP hD hS
    clear H locs
    intro v7 _u H locs hw hP hD hS
    have w8 := hw
    subst hAe
    rw [hQ]
    exact W.lret (v := v7) hx hb hr (fun t ht hW => ⟨⟨v7, (), rfl, w8, by rw [ht]; exact hP, hK.warm hW, hD⟩, hS.F ht⟩) hS.2.2 dX12_common__17
  · have q9 := mm_eqIl (lo := 0) (hi := 0) (mm_cmp_eq ev1 c2) h1 mm_kl0 (by decide)
    refine lv_lload_n hx hb dX12_common__6 rfl (lv_at hl 0 rfl) ?_
    refine lv_goto (tgt := 17) hx hb dX12_common__7 (by decide) ?_
    subst hAe
    rw [hQ]
    exact W.lret (v := j_0) hx hb hr (fun t ht hW => ⟨⟨j_0, (), rfl, (mm_wkl h0 (by decide)), by rw [ht]; exact hP, hK.warm hW, hD⟩, hS.F ht⟩) hS.2.2 dX12_common__17

set_option maxHeartbeats 4000000 in
set_option maxRecDepth 100000 in
theorem M282_X12_common_ (l : Launch) (G : va_G) (cy : Nat → ClassId) (sz : Nat) (j_0 : Int64) (j_1 : Int64) (h0 : mm_rl j_0 1 4611686018427387904) (h1 : mm_rl j_1 0 262143)  : mm_CL l yX12_common_ (mm_ws yX12_common_ cX12_common_ 4 (some .long)) ({ frames := 35, cells := 0, slots := 0, locals := 805 } : Room) G cy sz [] [.long j_0, .long j_1] (fun u : Unit => []) (fun (r : Int64) (u : Unit) => mm_rl r 1 4611686018427387904) 0 0 := by
  refine mm_begin (lv := [(0, .long j_0), (2, .long j_1)]) (by decide) (Nat.le_of_ble_eq_true rfl) rfl ?_
  intro p e s m below meth c A ls R args Q H locs hRe hQ hAe hx hb hr hlocks hml hown hnm hts hsz hA hS hP hK hD hZ hl
  have hRf : R.frames = 35 := by rw [hRe]
  have hRl : R.locals = 805 := by rw [hRe]
  have hRc : R.cells = 0 := by rw [hRe]
  have hRs : R.slots = 0 := by rw [hRe]
  refine lv_lload_n hx hb dX12_common__0 rfl (lv_at hl 1 rfl) ?_
  refine lv_lconst (v := 0) hx hb dX12_common__1 (by decide) ?_
  refine W.lcmp hx hb dX12_common__2 ?_
  refine lv_topi (fun v1 ev1 => ?_)
  refine lv_if_ne (tgt := 10) hx hb dX12_common__3 (by decide) (fun c2 => ?_) (fun c2 => ?_)
  · have q3 := mm_neLl (lo := 1) (mm_cmp_ne ev1 c2) h1 mm_kl0 (by decide) (by decide)
    refine lv_lload_n hx hb dX12_common__10 rfl (lv_at hl 1 rfl) ?_
    refine lv_lload_n hx hb dX12_common__11 rfl (lv_at hl 0 rfl) ?_
    refine lv_lload_n hx hb dX12_common__12 rfl (lv_at hl 1 rfl) ?_
    refine lv_lrem hx hb dX12_common__13 (mm_nzl q3 (by decide)) ?_
    refine lv_topl (fun v4 ev4 => ?_)
    have rv4 : mm_rl v4 0 262142 := mm_reml ev4 h0 q3 (by decide) (by decide)
    have w5 := mm_remlLt ev4 h0 q3 (by decide)
    refine mm_finlr (va_runS (As := [.long j_1, .long v4]) (rest := []) ⟨hx, hb, hml, hown, hts⟩ (M281_X12_common_ l G cy H.size j_1 v4 q3 rv4 w5) (va_cwS 2 hts (mm_gS mm_w1043 mm_w1044 mm_w5 mm_w1045) rfl rfl rfl hs_X12_common_ ⟨by rw [hRf]; exact Nat.le_of_ble_eq_true rfl, by rw [hRl]; exact Nat.le_of_ble_eq_true rfl⟩) (mm_preS hK hZ hS hA hP hD [] rfl rfl) rfl rfl hl.1 rfl (lv_room (Nat.le_of_ble_eq_true rfl)) dX12_common__14 ⟨by rw [hRc]; exact Nat.le_of_ble_eq_true rfl, by rw [hRs]; exact Nat.le_of_ble_eq_true rfl⟩) hP hD hS hA [] rfl (fun _ => rfl) ?_
    clear hP hD hS
    clear H locs
    intro v6 _u H locs hw hP hD hS
    have w7 := hw
    subst hAe
    rw [hQ]
    exact W.lret (v := v6) hx hb hr (fun t ht hW => ⟨⟨v6, (), rfl, w7, by rw [ht]; exact hP, hK.warm hW, hD⟩, hS.F ht⟩) hS.2.2 dX12_common__17
  · have q8 := mm_eqIl (lo := 0) (hi := 0) (mm_cmp_eq ev1 c2) h1 mm_kl0 (by decide)
    refine lv_lload_n hx hb dX12_common__6 rfl (lv_at hl 0 rfl) ?_
    refine lv_goto (tgt := 17) hx hb dX12_common__7 (by decide) ?_
    subst hAe
    rw [hQ]
    exact W.lret (v := j_0) hx hb hr (fun t ht hW => ⟨⟨j_0, (), rfl, h0, by rw [ht]; exact hP, hK.warm hW, hD⟩, hS.F ht⟩) hS.2.2 dX12_common__17

set_option maxHeartbeats 4000000 in
set_option maxRecDepth 100000 in
theorem M283_X12_common_ (l : Launch) (G : va_G) (cy : Nat → ClassId) (sz : Nat) (j_0 : Int64) (j_1 : Int64) (h0 : mm_rl j_0 1 524287) (h1 : mm_rl j_1 0 524286) (h2 : (j_1 : Int64).toInt < (j_0 : Int64).toInt)  : mm_CL l yX12_common_ (mm_ws yX12_common_ cX12_common_ 4 (some .long)) ({ frames := 36, cells := 0, slots := 0, locals := 828 } : Room) G cy sz [] [.long j_0, .long j_1] (fun u : Unit => []) (fun (r : Int64) (u : Unit) => mm_rl r 1 4611686018427387904) 0 0 := by
  refine mm_begin (lv := [(0, .long j_0), (2, .long j_1)]) (by decide) (Nat.le_of_ble_eq_true rfl) rfl ?_
  intro p e s m below meth c A ls R args Q H locs hRe hQ hAe hx hb hr hlocks hml hown hnm hts hsz hA hS hP hK hD hZ hl
  have hRf : R.frames = 36 := by rw [hRe]
  have hRl : R.locals = 828 := by rw [hRe]
  have hRc : R.cells = 0 := by rw [hRe]
  have hRs : R.slots = 0 := by rw [hRe]
  refine lv_lload_n hx hb dX12_common__0 rfl (lv_at hl 1 rfl) ?_
  refine lv_lconst (v := 0) hx hb dX12_common__1 (by decide) ?_
  refine W.lcmp hx hb dX12_common__2 ?_
  refine lv_topi (fun v1 ev1 => ?_)
  refine lv_if_ne (tgt := 10) hx hb dX12_common__3 (by decide) (fun c2 => ?_) (fun c2 => ?_)
  · have q3 := mm_neLl (lo := 1) (mm_cmp_ne ev1 c2) h1 mm_kl0 (by decide) (by decide)
    refine lv_lload_n hx hb dX12_common__10 rfl (lv_at hl 1 rfl) ?_
    refine lv_lload_n hx hb dX12_common__11 rfl (lv_at hl 0 rfl) ?_
    refine lv_lload_n hx hb dX12_common__12 rfl (lv_at hl 1 rfl) ?_
    refine lv_lrem hx hb dX12_common__13 (mm_nzl q3 (by decide)) ?_
    refine lv_topl (fun v4 ev4 => ?_)
    have rv4 : mm_rl v4 0 524285 := mm_reml ev4 h0 q3 (by decide) (by decide)
    have w5 := mm_remlLt ev4 h0 q3 (by decide)
    have q6 : mm_rl v4 0 262143 := mm_remlHalf ev4 (Int.le_of_lt h2) h0 q3 (by decide)
    refine mm_finlr (va_runS (As := [.long j_1, .long v4]) (rest := []) ⟨hx, hb, hml, hown, hts⟩ (M282_X12_common_ l G cy H.size j_1 v4 (mm_wkl q3 (by decide)) q6) (va_cwS 2 hts (mm_gS mm_w1043 mm_w1044 mm_w5 mm_w1045) rfl rfl rfl hs_X12_common_ ⟨by rw [hRf]; exact Nat.le_of_ble_eq_true rfl, by rw [hRl]; exact Nat.le_of_ble_eq_true rfl⟩) (mm_preS hK hZ hS hA hP hD [] rfl rfl) rfl rfl hl.1 rfl (lv_room (Nat.le_of_ble_eq_true rfl)) dX12_common__14 ⟨by rw [hRc]; exact Nat.le_of_ble_eq_true rfl, by rw [hRs]; exact Nat.le_of_ble_eq_true rfl⟩) hP hD hS hA [] rfl (fun _ => rfl) ?_
    clear hP hD hS
    clear H locs
    intro v7 _u H locs hw hP hD hS
    have w8 := hw
    subst hAe
    rw [hQ]
    exact W.lret (v := v7) hx hb hr (fun t ht hW => ⟨⟨v7, (), rfl, w8, by rw [ht]; exact hP, hK.warm hW, hD⟩, hS.F ht⟩) hS.2.2 dX12_common__17
  · have q9 := mm_eqIl (lo := 0) (hi := 0) (mm_cmp_eq ev1 c2) h1 mm_kl0 (by decide)
    refine lv_lload_n hx hb dX12_common__6 rfl (lv_at hl 0 rfl) ?_
    refine lv_goto (tgt := 17) hx hb dX12_common__7 (by decide) ?_
    subst hAe
    rw [hQ]
    exact W.lret (v := j_0) hx hb hr (fun t ht hW => ⟨⟨j_0, (), rfl, (mm_wkl h0 (by decide)), by rw [ht]; exact hP, hK.warm hW, hD⟩, hS.F ht⟩) hS.2.2 dX12_common__17

set_option maxHeartbeats 4000000 in
set_option maxRecDepth 100000 in
theorem M284_X12_common_ (l : Launch) (G : va_G) (cy : Nat → ClassId) (sz : Nat) (j_0 : Int64) (j_1 : Int64) (h0 : mm_rl j_0 1 4611686018427387904) (h1 : mm_rl j_1 0 524287)  : mm_CL l yX12_common_ (mm_ws yX12_common_ cX12_common_ 4 (some .long)) ({ frames := 37, cells := 0, slots := 0, locals := 851 } : Room) G cy sz [] [.long j_0, .long j_1] (fun u : Unit => []) (fun (r : Int64) (u : Unit) => mm_rl r 1 4611686018427387904) 0 0 := by
  refine mm_begin (lv := [(0, .long j_0), (2, .long j_1)]) (by decide) (Nat.le_of_ble_eq_true rfl) rfl ?_
  intro p e s m below meth c A ls R args Q H locs hRe hQ hAe hx hb hr hlocks hml hown hnm hts hsz hA hS hP hK hD hZ hl
  have hRf : R.frames = 37 := by rw [hRe]
  have hRl : R.locals = 851 := by rw [hRe]
  have hRc : R.cells = 0 := by rw [hRe]
  have hRs : R.slots = 0 := by rw [hRe]
  refine lv_lload_n hx hb dX12_common__0 rfl (lv_at hl 1 rfl) ?_
  refine lv_lconst (v := 0) hx hb dX12_common__1 (by decide) ?_
  refine W.lcmp hx hb dX12_common__2 ?_
  refine lv_topi (fun v1 ev1 => ?_)
  refine lv_if_ne (tgt := 10) hx hb dX12_common__3 (by decide) (fun c2 => ?_) (fun c2 => ?_)
  · have q3 := mm_neLl (lo := 1) (mm_cmp_ne ev1 c2) h1 mm_kl0 (by decide) (by decide)
    refine lv_lload_n hx hb dX12_common__10 rfl (lv_at hl 1 rfl) ?_
    refine lv_lload_n hx hb dX12_common__11 rfl (lv_at hl 0 rfl) ?_
    refine lv_lload_n hx hb dX12_common__12 rfl (lv_at hl 1 rfl) ?_
    refine lv_lrem hx hb dX12_common__13 (mm_nzl q3 (by decide)) ?_
    refine lv_topl (fun v4 ev4 => ?_)
    have rv4 : mm_rl v4 0 524286 := mm_reml ev4 h0 q3 (by decide) (by decide)
    have w5 := mm_remlLt ev4 h0 q3 (by decide)
    refine mm_finlr (va_runS (As := [.long j_1, .long v4]) (rest := []) ⟨hx, hb, hml, hown, hts⟩ (M283_X12_common_ l G cy H.size j_1 v4 q3 rv4 w5) (va_cwS 2 hts (mm_gS mm_w1043 mm_w1044 mm_w5 mm_w1045) rfl rfl rfl hs_X12_common_ ⟨by rw [hRf]; exact Nat.le_of_ble_eq_true rfl, by rw [hRl]; exact Nat.le_of_ble_eq_true rfl⟩) (mm_preS hK hZ hS hA hP hD [] rfl rfl) rfl rfl hl.1 rfl (lv_room (Nat.le_of_ble_eq_true rfl)) dX12_common__14 ⟨by rw [hRc]; exact Nat.le_of_ble_eq_true rfl, by rw [hRs]; exact Nat.le_of_ble_eq_true rfl⟩) hP hD hS hA [] rfl (fun _ => rfl) ?_
    clear hP hD hS
    clear H locs
    intro v6 _u H locs hw hP hD hS
    have w7 := hw
    subst hAe
    rw [hQ]
    exact W.lret (v := v6) hx hb hr (fun t ht hW => ⟨⟨v6, (), rfl, w7, by rw [ht]; exact hP, hK.warm hW, hD⟩, hS.F ht⟩) hS.2.2 dX12_common__17
  · have q8 := mm_eqIl (lo := 0) (hi := 0) (mm_cmp_eq ev1 c2) h1 mm_kl0 (by decide)
    refine lv_lload_n hx hb dX12_common__6 rfl (lv_at hl 0 rfl) ?_
    refine lv_goto (tgt := 17) hx hb dX12_common__7 (by decide) ?_
    subst hAe
    rw [hQ]
    exact W.lret (v := j_0) hx hb hr (fun t ht hW => ⟨⟨j_0, (), rfl, h0, by rw [ht]; exact hP, hK.warm hW, hD⟩, hS.F ht⟩) hS.2.2 dX12_common__17

set_option maxHeartbeats 4000000 in
set_option maxRecDepth 100000 in
theorem M285_X12_common_ (l : Launch) (G : va_G) (cy : Nat → ClassId) (sz : Nat) (j_0 : Int64) (j_1 : Int64) (h0 : mm_rl j_0 1 1048575) (h1 : mm_rl j_1 0 1048574) (h2 : (j_1 : Int64).toInt < (j_0 : Int64).toInt)  : mm_CL l yX12_common_ (mm_ws yX12_common_ cX12_common_ 4 (some .long)) ({ frames := 38, cells := 0, slots := 0, locals := 874 } : Room) G cy sz [] [.long j_0, .long j_1] (fun u : Unit => []) (fun (r : Int64) (u : Unit) => mm_rl r 1 4611686018427387904) 0 0 := by
  refine mm_begin (lv := [(0, .long j_0), (2, .long j_1)]) (by decide) (Nat.le_of_ble_eq_true rfl) rfl ?_
  intro p e s m below meth c A ls R args Q H locs hRe hQ hAe hx hb hr hlocks hml hown hnm hts hsz hA hS hP hK hD hZ hl
  have hRf : R.frames = 38 := by rw [hRe]
  have hRl : R.locals = 874 := by rw [hRe]
  have hRc : R.cells = 0 := by rw [hRe]
  have hRs : R.slots = 0 := by rw [hRe]
  refine lv_lload_n hx hb dX12_common__0 rfl (lv_at hl 1 rfl) ?_
  refine lv_lconst (v := 0) hx hb dX12_common__1 (by decide) ?_
  refine W.lcmp hx hb dX12_common__2 ?_
  refine lv_topi (fun v1 ev1 => ?_)
  refine lv_if_ne (tgt := 10) hx hb dX12_common__3 (by decide) (fun c2 => ?_) (fun c2 => ?_)
  · have q3 := mm_neLl (lo := 1) (mm_cmp_ne ev1 c2) h1 mm_kl0 (by decide) (by decide)
    refine lv_lload_n hx hb dX12_common__10 rfl (lv_at hl 1 rfl) ?_
    refine lv_lload_n hx hb dX12_common__11 rfl (lv_at hl 0 rfl) ?_
    refine lv_lload_n hx hb dX12_common__12 rfl (lv_at hl 1 rfl) ?_
    refine lv_lrem hx hb dX12_common__13 (mm_nzl q3 (by decide)) ?_
    refine lv_topl (fun v4 ev4 => ?_)
    have rv4 : mm_rl v4 0 1048573 := mm_reml ev4 h0 q3 (by decide) (by decide)
    have w5 := mm_remlLt ev4 h0 q3 (by decide)
    have q6 : mm_rl v4 0 524287 := mm_remlHalf ev4 (Int.le_of_lt h2) h0 q3 (by decide)
    refine mm_finlr (va_runS (As := [.long j_1, .long v4]) (rest := []) ⟨hx, hb, hml, hown, hts⟩ (M284_X12_common_ l G cy H.size j_1 v4 (mm_wkl q3 (by decide)) q6) (va_cwS 2 hts (mm_gS mm_w1043 mm_w1044 mm_w5 mm_w1045) rfl rfl rfl hs_X12_common_ ⟨by rw [hRf]; exact Nat.le_of_ble_eq_true rfl, by rw [hRl]; exact Nat.le_of_ble_eq_true rfl⟩) (mm_preS hK hZ hS hA hP hD [] rfl rfl) rfl rfl hl.1 rfl (lv_room (Nat.le_of_ble_eq_true rfl)) dX12_common__14 ⟨by rw [hRc]; exact Nat.le_of_ble_eq_true rfl, by rw [hRs]; exact Nat.le_of_ble_eq_true rfl⟩) hP hD hS hA [] rfl (fun _ => rfl) ?_
    clear hP hD hS
    clear H locs
    intro v7 _u H locs hw hP hD hS
    have w8 := hw
    subst hAe
    rw [hQ]
    exact W.lret (v := v7) hx hb hr (fun t ht hW => ⟨⟨v7, (), rfl, w8, by rw [ht]; exact hP, hK.warm hW, hD⟩, hS.F ht⟩) hS.2.2 dX12_common__17
  · have q9 := mm_eqIl (lo := 0) (hi := 0) (mm_cmp_eq ev1 c2) h1 mm_kl0 (by decide)
    refine lv_lload_n hx hb dX12_common__6 rfl (lv_at hl 0 rfl) ?_
    refine lv_goto (tgt := 17) hx hb dX12_common__7 (by decide) ?_
    subst hAe
    rw [hQ]
    exact W.lret (v := j_0) hx hb hr (fun t ht hW => ⟨⟨j_0, (), rfl, (mm_wkl h0 (by decide)), by rw [ht]; exact hP, hK.warm hW, hD⟩, hS.F ht⟩) hS.2.2 dX12_common__17

set_option maxHeartbeats 4000000 in
set_option maxRecDepth 100000 in
theorem M286_X12_common_ (l : Launch) (G : va_G) (cy : Nat → ClassId) (sz : Nat) (j_0 : Int64) (j_1 : Int64) (h0 : mm_rl j_0 1 4611686018427387904) (h1 : mm_rl j_1 0 1048575)  : mm_CL l yX12_common_ (mm_ws yX12_common_ cX12_common_ 4 (some .long)) ({ frames := 39, cells := 0, slots := 0, locals := 897 } : Room) G cy sz [] [.long j_0, .long j_1] (fun u : Unit => []) (fun (r : Int64) (u : Unit) => mm_rl r 1 4611686018427387904) 0 0 := by
  refine mm_begin (lv := [(0, .long j_0), (2, .long j_1)]) (by decide) (Nat.le_of_ble_eq_true rfl) rfl ?_
  intro p e s m below meth c A ls R args Q H locs hRe hQ hAe hx hb hr hlocks hml hown hnm hts hsz hA hS hP hK hD hZ hl
  have hRf : R.frames = 39 := by rw [hRe]
  have hRl : R.locals = 897 := by rw [hRe]
  have hRc : R.cells = 0 := by rw [hRe]
  have hRs : R.slots = 0 := by rw [hRe]
  refine lv_lload_n hx hb dX12_common__0 rfl (lv_at hl 1 rfl) ?_
  refine lv_lconst (v := 0) hx hb dX12_common__1 (by decide) ?_
  refine W.lcmp hx hb dX12_common__2 ?_
  refine lv_topi (fun v1 ev1 => ?_)
  refine lv_if_ne (tgt := 10) hx hb dX12_common__3 (by decide) (fun c2 => ?_) (fun c2 => ?_)
  · have q3 := mm_neLl (lo := 1) (mm_cmp_ne ev1 c2) h1 mm_kl0 (by decide) (by decide)
    refine lv_lload_n hx hb dX12_common__10 rfl (lv_at hl 1 rfl) ?_
    refine lv_lload_n hx hb dX12_common__11 rfl (lv_at hl 0 rfl) ?_
    refine lv_lload_n hx hb dX12_common__12 rfl (lv_at hl 1 rfl) ?_
    refine lv_lrem hx hb dX12_common__13 (mm_nzl q3 (by decide)) ?_
    refine lv_topl (fun v4 ev4 => ?_)
    have rv4 : mm_rl v4 0 1048574 := mm_reml ev4 h0 q3 (by decide) (by decide)
    have w5 := mm_remlLt ev4 h0 q3 (by decide)
    refine mm_finlr (va_runS (As := [.long j_1, .long v4]) (rest := []) ⟨hx, hb, hml, hown, hts⟩ (M285_X12_common_ l G cy H.size j_1 v4 q3 rv4 w5) (va_cwS 2 hts (mm_gS mm_w1043 mm_w1044 mm_w5 mm_w1045) rfl rfl rfl hs_X12_common_ ⟨by rw [hRf]; exact Nat.le_of_ble_eq_true rfl, by rw [hRl]; exact Nat.le_of_ble_eq_true rfl⟩) (mm_preS hK hZ hS hA hP hD [] rfl rfl) rfl rfl hl.1 rfl (lv_room (Nat.le_of_ble_eq_true rfl)) dX12_common__14 ⟨by rw [hRc]; exact Nat.le_of_ble_eq_true rfl, by rw [hRs]; exact Nat.le_of_ble_eq_true rfl⟩) hP hD hS hA [] rfl (fun _ => rfl) ?_
    clear hP hD hS
    clear H locs
    intro v6 _u H locs hw hP hD hS
    have w7 := hw
    subst hAe
    rw [hQ]
    exact W.lret (v := v6) hx hb hr (fun t ht hW => ⟨⟨v6, (), rfl, w7, by rw [ht]; exact hP, hK.warm hW, hD⟩, hS.F ht⟩) hS.2.2 dX12_common__17
  · have q8 := mm_eqIl (lo := 0) (hi := 0) (mm_cmp_eq ev1 c2) h1 mm_kl0 (by decide)
    refine lv_lload_n hx hb dX12_common__6 rfl (lv_at hl 0 rfl) ?_
    refine lv_goto (tgt := 17) hx hb dX12_common__7 (by decide) ?_
    subst hAe
    rw [hQ]
    exact W.lret (v := j_0) hx hb hr (fun t ht hW => ⟨⟨j_0, (), rfl, h0, by rw [ht]; exact hP, hK.warm hW, hD⟩, hS.F ht⟩) hS.2.2 dX12_common__17

set_option maxHeartbeats 4000000 in
set_option maxRecDepth 100000 in
theorem M287_X12_common_ (l : Launch) (G : va_G) (cy : Nat → ClassId) (sz : Nat) (j_0 : Int64) (j_1 : Int64) (h0 : mm_rl j_0 1 2097151) (h1 : mm_rl j_1 0 2097150) (h2 : (j_1 : Int64).toInt < (j_0 : Int64).toInt)  : mm_CL l yX12_common_ (mm_ws yX12_common_ cX12_common_ 4 (some .long)) ({ frames := 40, cells := 0, slots := 0, locals := 920 } : Room) G cy sz [] [.long j_0, .long j_1] (fun u : Unit => []) (fun (r : Int64) (u : Unit) => mm_rl r 1 4611686018427387904) 0 0 := by
  refine mm_begin (lv := [(0, .long j_0), (2, .long j_1)]) (by decide) (Nat.le_of_ble_eq_true rfl) rfl ?_
  intro p e s m below meth c A ls R args Q H locs hRe hQ hAe hx hb hr hlocks hml hown hnm hts hsz hA hS hP hK hD hZ hl
  have hRf : R.frames = 40 := by rw [hRe]
  have hRl : R.locals = 920 := by rw [hRe]
  have hRc : R.cells = 0 := by rw [hRe]
  have hRs : R.slots = 0 := by rw [hRe]
  refine lv_lload_n hx hb dX12_common__0 rfl (lv_at hl 1 rfl) ?_
  refine lv_lconst (v := 0) hx hb dX12_common__1 (by decide) ?_
  refine W.lcmp hx hb dX12_common__2 ?_
  refine lv_topi (fun v1 ev1 => ?_)
  refine lv_if_ne (tgt := 10) hx hb dX12_common__3 (by decide) (fun c2 => ?_) (fun c2 => ?_)
  · have q3 := mm_neLl (lo := 1) (mm_cmp_ne ev1 c2) h1 mm_kl0 (by decide) (by decide)
    refine lv_lload_n hx hb dX12_common__10 rfl (lv_at hl 1 rfl) ?_
    refine lv_lload_n hx hb dX12_common__11 rfl (lv_at hl 0 rfl) ?_
    refine lv_lload_n hx hb dX12_common__12 rfl (lv_at hl 1 rfl) ?_
    refine lv_lrem hx hb dX12_common__13 (mm_nzl q3 (by decide)) ?_
    refine lv_topl (fun v4 ev4 => ?_)
    have rv4 : mm_rl v4 0 2097149 := mm_reml ev4 h0 q3 (by decide) (by decide)
    have w5 := mm_remlLt ev4 h0 q3 (by decide)
    have q6 : mm_rl v4 0 1048575 := mm_remlHalf ev4 (Int.le_of_lt h2) h0 q3 (by decide)
    refine mm_finlr (va_runS (As := [.long j_1, .long v4]) (rest := []) ⟨hx, hb, hml, hown, hts⟩ (M286_X12_common_ l G cy H.size j_1 v4 (mm_wkl q3 (by decide)) q6) (va_cwS 2 hts (mm_gS mm_w1043 mm_w1044 mm_w5 mm_w1045) rfl rfl rfl hs_X12_common_ ⟨by rw [hRf]; exact Nat.le_of_ble_eq_true rfl, by rw [hRl]; exact Nat.le_of_ble_eq_true rfl⟩) (mm_preS hK hZ hS hA hP hD [] rfl rfl) rfl rfl hl.1 rfl (lv_room (Nat.le_of_ble_eq_true rfl)) dX12_common__14 ⟨by rw [hRc]; exact Nat.le_of_ble_eq_true rfl, by rw [hRs]; exact Nat.le_of_ble_eq_true rfl⟩) hP hD hS hA [] rfl (fun _ => rfl) ?_
    clear hP hD hS
    clear H locs
    intro v7 _u H locs hw hP hD hS
    have w8 := hw
    subst hAe
    rw [hQ]
    exact W.lret (v := v7) hx hb hr (fun t ht hW => ⟨⟨v7, (), rfl, w8, by rw [ht]; exact hP, hK.warm hW, hD⟩, hS.F ht⟩) hS.2.2 dX12_common__17
  · have q9 := mm_eqIl (lo := 0) (hi := 0) (mm_cmp_eq ev1 c2) h1 mm_kl0 (by decide)
    refine lv_lload_n hx hb dX12_common__6 rfl (lv_at hl 0 rfl) ?_
    refine lv_goto (tgt := 17) hx hb dX12_common__7 (by decide) ?_
    subst hAe
    rw [hQ]
    exact W.lret (v := j_0) hx hb hr (fun t ht hW => ⟨⟨j_0, (), rfl, (mm_wkl h0 (by decide)), by rw [ht]; exact hP, hK.warm hW, hD⟩, hS.F ht⟩) hS.2.2 dX12_common__17

set_option maxHeartbeats 4000000 in
set_option maxRecDepth 100000 in
theorem M288_X12_common_ (l : Launch) (G : va_G) (cy : Nat → ClassId) (sz : Nat) (j_0 : Int64) (j_1 : Int64) (h0 : mm_rl j_0 1 4611686018427387904) (h1 : mm_rl j_1 0 2097151)  : mm_CL l yX12_common_ (mm_ws yX12_common_ cX12_common_ 4 (some .long)) ({ frames := 41, cells := 0, slots := 0, locals := 943 } : Room) G cy sz [] [.long j_0, .long j_1] (fun u : Unit => []) (fun (r : Int64) (u : Unit) => mm_rl r 1 4611686018427387904) 0 0 := by
  refine mm_begin (lv := [(0, .long j_0), (2, .long j_1)]) (by decide) (Nat.le_of_ble_eq_true rfl) rfl ?_
  intro p e s m below meth c A ls R args Q H locs hRe hQ hAe hx hb hr hlocks hml hown hnm hts hsz hA hS hP hK hD hZ hl
  have hRf : R.frames = 41 := by rw [hRe]
  have hRl : R.locals = 943 := by rw [hRe]
  have hRc : R.cells = 0 := by rw [hRe]
  have hRs : R.slots = 0 := by rw [hRe]
  refine lv_lload_n hx hb dX12_common__0 rfl (lv_at hl 1 rfl) ?_
  refine lv_lconst (v := 0) hx hb dX12_common__1 (by decide) ?_
  refine W.lcmp hx hb dX12_common__2 ?_
  refine lv_topi (fun v1 ev1 => ?_)
  refine lv_if_ne (tgt := 10) hx hb dX12_common__3 (by decide) (fun c2 => ?_) (fun c2 => ?_)
  · have q3 := mm_neLl (lo := 1) (mm_cmp_ne ev1 c2) h1 mm_kl0 (by decide) (by decide)
    refine lv_lload_n hx hb dX12_common__10 rfl (lv_at hl 1 rfl) ?_
    refine lv_lload_n hx hb dX12_common__11 rfl (lv_at hl 0 rfl) ?_
    refine lv_lload_n hx hb dX12_common__12 rfl (lv_at hl 1 rfl) ?_
    refine lv_lrem hx hb dX12_common__13 (mm_nzl q3 (by decide)) ?_
    refine lv_topl (fun v4 ev4 => ?_)
    have rv4 : mm_rl v4 0 2097150 := mm_reml ev4 h0 q3 (by decide) (by decide)
    have w5 := mm_remlLt ev4 h0 q3 (by decide)
    refine mm_finlr (va_runS (As := [.long j_1, .long v4]) (rest := []) ⟨hx, hb, hml, hown, hts⟩ (M287_X12_common_ l G cy H.size j_1 v4 q3 rv4 w5) (va_cwS 2 hts (mm_gS mm_w1043 mm_w1044 mm_w5 mm_w1045) rfl rfl rfl hs_X12_common_ ⟨by rw [hRf]; exact Nat.le_of_ble_eq_true rfl, by rw [hRl]; exact Nat.le_of_ble_eq_true rfl⟩) (mm_preS hK hZ hS hA hP hD [] rfl rfl) rfl rfl hl.1 rfl (lv_room (Nat.le_of_ble_eq_true rfl)) dX12_common__14 ⟨by rw [hRc]; exact Nat.le_of_ble_eq_true rfl, by rw [hRs]; exact Nat.le_of_ble_eq_true rfl⟩) hP hD hS hA [] rfl (fun _ => rfl) ?_
    clear hP hD hS
    clear H locs
    intro v6 _u H locs hw hP hD hS
    have w7 := hw
    subst hAe
    rw [hQ]
    exact W.lret (v := v6) hx hb hr (fun t ht hW => ⟨⟨v6, (), rfl, w7, by rw [ht]; exact hP, hK.warm hW, hD⟩, hS.F ht⟩) hS.2.2 dX12_common__17
  · have q8 := mm_eqIl (lo := 0) (hi := 0) (mm_cmp_eq ev1 c2) h1 mm_kl0 (by decide)
    refine lv_lload_n hx hb dX12_common__6 rfl (lv_at hl 0 rfl) ?_
    refine lv_goto (tgt := 17) hx hb dX12_common__7 (by decide) ?_
    subst hAe
    rw [hQ]
    exact W.lret (v := j_0) hx hb hr (fun t ht hW => ⟨⟨j_0, (), rfl, h0, by rw [ht]; exact hP, hK.warm hW, hD⟩, hS.F ht⟩) hS.2.2 dX12_common__17

set_option maxHeartbeats 4000000 in
set_option maxRecDepth 100000 in
theorem M289_X12_common_ (l : Launch) (G : va_G) (cy : Nat → ClassId) (sz : Nat) (j_0 : Int64) (j_1 : Int64) (h0 : mm_rl j_0 1 4194303) (h1 : mm_rl j_1 0 4194302) (h2 : (j_1 : Int64).toInt < (j_0 : Int64).toInt)  : mm_CL l yX12_common_ (mm_ws yX12_common_ cX12_common_ 4 (some .long)) ({ frames := 42, cells := 0, slots := 0, locals := 966 } : Room) G cy sz [] [.long j_0, .long j_1] (fun u : Unit => []) (fun (r : Int64) (u : Unit) => mm_rl r 1 4611686018427387904) 0 0 := by
  refine mm_begin (lv := [(0, .long j_0), (2, .long j_1)]) (by decide) (Nat.le_of_ble_eq_true rfl) rfl ?_
  intro p e s m below meth c A ls R args Q H locs hRe hQ hAe hx hb hr hlocks hml hown hnm hts hsz hA hS hP hK hD hZ hl
  have hRf : R.frames = 42 := by rw [hRe]
  have hRl : R.locals = 966 := by rw [hRe]
  have hRc : R.cells = 0 := by rw [hRe]
  have hRs : R.slots = 0 := by rw [hRe]
  refine lv_lload_n hx hb dX12_common__0 rfl (lv_at hl 1 rfl) ?_
  refine lv_lconst (v := 0) hx hb dX12_common__1 (by decide) ?_
  refine W.lcmp hx hb dX12_common__2 ?_
  refine lv_topi (fun v1 ev1 => ?_)
  refine lv_if_ne (tgt := 10) hx hb dX12_common__3 (by decide) (fun c2 => ?_) (fun c2 => ?_)
  · have q3 := mm_neLl (lo := 1) (mm_cmp_ne ev1 c2) h1 mm_kl0 (by decide) (by decide)
    refine lv_lload_n hx hb dX12_common__10 rfl (lv_at hl 1 rfl) ?_
    refine lv_lload_n hx hb dX12_common__11 rfl (lv_at hl 0 rfl) ?_
    refine lv_lload_n hx hb dX12_common__12 rfl (lv_at hl 1 rfl) ?_
    refine lv_lrem hx hb dX12_common__13 (mm_nzl q3 (by decide)) ?_
    refine lv_topl (fun v4 ev4 => ?_)
    have rv4 : mm_rl v4 0 4194301 := mm_reml ev4 h0 q3 (by decide) (by decide)
    have w5 := mm_remlLt ev4 h0 q3 (by decide)
    have q6 : mm_rl v4 0 2097151 := mm_remlHalf ev4 (Int.le_of_lt h2) h0 q3 (by decide)
    refine mm_finlr (va_runS (As := [.long j_1, .long v4]) (rest := []) ⟨hx, hb, hml, hown, hts⟩ (M288_X12_common_ l G cy H.size j_1 v4 (mm_wkl q3 (by decide)) q6) (va_cwS 2 hts (mm_gS mm_w1043 mm_w1044 mm_w5 mm_w1045) rfl rfl rfl hs_X12_common_ ⟨by rw [hRf]; exact Nat.le_of_ble_eq_true rfl, by rw [hRl]; exact Nat.le_of_ble_eq_true rfl⟩) (mm_preS hK hZ hS hA hP hD [] rfl rfl) rfl rfl hl.1 rfl (lv_room (Nat.le_of_ble_eq_true rfl)) dX12_common__14 ⟨by rw [hRc]; exact Nat.le_of_ble_eq_true rfl, by rw [hRs]; exact Nat.le_of_ble_eq_true rfl⟩) hP hD hS hA [] rfl (fun _ => rfl) ?_
    clear hP hD hS
    clear H locs
    intro v7 _u H locs hw hP hD hS
    have w8 := hw
    subst hAe
    rw [hQ]
    exact W.lret (v := v7) hx hb hr (fun t ht hW => ⟨⟨v7, (), rfl, w8, by rw [ht]; exact hP, hK.warm hW, hD⟩, hS.F ht⟩) hS.2.2 dX12_common__17
  · have q9 := mm_eqIl (lo := 0) (hi := 0) (mm_cmp_eq ev1 c2) h1 mm_kl0 (by decide)
    refine lv_lload_n hx hb dX12_common__6 rfl (lv_at hl 0 rfl) ?_
    refine lv_goto (tgt := 17) hx hb dX12_common__7 (by decide) ?_
    subst hAe
    rw [hQ]
    exact W.lret (v := j_0) hx hb hr (fun t ht hW => ⟨⟨j_0, (), rfl, (mm_wkl h0 (by decide)), by rw [ht]; exact hP, hK.warm hW, hD⟩, hS.F ht⟩) hS.2.2 dX12_common__17

set_option maxHeartbeats 4000000 in
set_option maxRecDepth 100000 in
theorem M290_X12_common_ (l : Launch) (G : va_G) (cy : Nat → ClassId) (sz : Nat) (j_0 : Int64) (j_1 : Int64) (h0 : mm_rl j_0 1 4611686018427387904) (h1 : mm_rl j_1 0 4194303)  : mm_CL l yX12_common_ (mm_ws yX12_common_ cX12_common_ 4 (some .long)) ({ frames := 43, cells := 0, slots := 0, locals := 989 } : Room) G cy sz [] [.long j_0, .long j_1] (fun u : Unit => []) (fun (r : Int64) (u : Unit) => mm_rl r 1 4611686018427387904) 0 0 := by
  refine mm_begin (lv := [(0, .long j_0), (2, .long j_1)]) (by decide) (Nat.le_of_ble_eq_true rfl) rfl ?_
  intro p e s m below meth c A ls R args Q H locs hRe hQ hAe hx hb hr hlocks hml hown hnm hts hsz hA hS hP hK hD hZ hl
  have hRf : R.frames = 43 := by rw [hRe]
  have hRl : R.locals = 989 := by rw [hRe]
  have hRc : R.cells = 0 := by rw [hRe]
  have hRs : R.slots = 0 := by rw [hRe]
  refine lv_lload_n hx hb dX12_common__0 rfl (lv_at hl 1 rfl) ?_
  refine lv_lconst (v := 0) hx hb dX12_common__1 (by decide) ?_
  refine W.lcmp hx hb dX12_common__2 ?_
  refine lv_topi (fun v1 ev1 => ?_)
  refine lv_if_ne (tgt := 10) hx hb dX12_common__3 (by decide) (fun c2 => ?_) (fun c2 => ?_)
  · have q3 := mm_neLl (lo := 1) (mm_cmp_ne ev1 c2) h1 mm_kl0 (by decide) (by decide)
    refine lv_lload_n hx hb dX12_common__10 rfl (lv_at hl 1 rfl) ?_
    refine lv_lload_n hx hb dX12_common__11 rfl (lv_at hl 0 rfl) ?_
    refine lv_lload_n hx hb dX12_common__12 rfl (lv_at hl 1 rfl) ?_
    refine lv_lrem hx hb dX12_common__13 (mm_nzl q3 (by decide)) ?_
    refine lv_topl (fun v4 ev4 => ?_)
    have rv4 : mm_rl v4 0 4194302 := mm_reml ev4 h0 q3 (by decide) (by decide)
    have w5 := mm_remlLt ev4 h0 q3 (by decide)
    refine mm_finlr (va_runS (As := [.long j_1, .long v4]) (rest := []) ⟨hx, hb, hml, hown, hts⟩ (M289_X12_common_ l G cy H.size j_1 v4 q3 rv4 w5) (va_cwS 2 hts (mm_gS mm_w1043 mm_w1044 mm_w5 mm_w1045) rfl rfl rfl hs_X12_common_ ⟨by rw [hRf]; exact Nat.le_of_ble_eq_true rfl, by rw [hRl]; exact Nat.le_of_ble_eq_true rfl⟩) (mm_preS hK hZ hS hA hP hD [] rfl rfl) rfl rfl hl.1 rfl (lv_room (Nat.le_of_ble_eq_true rfl)) dX12_common__14 ⟨by rw [hRc]; exact Nat.le_of_ble_eq_true rfl, by rw [hRs]; exact Nat.le_of_ble_eq_true rfl⟩) hP hD hS hA [] rfl (fun _ => rfl) ?_
    clear hP hD hS
    clear H locs
    intro v6 _u H locs hw hP hD hS
    have w7 := hw
    subst hAe
    rw [hQ]
    exact W.lret (v := v6) hx hb hr (fun t ht hW => ⟨⟨v6, (), rfl, w7, by rw [ht]; exact hP, hK.warm hW, hD⟩, hS.F ht⟩) hS.2.2 dX12_common__17
  · have q8 := mm_eqIl (lo := 0) (hi := 0) (mm_cmp_eq ev1 c2) h1 mm_kl0 (by decide)
    refine lv_lload_n hx hb dX12_common__6 rfl (lv_at hl 0 rfl) ?_
    refine lv_goto (tgt := 17) hx hb dX12_common__7 (by decide) ?_
    subst hAe
    rw [hQ]
    exact W.lret (v := j_0) hx hb hr (fun t ht hW => ⟨⟨j_0, (), rfl, h0, by rw [ht]; exact hP, hK.warm hW, hD⟩, hS.F ht⟩) hS.2.2 dX12_common__17

set_option maxHeartbeats 4000000 in
set_option maxRecDepth 100000 in
theorem M291_X12_common_ (l : Launch) (G : va_G) (cy : Nat → ClassId) (sz : Nat) (j_0 : Int64) (j_1 : Int64) (h0 : mm_rl j_0 1 8388607) (h1 : mm_rl j_1 0 8388606) (h2 : (j_1 : Int64).toInt < (j_0 : Int64).toInt)  : mm_CL l yX12_common_ (mm_ws yX12_common_ cX12_common_ 4 (some .long)) ({ frames := 44, cells := 0, slots := 0, locals := 1012 } : Room) G cy sz [] [.long j_0, .long j_1] (fun u : Unit => []) (fun (r : Int64) (u : Unit) => mm_rl r 1 4611686018427387904) 0 0 := by
  refine mm_begin (lv := [(0, .long j_0), (2, .long j_1)]) (by decide) (Nat.le_of_ble_eq_true rfl) rfl ?_
  intro p e s m below meth c A ls R args Q H locs hRe hQ hAe hx hb hr hlocks hml hown hnm hts hsz hA hS hP hK hD hZ hl
  have hRf : R.frames = 44 := by rw [hRe]
  have hRl : R.locals = 1012 := by rw [hRe]
  have hRc : R.cells = 0 := by rw [hRe]
  have hRs : R.slots = 0 := by rw [hRe]
  refine lv_lload_n hx hb dX12_common__0 rfl (lv_at hl 1 rfl) ?_
  refine lv_lconst (v := 0) hx hb dX12_common__1 (by decide) ?_
  refine W.lcmp hx hb dX12_common__2 ?_
  refine lv_topi (fun v1 ev1 => ?_)
  refine lv_if_ne (tgt := 10) hx hb dX12_common__3 (by decide) (fun c2 => ?_) (fun c2 => ?_)
  · have q3 := mm_neLl (lo := 1) (mm_cmp_ne ev1 c2) h1 mm_kl0 (by decide) (by decide)
    refine lv_lload_n hx hb dX12_common__10 rfl (lv_at hl 1 rfl) ?_
    refine lv_lload_n hx hb dX12_common__11 rfl (lv_at hl 0 rfl) ?_
    refine lv_lload_n hx hb dX12_common__12 rfl (lv_at hl 1 rfl) ?_
    refine lv_lrem hx hb dX12_common__13 (mm_nzl q3 (by decide)) ?_
    refine lv_topl (fun v4 ev4 => ?_)
    have rv4 : mm_rl v4 0 8388605 := mm_reml ev4 h0 q3 (by decide) (by decide)
    have w5 := mm_remlLt ev4 h0 q3 (by decide)
    have q6 : mm_rl v4 0 4194303 := mm_remlHalf ev4 (Int.le_of_lt h2) h0 q3 (by decide)
    refine mm_finlr (va_runS (As := [.long j_1, .long v4]) (rest := []) ⟨hx, hb, hml, hown, hts⟩ (M290_X12_common_ l G cy H.size j_1 v4 (mm_wkl q3 (by decide)) q6) (va_cwS 2 hts (mm_gS mm_w1043 mm_w1044 mm_w5 mm_w1045) rfl rfl rfl hs_X12_common_ ⟨by rw [hRf]; exact Nat.le_of_ble_eq_true rfl, by rw [hRl]; exact Nat.le_of_ble_eq_true rfl⟩) (mm_preS hK hZ hS hA hP hD [] rfl rfl) rfl rfl hl.1 rfl (lv_room (Nat.le_of_ble_eq_true rfl)) dX12_common__14 ⟨by rw [hRc]; exact Nat.le_of_ble_eq_true rfl, by rw [hRs]; exact Nat.le_of_ble_eq_true rfl⟩) hP hD hS hA [] rfl (fun _ => rfl) ?_
    clear hP hD hS
    clear H locs
    intro v7 _u H locs hw hP hD hS
    have w8 := hw
    subst hAe
    rw [hQ]
    exact W.lret (v := v7) hx hb hr (fun t ht hW => ⟨⟨v7, (), rfl, w8, by rw [ht]; exact hP, hK.warm hW, hD⟩, hS.F ht⟩) hS.2.2 dX12_common__17
  · have q9 := mm_eqIl (lo := 0) (hi := 0) (mm_cmp_eq ev1 c2) h1 mm_kl0 (by decide)
    refine lv_lload_n hx hb dX12_common__6 rfl (lv_at hl 0 rfl) ?_
    refine lv_goto (tgt := 17) hx hb dX12_common__7 (by decide) ?_
    subst hAe
    rw [hQ]
    exact W.lret (v := j_0) hx hb hr (fun t ht hW => ⟨⟨j_0, (), rfl, (mm_wkl h0 (by decide)), by rw [ht]; exact hP, hK.warm hW, hD⟩, hS.F ht⟩) hS.2.2 dX12_common__17

set_option maxHeartbeats 4000000 in
set_option maxRecDepth 100000 in
theorem M292_X12_common_ (l : Launch) (G : va_G) (cy : Nat → ClassId) (sz : Nat) (j_0 : Int64) (j_1 : Int64) (h0 : mm_rl j_0 1 4611686018427387904) (h1 : mm_rl j_1 0 8388607)  : mm_CL l yX12_common_ (mm_ws yX12_common_ cX12_common_ 4 (some .long)) ({ frames := 45, cells := 0, slots := 0, locals := 1035 } : Room) G cy sz [] [.long j_0, .long j_1] (fun u : Unit => []) (fun (r : Int64) (u : Unit) => mm_rl r 1 4611686018427387904) 0 0 := by
  refine mm_begin (lv := [(0, .long j_0), (2, .long j_1)]) (by decide) (Nat.le_of_ble_eq_true rfl) rfl ?_
  intro p e s m below meth c A ls R args Q H locs hRe hQ hAe hx hb hr hlocks hml hown hnm hts hsz hA hS hP hK hD hZ hl
  have hRf : R.frames = 45 := by rw [hRe]
  have hRl : R.locals = 1035 := by rw [hRe]
  have hRc : R.cells = 0 := by rw [hRe]
  have hRs : R.slots = 0 := by rw [hRe]
  refine lv_lload_n hx hb dX12_common__0 rfl (lv_at hl 1 rfl) ?_
  refine lv_lconst (v := 0) hx hb dX12_common__1 (by decide) ?_
  refine W.lcmp hx hb dX12_common__2 ?_
  refine lv_topi (fun v1 ev1 => ?_)
  refine lv_if_ne (tgt := 10) hx hb dX12_common__3 (by decide) (fun c2 => ?_) (fun c2 => ?_)
  · have q3 := mm_neLl (lo := 1) (mm_cmp_ne ev1 c2) h1 mm_kl0 (by decide) (by decide)
    refine lv_lload_n hx hb dX12_common__10 rfl (lv_at hl 1 rfl) ?_
    refine lv_lload_n hx hb dX12_common__11 rfl (lv_at hl 0 rfl) ?_
    refine lv_lload_n hx hb dX12_common__12 rfl (lv_at hl 1 rfl) ?_
    refine lv_lrem hx hb dX12_common__13 (mm_nzl q3 (by decide)) ?_
    refine lv_topl (fun v4 ev4 => ?_)
    have rv4 : mm_rl v4 0 8388606 := mm_reml ev4 h0 q3 (by decide) (by decide)
    have w5 := mm_remlLt ev4 h0 q3 (by decide)
    refine mm_finlr (va_runS (As := [.long j_1, .long v4]) (rest := []) ⟨hx, hb, hml, hown, hts⟩ (M291_X12_common_ l G cy H.size j_1 v4 q3 rv4 w5) (va_cwS 2 hts (mm_gS mm_w1043 mm_w1044 mm_w5 mm_w1045) rfl rfl rfl hs_X12_common_ ⟨by rw [hRf]; exact Nat.le_of_ble_eq_true rfl, by rw [hRl]; exact Nat.le_of_ble_eq_true rfl⟩) (mm_preS hK hZ hS hA hP hD [] rfl rfl) rfl rfl hl.1 rfl (lv_room (Nat.le_of_ble_eq_true rfl)) dX12_common__14 ⟨by rw [hRc]; exact Nat.le_of_ble_eq_true rfl, by rw [hRs]; exact Nat.le_of_ble_eq_true rfl⟩) hP hD hS hA [] rfl (fun _ => rfl) ?_
    clear hP hD hS
    clear H locs
    intro v6 _u H locs hw hP hD hS
    have w7 := hw
    subst hAe
    rw [hQ]
    exact W.lret (v := v6) hx hb hr (fun t ht hW => ⟨⟨v6, (), rfl, w7, by rw [ht]; exact hP, hK.warm hW, hD⟩, hS.F ht⟩) hS.2.2 dX12_common__17
  · have q8 := mm_eqIl (lo := 0) (hi := 0) (mm_cmp_eq ev1 c2) h1 mm_kl0 (by decide)
    refine lv_lload_n hx hb dX12_common__6 rfl (lv_at hl 0 rfl) ?_
    refine lv_goto (tgt := 17) hx hb dX12_common__7 (by decide) ?_
    subst hAe
    rw [hQ]
    exact W.lret (v := j_0) hx hb hr (fun t ht hW => ⟨⟨j_0, (), rfl, h0, by rw [ht]; exact hP, hK.warm hW, hD⟩, hS.F ht⟩) hS.2.2 dX12_common__17

set_option maxHeartbeats 4000000 in
set_option maxRecDepth 100000 in
theorem M293_X12_common_ (l : Launch) (G : va_G) (cy : Nat → ClassId) (sz : Nat) (j_0 : Int64) (j_1 : Int64) (h0 : mm_rl j_0 1 16777215) (h1 : mm_rl j_1 0 16777214) (h2 : (j_1 : Int64).toInt < (j_0 : Int64).toInt)  : mm_CL l yX12_common_ (mm_ws yX12_common_ cX12_common_ 4 (some .long)) ({ frames := 46, cells := 0, slots := 0, locals := 1058 } : Room) G cy sz [] [.long j_0, .long j_1] (fun u : Unit => []) (fun (r : Int64) (u : Unit) => mm_rl r 1 4611686018427387904) 0 0 := by
  refine mm_begin (lv := [(0, .long j_0), (2, .long j_1)]) (by decide) (Nat.le_of_ble_eq_true rfl) rfl ?_
  intro p e s m below meth c A ls R args Q H locs hRe hQ hAe hx hb hr hlocks hml hown hnm hts hsz hA hS hP hK hD hZ hl
  have hRf : R.frames = 46 := by rw [hRe]
  have hRl : R.locals = 1058 := by rw [hRe]
  have hRc : R.cells = 0 := by rw [hRe]
  have hRs : R.slots = 0 := by rw [hRe]
  refine lv_lload_n hx hb dX12_common__0 rfl (lv_at hl 1 rfl) ?_
  refine lv_lconst (v := 0) hx hb dX12_common__1 (by decide) ?_
  refine W.lcmp hx hb dX12_common__2 ?_
  refine lv_topi (fun v1 ev1 => ?_)
  refine lv_if_ne (tgt := 10) hx hb dX12_common__3 (by decide) (fun c2 => ?_) (fun c2 => ?_)
  · have q3 := mm_neLl (lo := 1) (mm_cmp_ne ev1 c2) h1 mm_kl0 (by decide) (by decide)
    refine lv_lload_n hx hb dX12_common__10 rfl (lv_at hl 1 rfl) ?_
    refine lv_lload_n hx hb dX12_common__11 rfl (lv_at hl 0 rfl) ?_
    refine lv_lload_n hx hb dX12_common__12 rfl (lv_at hl 1 rfl) ?_
    refine lv_lrem hx hb dX12_common__13 (mm_nzl q3 (by decide)) ?_
    refine lv_topl (fun v4 ev4 => ?_)
    have rv4 : mm_rl v4 0 16777213 := mm_reml ev4 h0 q3 (by decide) (by decide)
    have w5 := mm_remlLt ev4 h0 q3 (by decide)
    have q6 : mm_rl v4 0 8388607 := mm_remlHalf ev4 (Int.le_of_lt h2) h0 q3 (by decide)
    refine mm_finlr (va_runS (As := [.long j_1, .long v4]) (rest := []) ⟨hx, hb, hml, hown, hts⟩ (M292_X12_common_ l G cy H.size j_1 v4 (mm_wkl q3 (by decide)) q6) (va_cwS 2 hts (mm_gS mm_w1043 mm_w1044 mm_w5 mm_w1045) rfl rfl rfl hs_X12_common_ ⟨by rw [hRf]; exact Nat.le_of_ble_eq_true rfl, by rw [hRl]; exact Nat.le_of_ble_eq_true rfl⟩) (mm_preS hK hZ hS hA hP hD [] rfl rfl) rfl rfl hl.1 rfl (lv_room (Nat.le_of_ble_eq_true rfl)) dX12_common__14 ⟨by rw [hRc]; exact Nat.le_of_ble_eq_true rfl, by rw [hRs]; exact Nat.le_of_ble_eq_true rfl⟩) hP hD hS hA [] rfl (fun _ => rfl) ?_
    clear hP hD hS
    clear H locs
    intro v7 _u H locs hw hP hD hS
    have w8 := hw
    subst hAe
    rw [hQ]
    exact W.lret (v := v7) hx hb hr (fun t ht hW => ⟨⟨v7, (), rfl, w8, by rw [ht]; exact hP, hK.warm hW, hD⟩, hS.F ht⟩) hS.2.2 dX12_common__17
  · have q9 := mm_eqIl (lo := 0) (hi := 0) (mm_cmp_eq ev1 c2) h1 mm_kl0 (by decide)
    refine lv_lload_n hx hb dX12_common__6 rfl (lv_at hl 0 rfl) ?_
    refine lv_goto (tgt := 17) hx hb dX12_common__7 (by decide) ?_
    subst hAe
    rw [hQ]
    exact W.lret (v := j_0) hx hb hr (fun t ht hW => ⟨⟨j_0, (), rfl, (mm_wkl h0 (by decide)), by rw [ht]; exact hP, hK.warm hW, hD⟩, hS.F ht⟩) hS.2.2 dX12_common__17

set_option maxHeartbeats 4000000 in
set_option maxRecDepth 100000 in
theorem M294_X12_common_ (l : Launch) (G : va_G) (cy : Nat → ClassId) (sz : Nat) (j_0 : Int64) (j_1 : Int64) (h0 : mm_rl j_0 0 4611686018427387904) (h1 : mm_rl j_1 1 16777215)  : mm_CL l yX12_common_ (mm_ws yX12_common_ cX12_common_ 4 (some .long)) ({ frames := 47, cells := 0, slots := 0, locals := 1081 } : Room) G cy sz [] [.long j_0, .long j_1] (fun u : Unit => []) (fun (r : Int64) (u : Unit) => mm_rl r 1 4611686018427387904) 0 0 := by
  refine mm_begin (lv := [(0, .long j_0), (2, .long j_1)]) (by decide) (Nat.le_of_ble_eq_true rfl) rfl ?_
  intro p e s m below meth c A ls R args Q H locs hRe hQ hAe hx hb hr hlocks hml hown hnm hts hsz hA hS hP hK hD hZ hl
  have hRf : R.frames = 47 := by rw [hRe]
  have hRl : R.locals = 1081 := by rw [hRe]
  have hRc : R.cells = 0 := by rw [hRe]
  have hRs : R.slots = 0 := by rw [hRe]
  refine lv_lload_n hx hb dX12_common__0 rfl (lv_at hl 1 rfl) ?_
  refine lv_lconst (v := 0) hx hb dX12_common__1 (by decide) ?_
  refine W.lcmp hx hb dX12_common__2 ?_
  refine lv_topi (fun v1 ev1 => ?_)
  refine lv_if_ne (tgt := 10) hx hb dX12_common__3 (by decide) (fun c2 => ?_) (fun c2 => ?_)
  · refine lv_lload_n hx hb dX12_common__10 rfl (lv_at hl 1 rfl) ?_
    refine lv_lload_n hx hb dX12_common__11 rfl (lv_at hl 0 rfl) ?_
    refine lv_lload_n hx hb dX12_common__12 rfl (lv_at hl 1 rfl) ?_
    refine lv_lrem hx hb dX12_common__13 (mm_nzl h1 (by decide)) ?_
    refine lv_topl (fun v3 ev3 => ?_)
    have rv3 : mm_rl v3 0 16777214 := mm_reml ev3 h0 h1 (by decide) (by decide)
    have w4 := mm_remlLt ev3 h0 h1 (by decide)
    refine mm_finlr (va_runS (As := [.long j_1, .long v3]) (rest := []) ⟨hx, hb, hml, hown, hts⟩ (M293_X12_common_ l G cy H.size j_1 v3 h1 rv3 w4) (va_cwS 2 hts (mm_gS mm_w1043 mm_w1044 mm_w5 mm_w1045) rfl rfl rfl hs_X12_common_ ⟨by rw [hRf]; exact Nat.le_of_ble_eq_true rfl, by rw [hRl]; exact Nat.le_of_ble_eq_true rfl⟩) (mm_preS hK hZ hS hA hP hD [] rfl rfl) rfl rfl hl.1 rfl (lv_room (Nat.le_of_ble_eq_true rfl)) dX12_common__14 ⟨by rw [hRc]; exact Nat.le_of_ble_eq_true rfl, by rw [hRs]; exact Nat.le_of_ble_eq_true rfl⟩) hP hD hS hA [] rfl (fun _ => rfl) ?_
    clear hP hD hS
    clear H locs
    intro v5 _u H locs hw hP hD hS
    have w6 := hw
    subst hAe
    rw [hQ]
    exact W.lret (v := v5) hx hb hr (fun t ht hW => ⟨⟨v5, (), rfl, w6, by rw [ht]; exact hP, hK.warm hW, hD⟩, hS.F ht⟩) hS.2.2 dX12_common__17
  · exact mm_eqNl (mm_cmp_eq ev1 c2).symm mm_kl0 h1 (by decide)

set_option maxHeartbeats 4000000 in
set_option maxRecDepth 100000 in
theorem M295_X12_part (l : Launch) (G : va_G) (cy : Nat → ClassId) (sz : Nat) (j_0 : Int64) (j_1 : Int64) (i_0 : Int32) (h0 : mm_rl j_0 0 4611686018427387904) (h1 : mm_rl j_1 1 10000000) (h2 : mm_rg i_0 0 1)  : mm_CL l yX12_part (mm_ws yX12_part cX12_part 5 (some .long)) ({ frames := 48, cells := 0, slots := 0, locals := 1104 } : Room) G cy sz [] [.long j_0, .long j_1, .int i_0] (fun u : Unit => []) (fun (r : Int64) (u : Unit) => mm_rl r 0 4611686018427387904) 0 0 := by
  refine mm_begin (lv := [(0, .long j_0), (2, .long j_1), (4, .int i_0)]) (by decide) (Nat.le_of_ble_eq_true rfl) rfl ?_
  intro p e s m below meth c A ls R args Q H locs hRe hQ hAe hx hb hr hlocks hml hown hnm hts hsz hA hS hP hK hD hZ hl
  have hRf : R.frames = 48 := by rw [hRe]
  have hRl : R.locals = 1104 := by rw [hRe]
  have hRc : R.cells = 0 := by rw [hRe]
  have hRs : R.slots = 0 := by rw [hRe]
  refine lv_iload hx hb dX12_part_0 (lv_at hl 2 rfl) ?_
  refine lv_if_ne (tgt := 9) hx hb dX12_part_2 (by decide) (fun c1 => ?_) (fun c1 => ?_)
  · have q2 := mm_neL (lo := 1) (mm_ne c1) h2 mm_k0 (by decide) (by decide)
    refine lv_lload_n hx hb dX12_part_9 rfl (lv_at hl 1 rfl) ?_
    refine lv_lload_n hx hb dX12_part_10 rfl (lv_at hl 0 rfl) ?_
    refine lv_lload_n hx hb dX12_part_11 rfl (lv_at hl 1 rfl) ?_
    refine mm_finlr (va_runS (As := [.long j_0, .long j_1]) (rest := [.long j_1]) ⟨hx, hb, hml, hown, hts⟩ (M294_X12_common_ l G cy H.size j_0 j_1 h0 (mm_wkl h1 (by decide))) (va_cwS 2 hts (mm_gS mm_w1043 mm_w1044 mm_w5 mm_w1045) rfl rfl rfl hs_X12_common_ ⟨by rw [hRf]; exact Nat.le_of_ble_eq_true rfl, by rw [hRl]; exact Nat.le_of_ble_eq_true rfl⟩) (mm_preS hK hZ hS hA hP hD [] rfl rfl) rfl rfl hl.1 rfl (lv_room (Nat.le_of_ble_eq_true rfl)) dX12_part_12 ⟨by rw [hRc]; exact Nat.le_of_ble_eq_true rfl, by rw [hRs]; exact Nat.le_of_ble_eq_true rfl⟩) hP hD hS hA [] rfl (fun _ => rfl) ?_
    clear hP hD hS
    clear H locs
    intro v3 _u H locs hw hP hD hS
    have w4 := hw
    refine lv_ldiv hx hb dX12_part_15 (mm_nzl w4 (by decide)) ?_
    refine lv_topl (fun v5 ev5 => ?_)
    have rv5 : mm_rl v5 0 10000000 := mm_divl ev5 h1 w4 (by decide) (by decide)
    subst hAe
    rw [hQ]
    exact W.lret (v := v5) hx hb hr (fun t ht hW => ⟨⟨v5, (), rfl, (mm_wkl rv5 (by decide)), by rw [ht]; exact hP, hK.warm hW, hD⟩, hS.F ht⟩) hS.2.2 dX12_part_16
  · have q6 := mm_eqI (lo := 0) (hi := 0) c1 h2 mm_k0 (by decide)
    refine lv_lload_n hx hb dX12_part_5 rfl (lv_at hl 0 rfl) ?_
    refine lv_goto (tgt := 10) hx hb dX12_part_6 (by decide) ?_
    refine lv_lload_n hx hb dX12_part_10 rfl (lv_at hl 0 rfl) ?_
    refine lv_lload_n hx hb dX12_part_11 rfl (lv_at hl 1 rfl) ?_
    refine mm_finlr (va_runS (As := [.long j_0, .long j_1]) (rest := [.long j_0]) ⟨hx, hb, hml, hown, hts⟩ (M294_X12_common_ l G cy H.size j_0 j_1 h0 (mm_wkl h1 (by decide))) (va_cwS 2 hts (mm_gS mm_w1043 mm_w1044 mm_w5 mm_w1045) rfl rfl rfl hs_X12_common_ ⟨by rw [hRf]; exact Nat.le_of_ble_eq_true rfl, by rw [hRl]; exact Nat.le_of_ble_eq_true rfl⟩) (mm_preS hK hZ hS hA hP hD [] rfl rfl) rfl rfl hl.1 rfl (lv_room (Nat.le_of_ble_eq_true rfl)) dX12_part_12 ⟨by rw [hRc]; exact Nat.le_of_ble_eq_true rfl, by rw [hRs]; exact Nat.le_of_ble_eq_true rfl⟩) hP hD hS hA [] rfl (fun _ => rfl) ?_
    clear hP hD hS
    clear H locs
    intro v7 _u H locs hw hP hD hS
    have w8 := hw
    refine lv_ldiv hx hb dX12_part_15 (mm_nzl w8 (by decide)) ?_
    refine lv_topl (fun v9 ev9 => ?_)
    have rv9 : mm_rl v9 0 4611686018427387904 := mm_divl ev9 h0 w8 (by decide) (by decide)
    subst hAe
    rw [hQ]
    exact W.lret (v := v9) hx hb hr (fun t ht hW => ⟨⟨v9, (), rfl, rv9, by rw [ht]; exact hP, hK.warm hW, hD⟩, hS.F ht⟩) hS.2.2 dX12_part_16

set_option maxHeartbeats 4000000 in
set_option maxRecDepth 100000 in
theorem M296_X12_chance (l : Launch) (G : va_G) (cy : Nat → ClassId) (sz : Nat) (a_0 : Nat) (i_0 : Int32) (i_1 : Int32) (i_2 : Int32) (i_3 : Int32) (i_4 : Int32) (i_5 : Int32) (a_1 : Nat) (a_2 : Nat) (a_3 : Nat) (a_4 : Nat) (a_5 : Nat) (i_6 : Int32) (i_7 : Int32) (i_8 : Int32) (i_9 : Int32) (i_10 : Int32) (j_0 : Int64) (i_11 : Int32) (i_12 : Int32) (i_13 : Int32) (i_14 : Int32) (a_6 : Nat) (a_7 : Nat) (a_8 : Nat) (a_9 : Nat) (a_10 : Nat) (a_11 : Nat) (a_12 : Nat) (a_13 : Nat) (a_14 : Nat) (a_15 : Nat) (a_16 : Nat) (a_17 : Nat) (a_18 : Nat) (i_15 : Int32) (i_16 : Int32) (i_17 : Int32) (i_18 : Int32) (i_19 : Int32) (i_20 : Int32) (a_19 : Nat) (i_21 : Int32) (a_20 : Nat) (i_22 : Int32) (i_23 : Int32) (i_24 : Int32) (i_25 : Int32) (i_26 : Int32) (i_27 : Int32) (i_28 : Int32) (i_29 : Int32) (i_30 : Int32) (i_31 : Int32) (i_32 : Int32) (i_33 : Int32) (i_34 : Int32) (i_35 : Int32) (i_36 : Int32) (i_37 : Int32) (i_38 : Int32) (i_39 : Int32) (i_40 : Int32) (i_41 : Int32) (i_42 : Int32) (i_43 : Int32) (i_44 : Int32) (i_45 : Int32) (i_46 : Int32) (i_47 : Int32) (i_48 : Int32) (i_49 : Int32) (i_50 : Int32) (i_51 : Int32) (i_52 : Int32) (i_53 : Int32) (i_54 : Int32) (i_55 : Int32) (i_56 : Int32) (f_0 : Nat → Int32) (f_1 : Nat → Int32) (f_2 : Nat → Int32) (f_3 : Nat → Int32) (f_4 : Nat → Int32) (f_5 : Nat → Int32) (f_6 : Nat → Int32) (f_7 : Nat → Int32) (f_8 : Nat → Int32) (f_9 : Nat → Int32) (h0 : mm_rg i_15 0 8) (h1 : mm_rg i_22 0 601) (h2 : mm_rg i_23 0 601) (h3 : mm_rg i_24 0 601) (h4 : mm_rg i_25 0 601) (h5 : mm_rg i_26 0 601) (h6 : mm_rg i_27 0 10) (h7 : mm_rg i_28 0 99) (h8 : mm_rg i_29 0 9) (h9 : mm_rg i_30 0 3) (h10 : mm_rg i_31 0 6) (h11 : mm_rg i_32 0 30) (h12 : mm_rg i_33 0 10) (h13 : mm_rg i_34 0 99) (h14 : mm_rg i_35 0 9) (h15 : mm_rg i_36 0 3) (h16 : mm_rg i_37 0 6) (h17 : mm_rg i_38 0 30) (h18 : mm_rg i_39 0 10) (h19 : mm_rg i_40 0 99) (h20 : mm_rg i_41 0 9) (h21 : mm_rg i_42 0 3) (h22 : mm_rg i_43 0 6) (h23 : mm_rg i_44 0 30) (h24 : mm_rg i_45 0 10) (h25 : mm_rg i_46 0 99) (h26 : mm_rg i_47 0 9) (h27 : mm_rg i_48 0 3) (h28 : mm_rg i_49 0 6) (h29 : mm_rg i_50 0 30) (h30 : mm_rg i_51 0 10) (h31 : mm_rg i_52 0 99) (h32 : mm_rg i_53 0 9) (h33 : mm_rg i_54 0 3) (h34 : mm_rg i_55 0 6) (h35 : mm_rg i_56 0 30) (h36 : mm_ar f_0 0 99) (h37 : mm_ar f_1 0 7) (h38 : mm_ar f_2 0 9) (h39 : mm_ar f_3 0 8) (h40 : mm_ar f_4 0 9) (h41 : mm_ar f_5 (-1) 99) (h42 : mm_ar f_6 0 9) (h43 : mm_ar f_7 0 210) (h44 : mm_ar f_8 0 210) (h45 : mm_ar f_9 0 9) (h46 : mm_rls f_1 f_2 0 i_29 i_30) (h47 : mm_txs f_3 f_4 0 i_29 i_31) (h48 : mm_acs f_5 0 i_29 i_30 i_32) (h49 : mm_tl i_22 i_30 i_31) (h50 : mm_rls f_1 f_2 1 i_35 i_36) (h51 : mm_txs f_3 f_4 1 i_35 i_37) (h52 : mm_acs f_5 1 i_35 i_36 i_38) (h53 : mm_tl i_23 i_36 i_37) (h54 : mm_rls f_1 f_2 2 i_41 i_42) (h55 : mm_txs f_3 f_4 2 i_41 i_43) (h56 : mm_acs f_5 2 i_41 i_42 i_44) (h57 : mm_tl i_24 i_42 i_43) (h58 : mm_rls f_1 f_2 3 i_47 i_48) (h59 : mm_txs f_3 f_4 3 i_47 i_49) (h60 : mm_acs f_5 3 i_47 i_48 i_50) (h61 : mm_tl i_25 i_48 i_49)  : mm_CI l yX12_chance (mm_ws yX12_chance cX12_chance 6 (some .int)) ({ frames := 49, cells := 0, slots := 0, locals := 1128 } : Room) G cy sz [(a_0, .inr (12, [.int i_5, .ref a_1, .ref a_2, .ref a_3, .ref a_4, .ref a_5, .int i_6, .int i_7, .int i_8, .int i_9, .int i_10, .long j_0, .int i_11, .int i_12, .int i_13, .int i_14, .ref a_6, .ref a_7, .ref a_8, .ref a_9, .ref a_10, .ref a_11, .ref a_12, .ref a_13, .ref a_14, .ref a_15, .ref a_16, .ref a_17, .ref a_18, .int i_15, .int i_16, .int i_17, .int i_18, .int i_19, .int i_20, .ref a_19, .int i_21, .ref a_20])), (a_6, .inl (cy 1, 5, .inl (mm_g [i_22, i_23, i_24, i_25, i_26]))), (a_7, .inl (cy 1, 30, .inl (mm_g [i_27, i_28, i_29, i_30, i_31, i_32, i_33, i_34, i_35, i_36, i_37, i_38, i_39, i_40, i_41, i_42, i_43, i_44, i_45, i_46, i_47, i_48, i_49, i_50, i_51, i_52, i_53, i_54, i_55, i_56]))), (a_8, .inl (cy 1, 90, .inl f_0)), (a_9, .inl (cy 1, 15, .inl f_1)), (a_10, .inl (cy 1, 1050, .inl f_2)), (a_11, .inl (cy 1, 30, .inl f_3)), (a_12, .inl (cy 1, 240, .inl f_4)), (a_13, .inl (cy 1, 450, .inl f_5)), (a_15, .inl (cy 1, 7200, .inl f_6)), (a_16, .inl (cy 1, 3, .inl f_7)), (a_17, .inl (cy 1, 3, .inl f_8)), (a_18, .inl (cy 1, 8, .inl f_9))] [.ref a_0, .int i_0, .int i_1, .int i_2, .int i_3, .int i_4] (fun u : Int32 × Int32 × Int32 × (Nat → Int32) × (Nat → Int32) × (Nat → Int32) × (Nat → Int32) => [(a_0, .inr (12, [.int 0, .ref a_1, .ref a_2, .ref a_3, .ref a_4, .ref a_5, .int i_6, .int i_7, .int i_8, .int i_9, .int i_10, .long j_0, .int i_11, .int i_12, .int i_13, .int i_14, .ref a_6, .ref a_7, .ref a_8, .ref a_9, .ref a_10, .ref a_11, .ref a_12, .ref a_13, .ref a_14, .ref a_15, .ref a_16, .ref a_17, .ref a_18, .int u.1, .int u.2.1, .int u.2.2.1, .int i_18, .int i_19, .int i_20, .ref a_19, .int i_21, .ref a_20])), (a_6, .inl (cy 1, 5, .inl (mm_g [i_22, i_23, i_24, i_25, i_26]))), (a_7, .inl (cy 1, 30, .inl (mm_g [i_27, i_28, i_29, i_30, i_31, i_32, i_33, i_34, i_35, i_36, i_37, i_38, i_39, i_40, i_41, i_42, i_43, i_44, i_45, i_46, i_47, i_48, i_49, i_50, i_51, i_52, i_53, i_54, i_55, i_56]))), (a_8, .inl (cy 1, 90, .inl f_0)), (a_9, .inl (cy 1, 15, .inl f_1)), (a_10, .inl (cy 1, 1050, .inl f_2)), (a_11, .inl (cy 1, 30, .inl f_3)), (a_12, .inl (cy 1, 240, .inl f_4)), (a_13, .inl (cy 1, 450, .inl f_5)), (a_15, .inl (cy 1, 7200, .inl u.2.2.2.1)), (a_16, .inl (cy 1, 3, .inl u.2.2.2.2.1)), (a_17, .inl (cy 1, 3, .inl u.2.2.2.2.2.1)), (a_18, .inl (cy 1, 8, .inl u.2.2.2.2.2.2))]) (fun (r : Int32) (u : Int32 × Int32 × Int32 × (Nat → Int32) × (Nat → Int32) × (Nat → Int32) × (Nat → Int32)) => mm_rg u.1 0 8 ∧ mm_ar u.2.2.2.1 0 9 ∧ mm_ar u.2.2.2.2.1 0 210 ∧ mm_ar u.2.2.2.2.2.1 0 210 ∧ mm_ar u.2.2.2.2.2.2 0 9 ∧ True) 0 0 := by
  refine mm_begin (lv := [(0, .ref a_0), (1, .int i_0), (2, .int i_1), (3, .int i_2), (4, .int i_3), (5, .int i_4)]) (by decide) (Nat.le_of_ble_eq_true rfl) rfl ?_
  intro p e s m below meth c A ls R args Q H locs hRe hQ hAe hx hb hr hlocks hml hown hnm hts hsz hA hS hP hK hD hZ hl
  have hRf : R.frames = 49 := by rw [hRe]
  have hRl : R.locals = 1128 := by rw [hRe]
  have hRc : R.cells = 0 := by rw [hRe]
  have hRs : R.slots = 0 := by rw [hRe]
  refine lv_aload_n hx hb dX12_chance_0 rfl (lv_at hl 0 rfl) ?_
  refine lv_iconst (v := 0) hx hb dX12_chance_1 (by decide) ?_
  refine va_put (D := G) (ci := 12) (v := .int 0) (ty := tyX12 0) (C := RX12) (T := TX12) (N := 38) hx hb hts (mm_i inlX12) tyX12 tyX12_ok nmX12 hown hK.1 hP hD hS 0 rfl rfl 0 (by decide) (mm_h hts mm_w177) (fun _ h9 => h9) rfl (tyX12_ok 0 (by decide)) rfl rfl (Nat.le_of_ble_eq_true rfl) dX12_chance_2 ?_
  clear hP hD hS
  clear H locs
  intro H locs (hP : va_P G vwCl [(a_0, .inr (12, [.int 0, .ref a_1, .ref a_2, .ref a_3, .ref a_4, .ref a_5, .int i_6, .int i_7, .int i_8, .int i_9, .int i_10, .long j_0, .int i_11, .int i_12, .int i_13, .int i_14, .ref a_6, .ref a_7, .ref a_8, .ref a_9, .ref a_10, .ref a_11, .ref a_12, .ref a_13, .ref a_14, .ref a_15, .ref a_16, .ref a_17, .ref a_18, .int i_15, .int i_16, .int i_17, .int i_18, .int i_19, .int i_20, .ref a_19, .int i_21, .ref a_20])), (a_6, .inl (cy 1, 5, .inl (mm_g [i_22, i_23, i_24, i_25, i_26]))), (a_7, .inl (cy 1, 30, .inl (mm_g [i_27, i_28, i_29, i_30, i_31, i_32, i_33, i_34, i_35, i_36, i_37, i_38, i_39, i_40, i_41, i_42, i_43, i_44, i_45, i_46, i_47, i_48, i_49, i_50, i_51, i_52, i_53, i_54, i_55, i_56]))), (a_8, .inl (cy 1, 90, .inl f_0)), (a_9, .inl (cy 1, 15, .inl f_1)), (a_10, .inl (cy 1, 1050, .inl f_2)), (a_11, .inl (cy 1, 30, .inl f_3)), (a_12, .inl (cy 1, 240, .inl f_4)), (a_13, .inl (cy 1, 450, .inl f_5)), (a_15, .inl (cy 1, 7200, .inl f_6)), (a_16, .inl (cy 1, 3, .inl f_7)), (a_17, .inl (cy 1, 3, .inl f_8)), (a_18, .inl (cy 1, 8, .inl f_9))] H) (hD : va_D A [(a_0, .inr (12, [.int 0, .ref a_1, .ref a_2, .ref a_3, .ref a_4, .ref a_5, .int i_6, .int i_7, .int i_8, .int i_9, .int i_10, .long j_0, .int i_11, .int i_12, .int i_13, .int i_14, .ref a_6, .ref a_7, .ref a_8, .ref a_9, .ref a_10, .ref a_11, .ref a_12, .ref a_13, .ref a_14, .ref a_15, .ref a_16, .ref a_17, .ref a_18, .int i_15, .int i_16, .int i_17, .int i_18, .int i_19, .int i_20, .ref a_19, .int i_21, .ref a_20])), (a_6, .inl (cy 1, 5, .inl (mm_g [i_22, i_23, i_24, i_25, i_26]))), (a_7, .inl (cy 1, 30, .inl (mm_g [i_27, i_28, i_29, i_30, i_31, i_32, i_33, i_34, i_35, i_36, i_37, i_38, i_39, i_40, i_41, i_42, i_43, i_44, i_45, i_46, i_47, i_48, i_49, i_50, i_51, i_52, i_53, i_54, i_55, i_56]))), (a_8, .inl (cy 1, 90, .inl f_0)), (a_9, .inl (cy 1, 15, .inl f_1)), (a_10, .inl (cy 1, 1050, .inl f_2)), (a_11, .inl (cy 1, 30, .inl f_3)), (a_12, .inl (cy 1, 240, .inl f_4)), (a_13, .inl (cy 1, 450, .inl f_5)), (a_15, .inl (cy 1, 7200, .inl f_6)), (a_16, .inl (cy 1, 3, .inl f_7)), (a_17, .inl (cy 1, 3, .inl f_8)), (a_18, .inl (cy 1, 8, .inl f_9))]) hS
  refine lv_aload_n hx hb dX12_chance_5 rfl (lv_at hl 0 rfl) ?_
  refine lv_iload_n hx hb dX12_chance_6 rfl (lv_at hl 1 rfl) ?_
  refine lv_iload_n hx hb dX12_chance_7 rfl (lv_at hl 2 rfl) ?_
  refine lv_iload_n hx hb dX12_chance_8 rfl (lv_at hl 3 rfl) ?_
  refine lv_iload hx hb dX12_chance_9 (lv_at hl 4 rfl) ?_
  refine mm_finir (va_runV (As := [.int i_0, .int i_1, .int i_2, .int i_3]) (rest := []) ⟨hx, hb, hml, hown, hts⟩ (M243_X12_isSent l G cy H.size a_0 i_0 i_1 i_2 i_3 0 a_1 a_2 a_3 a_4 a_5 i_6 i_7 i_8 i_9 i_10 j_0 i_11 i_12 i_13 i_14 a_6 a_7 a_8 a_9 a_10 a_11 a_12 a_13 a_14 a_15 a_16 a_17 a_18 i_15 i_16 i_17 i_18 i_19 i_20 a_19 i_21 a_20 i_27 i_28 i_29 i_30 i_31 i_32 i_33 i_34 i_35 i_36 i_37 i_38 i_39 i_40 i_41 i_42 i_43 i_44 i_45 i_46 i_47 i_48 i_49 i_50 i_51 i_52 i_53 i_54 i_55 i_56 h6 h7 h8 h9 h10 h11 h12 h13 h14 h15 h16 h17 h18 h19 h20 h21 h22 h23 h24 h25 h26 h27 h28 h29 h30 h31 h32 h33 h34 h35) (cwV 4 hts (mm_gV mm_w1512 mm_w1513 mm_w1514 mm_w5 mm_w1515) rfl rfl rfl hd_X12_isSent ⟨by rw [hRf]; exact Nat.le_of_ble_eq_true rfl, by rw [hRl]; exact Nat.le_of_ble_eq_true rfl⟩) (mm_preV hK hZ hS hA hP hD [0, 2] rfl rfl 0 rfl rfl rfl) rfl rfl hl.1 rfl (lv_room (Nat.le_of_ble_eq_true rfl)) dX12_chance_11 ⟨by rw [hRc]; exact Nat.le_of_ble_eq_true rfl, by rw [hRs]; exact Nat.le_of_ble_eq_true rfl⟩) hP hD hS hA [0, 2] rfl (fun _ => rfl) ?_
  clear hP hD hS
  clear H locs
  intro v1 _u H locs hw hP hD hS
  rcases hw with rfl | ⟨rfl, w2, w3, w4, w5, w6⟩
  · refine lv_if_eq (tgt := 52) hx hb dX12_chance_14 (by decide) (fun c7 => ?_) (fun c7 => ?_)
    · refine lv_bipush (v := (-2)) hx hb dX12_chance_52 (by decide) ?_
      subst hAe
      rw [hQ]
      exact W.iret (v := (-2)) hx hb hr (fun t ht hW => ⟨⟨(-2), (i_15, i_16, i_17, f_6, f_7, f_8, f_9), rfl, ⟨h0, h42, h43, h44, h45, trivial⟩, by rw [ht]; exact hP, hK.warm hW, hD⟩, hS.F ht⟩) hS.2.2 dX12_chance_54
    · exact absurd rfl (mm_ne c7)
  · have q8 := mm_ltR (lo := 1) w6 w2 h9 (by decide)
    have q9 : mm_rg i_22 1 601 := mm_tl_3 h49 q8 h1 (by decide)
    refine lv_if_eq (tgt := 52) hx hb dX12_chance_14 (by decide) (fun c10 => ?_) (fun c10 => ?_)
    · exact mm_eqN c10.symm mm_k0 mm_k1 (by decide)
    · refine lv_iload hx hb dX12_chance_17 (lv_at hl 5 rfl) ?_
      refine mm_finir (va_runS (As := [.int i_4]) (rest := []) ⟨hx, hb, hml, hown, hts⟩ (M93_X12_isHalf l G cy H.size i_4 ) (va_cwS 1 hts (mm_gS mm_w592 mm_w593 mm_w5 mm_w594) rfl rfl rfl hs_X12_isHalf ⟨by rw [hRf]; exact Nat.le_of_ble_eq_true rfl, by rw [hRl]; exact Nat.le_of_ble_eq_true rfl⟩) (mm_preS hK hZ hS hA hP hD [] rfl rfl) rfl rfl hl.1 rfl (lv_room (Nat.le_of_ble_eq_true rfl)) dX12_chance_19 ⟨by rw [hRc]; exact Nat.le_of_ble_eq_true rfl, by rw [hRs]; exact Nat.le_of_ble_eq_true rfl⟩) hP hD hS hA [] rfl (fun _ => rfl) ?_
      clear hP hD hS
      clear H locs
      intro v11 _u H locs hw hP hD hS
      rcases hw with rfl | ⟨rfl, w12⟩
      · refine lv_if_eq (tgt := 52) hx hb dX12_chance_22 (by decide) (fun c13 => ?_) (fun c13 => ?_)
        · refine lv_bipush (v := (-2)) hx hb dX12_chance_52 (by decide) ?_
          subst hAe
          rw [hQ]
          exact W.iret (v := (-2)) hx hb hr (fun t ht hW => ⟨⟨(-2), (i_15, i_16, i_17, f_6, f_7, f_8, f_9), rfl, ⟨h0, h42, h43, h44, h45, trivial⟩, by rw [ht]; exact hP, hK.warm hW, hD⟩, hS.F ht⟩) hS.2.2 dX12_chance_54
        · exact absurd rfl (mm_ne c13)
      · refine lv_if_eq (tgt := 52) hx hb dX12_chance_22 (by decide) (fun c14 => ?_) (fun c14 => ?_)
        · exact mm_eqN c14.symm mm_k0 mm_k1 (by decide)
        · refine lv_aload_n hx hb dX12_chance_25 rfl (lv_at hl 0 rfl) ?_
          refine lv_iload_n hx hb dX12_chance_26 rfl (lv_at hl 1 rfl) ?_
          refine lv_iload_n hx hb dX12_chance_27 rfl (lv_at hl 2 rfl) ?_
          refine lv_iload_n hx hb dX12_chance_28 rfl (lv_at hl 3 rfl) ?_
          refine lv_iload hx hb dX12_chance_29 (lv_at hl 4 rfl) ?_
          refine lv_iconst (v := 0) hx hb dX12_chance_31 (by decide) ?_
          refine mm_finl (va_runV (As := [.int i_0, .int i_1, .int i_2, .int i_3, .int 0]) (rest := []) ⟨hx, hb, hml, hown, hts⟩ (M253_X12_weightOf l G cy H.size a_0 i_0 i_1 i_2 i_3 0 a_1 a_2 a_3 a_4 a_5 i_6 i_7 i_8 i_9 i_10 j_0 i_11 i_12 i_13 i_14 a_6 a_7 a_8 a_9 a_10 a_11 a_12 a_13 a_14 a_15 a_16 a_17 a_18 i_15 i_16 i_17 i_18 i_19 i_20 a_19 i_21 a_20 i_22 i_23 i_24 i_25 i_26 i_27 i_28 i_29 i_30 i_31 i_32 i_33 i_34 i_35 i_36 i_37 i_38 i_39 i_40 i_41 i_42 i_43 i_44 i_45 i_46 i_47 i_48 i_49 i_50 i_51 i_52 i_53 i_54 i_55 i_56 f_0 f_1 f_2 f_3 f_4 f_5 f_6 f_7 f_8 f_9 w2 w3 w4 w5 h0 (mm_wk q9 (by decide)) h2 h3 h4 h5 h6 h7 h8 (mm_wk q8 (by decide)) h10 h11 h12 h13 h14 h15 h16 h17 h18 h19 h20 h21 h22 h23 h24 h25 h26 h27 h28 h29 h30 h31 h32 h33 h34 h35 h36 h37 h38 h39 h40 h41 h42 h43 h44 h45 h46 h47 h48 h49 h50 h51 h52 h53 h54 h55 h56 h57 h58 h59 h60 h61 w6) (cwV 5 hts (mm_gV mm_w1516 mm_w1517 mm_w1518 mm_w5 mm_w1519) rfl rfl rfl hd_X12_weightOf ⟨by rw [hRf]; exact Nat.le_of_ble_eq_true rfl, by rw [hRl]; exact Nat.le_of_ble_eq_true rfl⟩) (mm_preV hK hZ hS hA hP hD [0, 1, 2, 3, 4, 5, 6, 7, 8, 9, 10, 11, 12] rfl rfl 0 rfl rfl rfl) rfl rfl hl.1 rfl (lv_room (Nat.le_of_ble_eq_true rfl)) dX12_chance_32 ⟨by rw [hRc]; exact Nat.le_of_ble_eq_true rfl, by rw [hRs]; exact Nat.le_of_ble_eq_true rfl⟩) hP hD hS hA (fun u : Int32 × Int32 × Int32 × (Nat → Int32) × (Nat → Int32) × (Nat → Int32) × (Nat → Int32) => [(a_0, .inr (12, [.int 0, .ref a_1, .ref a_2, .ref a_3, .ref a_4, .ref a_5, .int i_6, .int i_7, .int i_8, .int i_9, .int i_10, .long j_0, .int i_11, .int i_12, .int i_13, .int i_14, .ref a_6, .ref a_7, .ref a_8, .ref a_9, .ref a_10, .ref a_11, .ref a_12, .ref a_13, .ref a_14, .ref a_15, .ref a_16, .ref a_17, .ref a_18, .int u.1, .int u.2.1, .int u.2.2.1, .int i_18, .int i_19, .int i_20, .ref a_19, .int i_21, .ref a_20])), (a_6, .inl (cy 1, 5, .inl (mm_g [i_22, i_23, i_24, i_25, i_26]))), (a_7, .inl (cy 1, 30, .inl (mm_g [i_27, i_28, i_29, i_30, i_31, i_32, i_33, i_34, i_35, i_36, i_37, i_38, i_39, i_40, i_41, i_42, i_43, i_44, i_45, i_46, i_47, i_48, i_49, i_50, i_51, i_52, i_53, i_54, i_55, i_56]))), (a_8, .inl (cy 1, 90, .inl f_0)), (a_9, .inl (cy 1, 15, .inl f_1)), (a_10, .inl (cy 1, 1050, .inl f_2)), (a_11, .inl (cy 1, 30, .inl f_3)), (a_12, .inl (cy 1, 240, .inl f_4)), (a_13, .inl (cy 1, 450, .inl f_5)), (a_15, .inl (cy 1, 7200, .inl u.2.2.2.1)), (a_16, .inl (cy 1, 3, .inl u.2.2.2.2.1)), (a_17, .inl (cy 1, 3, .inl u.2.2.2.2.2.1)), (a_18, .inl (cy 1, 8, .inl u.2.2.2.2.2.2))]) [0, 1, 2, 3, 4, 5, 6, 7, 8, 9, 10, 11, 12] [] (n := 13) (fun _ => rfl) (by decide +kernel) (by decide +kernel) rfl (fun _ => rfl) (wr := []) rfl (fun _ => rfl) (fun _ => @rfl _ ([a_0, a_6, a_7, a_8, a_9, a_10, a_11, a_12, a_13, a_15, a_16, a_17, a_18] : List Nat)) ?_
          clear hP hD hS
          clear H locs
          intro v22 u
          obtain ⟨n15, n16, n17, n18, n19, n20, n21⟩ := u
          intro H locs hw (hP : va_P G vwCl [(a_0, .inr (12, [.int 0, .ref a_1, .ref a_2, .ref a_3, .ref a_4, .ref a_5, .int i_6, .int i_7, .int i_8, .int i_9, .int i_10, .long j_0, .int i_11, .int i_12, .int i_13, .int i_14, .ref a_6, .ref a_7, .ref a_8, .ref a_9, .ref a_10, .ref a_11, .ref a_12, .ref a_13, .ref a_14, .ref a_15, .ref a_16, .ref a_17, .ref a_18, .int n15, .int n16, .int n17, .int i_18, .int i_19, .int i_20, .ref a_19, .int i_21, .ref a_20])), (a_6, .inl (cy 1, 5, .inl (mm_g [i_22, i_23, i_24, i_25, i_26]))), (a_7, .inl (cy 1, 30, .inl (mm_g [i_27, i_28, i_29, i_30, i_31, i_32, i_33, i_34, i_35, i_36, i_37, i_38, i_39, i_40, i_41, i_42, i_43, i_44, i_45, i_46, i_47, i_48, i_49, i_50, i_51, i_52, i_53, i_54, i_55, i_56]))), (a_8, .inl (cy 1, 90, .inl f_0)), (a_9, .inl (cy 1, 15, .inl f_1)), (a_10, .inl (cy 1, 1050, .inl f_2)), (a_11, .inl (cy 1, 30, .inl f_3)), (a_12, .inl (cy 1, 240, .inl f_4)), (a_13, .inl (cy 1, 450, .inl f_5)), (a_15, .inl (cy 1, 7200, .inl n18)), (a_16, .inl (cy 1, 3, .inl n19)), (a_17, .inl (cy 1, 3, .inl n20)), (a_18, .inl (cy 1, 8, .inl n21))] H) (hD : va_D A [(a_0, .inr (12, [.int 0, .ref a_1, .ref a_2, .ref a_3, .ref a_4, .ref a_5, .int i_6, .int i_7, .int i_8, .int i_9, .int i_10, .long j_0, .int i_11, .int i_12, .int i_13, .int i_14, .ref a_6, .ref a_7, .ref a_8, .ref a_9, .ref a_10, .ref a_11, .ref a_12, .ref a_13, .ref a_14, .ref a_15, .ref a_16, .ref a_17, .ref a_18, .int n15, .int n16, .int n17, .int i_18, .int i_19, .int i_20, .ref a_19, .int i_21, .ref a_20])), (a_6, .inl (cy 1, 5, .inl (mm_g [i_22, i_23, i_24, i_25, i_26]))), (a_7, .inl (cy 1, 30, .inl (mm_g [i_27, i_28, i_29, i_30, i_31, i_32, i_33, i_34, i_35, i_36, i_37, i_38, i_39, i_40, i_41, i_42, i_43, i_44, i_45, i_46, i_47, i_48, i_49, i_50, i_51, i_52, i_53, i_54, i_55, i_56]))), (a_8, .inl (cy 1, 90, .inl f_0)), (a_9, .inl (cy 1, 15, .inl f_1)), (a_10, .inl (cy 1, 1050, .inl f_2)), (a_11, .inl (cy 1, 30, .inl f_3)), (a_12, .inl (cy 1, 240, .inl f_4)), (a_13, .inl (cy 1, 450, .inl f_5)), (a_15, .inl (cy 1, 7200, .inl n18)), (a_16, .inl (cy 1, 3, .inl n19)), (a_17, .inl (cy 1, 3, .inl n20)), (a_18, .inl (cy 1, 8, .inl n21))]) hS
          obtain ⟨w23, w24, w25, w26, w27, hw⟩ := hw
          have w28 := hw
          refine lv_ldc2 (v := 10) hx hb hown (mm_h hts mm_w1511) dX12_chance_35 ?_
          refine lv_iload hx hb dX12_chance_38 (lv_at hl 4 rfl) ?_
          refine mm_finlr (va_runS (As := [.long 10, .int i_3]) (rest := [.long v22]) ⟨hx, hb, hml, hown, hts⟩ (M261_X12_power l G cy H.size i_3 w5) (va_cwS 2 hts (mm_gS mm_w1523 mm_w1524 mm_w5 mm_w1525) rfl rfl rfl hs_X12_power ⟨by rw [hRf]; exact Nat.le_of_ble_eq_true rfl, by rw [hRl]; exact Nat.le_of_ble_eq_true rfl⟩) (mm_preS hK hZ hS hA hP hD [] rfl rfl) rfl rfl hl.1 rfl (lv_room (Nat.le_of_ble_eq_true rfl)) dX12_chance_40 ⟨by rw [hRc]; exact Nat.le_of_ble_eq_true rfl, by rw [hRs]; exact Nat.le_of_ble_eq_true rfl⟩) hP hD hS hA [] rfl (fun _ => rfl) ?_
          clear hP hD hS
          clear H locs
          intro v29 _u H locs hw hP hD hS
          obtain ⟨w30, w31⟩ := hw
          refine lv_iload hx hb dX12_chance_43 (lv_at hl 5 rfl) ?_
          refine mm_finlr (va_runS (As := [.long v22, .long v29, .int i_4]) (rest := []) ⟨hx, hb, hml, hown, hts⟩ (M295_X12_part l G cy H.size v22 v29 i_4 (mm_wkl w28 (by decide)) w30 w12) (va_cwS 3 hts (mm_gS mm_w1040 mm_w1041 mm_w5 mm_w1042) rfl rfl rfl hs_X12_part ⟨by rw [hRf]; exact Nat.le_of_ble_eq_true rfl, by rw [hRl]; exact Nat.le_of_ble_eq_true rfl⟩) (mm_preS hK hZ hS hA hP hD [] rfl rfl) rfl rfl hl.1 rfl (lv_room (Nat.le_of_ble_eq_true rfl)) dX12_chance_45 ⟨by rw [hRc]; exact Nat.le_of_ble_eq_true rfl, by rw [hRs]; exact Nat.le_of_ble_eq_true rfl⟩) hP hD hS hA [] rfl (fun _ => rfl) ?_
          clear hP hD hS
          clear H locs
          intro v32 _u H locs hw hP hD hS
          have w33 := hw
          obtain ⟨v34, ev34⟩ : ∃ y : Int32, y = v32.toInt32 := ⟨_, rfl⟩
          refine lv_l2i hx hb dX12_chance_48 ev34.symm ?_
          refine lv_goto (tgt := 54) hx hb dX12_chance_49 (by decide) ?_
          subst hAe
          rw [hQ]
          exact W.iret (v := v34) hx hb hr (fun t ht hW => ⟨⟨v34, (n15, n16, n17, n18, n19, n20, n21), rfl, ⟨w23, w24, w25, w26, w27, trivial⟩, by rw [ht]; exact hP, hK.warm hW, hD⟩, hS.F ht⟩) hS.2.2 dX12_chance_54

set_option maxHeartbeats 4000000 in
set_option maxRecDepth 100000 in
theorem M297_X12_weightOf (l : Launch) (G : va_G) (cy : Nat → ClassId) (sz : Nat) (a_0 : Nat) (i_0 : Int32) (i_1 : Int32) (i_2 : Int32) (i_3 : Int32) (i_4 : Int32) (a_1 : Nat) (a_2 : Nat) (a_3 : Nat) (a_4 : Nat) (a_5 : Nat) (i_5 : Int32) (i_6 : Int32) (i_7 : Int32) (i_8 : Int32) (i_9 : Int32) (j_0 : Int64) (i_10 : Int32) (i_11 : Int32) (i_12 : Int32) (i_13 : Int32) (a_6 : Nat) (a_7 : Nat) (a_8 : Nat) (a_9 : Nat) (a_10 : Nat) (a_11 : Nat) (a_12 : Nat) (a_13 : Nat) (a_14 : Nat) (a_15 : Nat) (a_16 : Nat) (a_17 : Nat) (a_18 : Nat) (i_14 : Int32) (i_15 : Int32) (i_16 : Int32) (i_17 : Int32) (i_18 : Int32) (i_19 : Int32) (a_19 : Nat) (i_20 : Int32) (a_20 : Nat) (i_21 : Int32) (i_22 : Int32) (i_23 : Int32) (i_24 : Int32) (i_25 : Int32) (i_26 : Int32) (i_27 : Int32) (i_28 : Int32) (i_29 : Int32) (i_30 : Int32) (i_31 : Int32) (i_32 : Int32) (i_33 : Int32) (i_34 : Int32) (i_35 : Int32) (i_36 : Int32) (i_37 : Int32) (i_38 : Int32) (i_39 : Int32) (i_40 : Int32) (i_41 : Int32) (i_42 : Int32) (i_43 : Int32) (i_44 : Int32) (i_45 : Int32) (i_46 : Int32) (i_47 : Int32) (i_48 : Int32) (i_49 : Int32) (i_50 : Int32) (i_51 : Int32) (i_52 : Int32) (i_53 : Int32) (i_54 : Int32) (i_55 : Int32) (f_0 : Nat → Int32) (f_1 : Nat → Int32) (f_2 : Nat → Int32) (f_3 : Nat → Int32) (f_4 : Nat → Int32) (f_5 : Nat → Int32) (f_6 : Nat → Int32) (f_7 : Nat → Int32) (f_8 : Nat → Int32) (f_9 : Nat → Int32) (h0 : mm_rg i_0 0 2) (h1 : mm_rg i_1 0 1000000000) (h2 : mm_rg i_2 0 5) (h3 : mm_rg i_3 0 7) (h4 : mm_rg i_14 0 8) (h5 : mm_rg i_21 0 601) (h6 : mm_rg i_22 0 601) (h7 : mm_rg i_23 0 601) (h8 : mm_rg i_24 0 601) (h9 : mm_rg i_25 0 601) (h10 : mm_rg i_26 0 10) (h11 : mm_rg i_27 0 99) (h12 : mm_rg i_28 0 9) (h13 : mm_rg i_29 0 3) (h14 : mm_rg i_30 0 6) (h15 : mm_rg i_31 0 30) (h16 : mm_rg i_32 0 10) (h17 : mm_rg i_33 0 99) (h18 : mm_rg i_34 0 9) (h19 : mm_rg i_35 0 3) (h20 : mm_rg i_36 0 6) (h21 : mm_rg i_37 0 30) (h22 : mm_rg i_38 0 10) (h23 : mm_rg i_39 0 99) (h24 : mm_rg i_40 0 9) (h25 : mm_rg i_41 0 3) (h26 : mm_rg i_42 0 6) (h27 : mm_rg i_43 0 30) (h28 : mm_rg i_44 0 10) (h29 : mm_rg i_45 0 99) (h30 : mm_rg i_46 0 9) (h31 : mm_rg i_47 0 3) (h32 : mm_rg i_48 0 6) (h33 : mm_rg i_49 0 30) (h34 : mm_rg i_50 0 10) (h35 : mm_rg i_51 0 99) (h36 : mm_rg i_52 0 9) (h37 : mm_rg i_53 0 3) (h38 : mm_rg i_54 0 6) (h39 : mm_rg i_55 0 30) (h40 : mm_ar f_0 0 99) (h41 : mm_ar f_1 0 7) (h42 : mm_ar f_2 0 9) (h43 : mm_ar f_3 0 8) (h44 : mm_ar f_4 0 9) (h45 : mm_ar f_5 (-1) 99) (h46 : mm_ar f_6 0 9) (h47 : mm_ar f_7 0 210) (h48 : mm_ar f_8 0 210) (h49 : mm_ar f_9 0 9) (h50 : mm_rls f_1 f_2 0 i_28 i_29) (h51 : mm_txs f_3 f_4 0 i_28 i_30) (h52 : mm_acs f_5 0 i_28 i_29 i_31) (h53 : mm_tl i_21 i_29 i_30) (h54 : mm_rls f_1 f_2 1 i_34 i_35) (h55 : mm_txs f_3 f_4 1 i_34 i_36) (h56 : mm_acs f_5 1 i_34 i_35 i_37) (h57 : mm_tl i_22 i_35 i_36) (h58 : mm_rls f_1 f_2 2 i_40 i_41) (h59 : mm_txs f_3 f_4 2 i_40 i_42) (h60 : mm_acs f_5 2 i_40 i_41 i_43) (h61 : mm_tl i_23 i_41 i_42) (h62 : mm_rls f_1 f_2 3 i_46 i_47) (h63 : mm_txs f_3 f_4 3 i_46 i_48) (h64 : mm_acs f_5 3 i_46 i_47 i_49) (h65 : mm_tl i_24 i_47 i_48) (h66 : (i_0 : Int32).toInt < (i_29 : Int32).toInt)  : mm_CL l yX12_weightOf (mm_ws yX12_weightOf cX12_weightOf 13 (some .long)) ({ frames := 14, cells := 0, slots := 0, locals := 300 } : Room) G cy sz [(a_0, .inr (12, [.int i_4, .ref a_1, .ref a_2, .ref a_3, .ref a_4, .ref a_5, .int i_5, .int i_6, .int i_7, .int i_8, .int i_9, .long j_0, .int i_10, .int i_11, .int i_12, .int i_13, .ref a_6, .ref a_7, .ref a_8, .ref a_9, .ref a_10, .ref a_11, .ref a_12, .ref a_13, .ref a_14, .ref a_15, .ref a_16, .ref a_17, .ref a_18, .int i_14, .int i_15, .int i_16, .int i_17, .int i_18, .int i_19, .ref a_19, .int i_20, .ref a_20])), (a_6, .inl (cy 1, 5, .inl (mm_g [i_21, i_22, i_23, i_24, i_25]))), (a_7, .inl (cy 1, 30, .inl (mm_g [i_26, i_27, i_28, i_29, i_30, i_31, i_32, i_33, i_34, i_35, i_36, i_37, i_38, i_39, i_40, i_41, i_42, i_43, i_44, i_45, i_46, i_47, i_48, i_49, i_50, i_51, i_52, i_53, i_54, i_55]))), (a_8, .inl (cy 1, 90, .inl f_0)), (a_9, .inl (cy 1, 15, .inl f_1)), (a_10, .inl (cy 1, 1050, .inl f_2)), (a_11, .inl (cy 1, 30, .inl f_3)), (a_12, .inl (cy 1, 240, .inl f_4)), (a_13, .inl (cy 1, 450, .inl f_5)), (a_15, .inl (cy 1, 7200, .inl f_6)), (a_16, .inl (cy 1, 3, .inl f_7)), (a_17, .inl (cy 1, 3, .inl f_8)), (a_18, .inl (cy 1, 8, .inl f_9))] [.ref a_0, .int i_0, .int i_1, .int i_2, .int i_3, .int 1] (fun u : Int32 × Int32 × Int32 × (Nat → Int32) × (Nat → Int32) × (Nat → Int32) × (Nat → Int32) => [(a_0, .inr (12, [.int i_4, .ref a_1, .ref a_2, .ref a_3, .ref a_4, .ref a_5, .int i_5, .int i_6, .int i_7, .int i_8, .int i_9, .long j_0, .int i_10, .int i_11, .int i_12, .int i_13, .ref a_6, .ref a_7, .ref a_8, .ref a_9, .ref a_10, .ref a_11, .ref a_12, .ref a_13, .ref a_14, .ref a_15, .ref a_16, .ref a_17, .ref a_18, .int u.1, .int u.2.1, .int u.2.2.1, .int i_17, .int i_18, .int i_19, .ref a_19, .int i_20, .ref a_20])), (a_6, .inl (cy 1, 5, .inl (mm_g [i_21, i_22, i_23, i_24, i_25]))), (a_7, .inl (cy 1, 30, .inl (mm_g [i_26, i_27, i_28, i_29, i_30, i_31, i_32, i_33, i_34, i_35, i_36, i_37, i_38, i_39, i_40, i_41, i_42, i_43, i_44, i_45, i_46, i_47, i_48, i_49, i_50, i_51, i_52, i_53, i_54, i_55]))), (a_8, .inl (cy 1, 90, .inl f_0)), (a_9, .inl (cy 1, 15, .inl f_1)), (a_10, .inl (cy 1, 1050, .inl f_2)), (a_11, .inl (cy 1, 30, .inl f_3)), (a_12, .inl (cy 1, 240, .inl f_4)), (a_13, .inl (cy 1, 450, .inl f_5)), (a_15, .inl (cy 1, 7200, .inl u.2.2.2.1)), (a_16, .inl (cy 1, 3, .inl u.2.2.2.2.1)), (a_17, .inl (cy 1, 3, .inl u.2.2.2.2.2.1)), (a_18, .inl (cy 1, 8, .inl u.2.2.2.2.2.2))]) (fun (r : Int64) (u : Int32 × Int32 × Int32 × (Nat → Int32) × (Nat → Int32) × (Nat → Int32) × (Nat → Int32)) => mm_rg u.1 0 8 ∧ mm_ar u.2.2.2.1 0 9 ∧ mm_ar u.2.2.2.2.1 0 210 ∧ mm_ar u.2.2.2.2.2.1 0 210 ∧ mm_ar u.2.2.2.2.2.2 0 9 ∧ mm_rl r 0 12798720000000) 0 0 := by
  refine mm_begin (lv := [(0, .ref a_0), (1, .int i_0), (2, .int i_1), (3, .int i_2), (4, .int i_3), (5, .int 1)]) (by decide) (Nat.le_of_ble_eq_true rfl) rfl ?_
  intro p e s m below meth c A ls R args Q H locs hRe hQ hAe hx hb hr hlocks hml hown hnm hts hsz hA hS hP hK hD hZ hl
  have hRf : R.frames = 14 := by rw [hRe]
  have hRl : R.locals = 300 := by rw [hRe]
  have hRc : R.cells = 0 := by rw [hRe]
  have hRs : R.slots = 0 := by rw [hRe]
  have q1 := mm_ltR (lo := 1) h66 h0 h13 (by decide)
  have q2 : mm_rg i_21 1 601 := mm_tl_3 h53 q1 h5 (by decide)
  refine lv_aload_n hx hb dX12_weightOf_0 rfl (lv_at hl 0 rfl) ?_
  refine mm_finv (va_runV (As := []) (rest := []) ⟨hx, hb, hml, hown, hts⟩ (M125_X12_lays l G cy H.size a_0 i_4 a_1 a_2 a_3 a_4 a_5 i_5 i_6 i_7 i_8 i_9 j_0 i_10 i_11 i_12 i_13 a_6 a_7 a_8 a_9 a_10 a_11 a_12 a_13 a_14 a_15 a_16 a_17 a_18 i_14 i_15 i_16 i_17 i_18 i_19 a_19 i_20 a_20 i_21 i_22 i_23 i_24 i_25 i_26 i_27 i_28 i_29 i_30 i_31 i_32 i_33 i_34 i_35 i_36 i_37 i_38 i_39 i_40 i_41 i_42 i_43 i_44 i_45 i_46 i_47 i_48 i_49 i_50 i_51 i_52 i_53 i_54 i_55 f_1 f_2 f_5 f_6 f_7 f_8 (mm_wk q2 (by decide)) h6 h7 h8 h9 h10 h11 h12 (mm_wk q1 (by decide)) h14 h15 h16 h17 h18 h19 h20 h21 h22 h23 h24 h25 h26 h27 h28 h29 h30 h31 h32 h33 h34 h35 h36 h37 h38 h39 h41 h42 h45 h46 h47 h48 h50 h52 h53 h54 h56 h57 h58 h60 h61 h62 h64 h65) (cwV 0 hts (mm_gV mm_w686 mm_w687 mm_w688 mm_w5 mm_w689) rfl rfl rfl hd_X12_lays ⟨by rw [hRf]; exact Nat.le_of_ble_eq_true rfl, by rw [hRl]; exact Nat.le_of_ble_eq_true rfl⟩) (mm_preV hK hZ hS hA hP hD [0, 1, 2, 4, 5, 8, 9, 10, 11] rfl rfl 0 rfl rfl rfl) rfl rfl hl.1 rfl (lv_room (Nat.le_of_ble_eq_true rfl)) dX12_weightOf_1 ⟨by rw [hRc]; exact Nat.le_of_ble_eq_true rfl, by rw [hRs]; exact Nat.le_of_ble_eq_true rfl⟩) hP hD hS hA (fun u : (Nat → Int32) × (Nat → Int32) × (Nat → Int32) => [(a_0, .inr (12, [.int i_4, .ref a_1, .ref a_2, .ref a_3, .ref a_4, .ref a_5, .int i_5, .int i_6, .int i_7, .int i_8, .int i_9, .long j_0, .int i_10, .int i_11, .int i_12, .int i_13, .ref a_6, .ref a_7, .ref a_8, .ref a_9, .ref a_10, .ref a_11, .ref a_12, .ref a_13, .ref a_14, .ref a_15, .ref a_16, .ref a_17, .ref a_18, .int i_14, .int i_15, .int i_16, .int i_17, .int i_18, .int i_19, .ref a_19, .int i_20, .ref a_20])), (a_6, .inl (cy 1, 5, .inl (mm_g [i_21, i_22, i_23, i_24, i_25]))), (a_7, .inl (cy 1, 30, .inl (mm_g [i_26, i_27, i_28, i_29, i_30, i_31, i_32, i_33, i_34, i_35, i_36, i_37, i_38, i_39, i_40, i_41, i_42, i_43, i_44, i_45, i_46, i_47, i_48, i_49, i_50, i_51, i_52, i_53, i_54, i_55]))), (a_8, .inl (cy 1, 90, .inl f_0)), (a_9, .inl (cy 1, 15, .inl f_1)), (a_10, .inl (cy 1, 1050, .inl f_2)), (a_11, .inl (cy 1, 30, .inl f_3)), (a_12, .inl (cy 1, 240, .inl f_4)), (a_13, .inl (cy 1, 450, .inl f_5)), (a_15, .inl (cy 1, 7200, .inl u.1)), (a_16, .inl (cy 1, 3, .inl u.2.1)), (a_17, .inl (cy 1, 3, .inl u.2.2)), (a_18, .inl (cy 1, 8, .inl f_9))]) [0, 1, 2, 4, 5, 8, 9, 10, 11] [3, 6, 7, 12] (n := 13) (fun _ => rfl) (by decide +kernel) (by decide +kernel) rfl (fun _ => rfl) (wr := [(a_8, .inl (cy 1, 90, .inl f_0)), (a_11, .inl (cy 1, 30, .inl f_3)), (a_12, .inl (cy 1, 240, .inl f_4)), (a_18, .inl (cy 1, 8, .inl f_9))]) rfl (fun _ => rfl) (fun _ => @rfl _ ([a_0, a_6, a_7, a_9, a_10, a_13, a_15, a_16, a_17] : List Nat)) ?_
  clear hP hD hS
  clear H locs
  intro u
  obtain ⟨n3, n4, n5⟩ := u
  intro H locs hw (hP : va_P G vwCl [(a_0, .inr (12, [.int i_4, .ref a_1, .ref a_2, .ref a_3, .ref a_4, .ref a_5, .int i_5, .int i_6, .int i_7, .int i_8, .int i_9, .long j_0, .int i_10, .int i_11, .int i_12, .int i_13, .ref a_6, .ref a_7, .ref a_8, .ref a_9, .ref a_10, .ref a_11, .ref a_12, .ref a_13, .ref a_14, .ref a_15, .ref a_16, .ref a_17, .ref a_18, .int i_14, .int i_15, .int i_16, .int i_17, .int i_18, .int i_19, .ref a_19, .int i_20, .ref a_20])), (a_6, .inl (cy 1, 5, .inl (mm_g [i_21, i_22, i_23, i_24, i_25]))), (a_7, .inl (cy 1, 30, .inl (mm_g [i_26, i_27, i_28, i_29, i_30, i_31, i_32, i_33, i_34, i_35, i_36, i_37, i_38, i_39, i_40, i_41, i_42, i_43, i_44, i_45, i_46, i_47, i_48, i_49, i_50, i_51, i_52, i_53, i_54, i_55]))), (a_8, .inl (cy 1, 90, .inl f_0)), (a_9, .inl (cy 1, 15, .inl f_1)), (a_10, .inl (cy 1, 1050, .inl f_2)), (a_11, .inl (cy 1, 30, .inl f_3)), (a_12, .inl (cy 1, 240, .inl f_4)), (a_13, .inl (cy 1, 450, .inl f_5)), (a_15, .inl (cy 1, 7200, .inl n3)), (a_16, .inl (cy 1, 3, .inl n4)), (a_17, .inl (cy 1, 3, .inl n5)), (a_18, .inl (cy 1, 8, .inl f_9))] H) (hD : va_D A [(a_0, .inr (12, [.int i_4, .ref a_1, .ref a_2, .ref a_3, .ref a_4, .ref a_5, .int i_5, .int i_6, .int i_7, .int i_8, .int i_9, .long j_0, .int i_10, .int i_11, .int i_12, .int i_13, .ref a_6, .ref a_7, .ref a_8, .ref a_9, .ref a_10, .ref a_11, .ref a_12, .ref a_13, .ref a_14, .ref a_15, .ref a_16, .ref a_17, .ref a_18, .int i_14, .int i_15, .int i_16, .int i_17, .int i_18, .int i_19, .ref a_19, .int i_20, .ref a_20])), (a_6, .inl (cy 1, 5, .inl (mm_g [i_21, i_22, i_23, i_24, i_25]))), (a_7, .inl (cy 1, 30, .inl (mm_g [i_26, i_27, i_28, i_29, i_30, i_31, i_32, i_33, i_34, i_35, i_36, i_37, i_38, i_39, i_40, i_41, i_42, i_43, i_44, i_45, i_46, i_47, i_48, i_49, i_50, i_51, i_52, i_53, i_54, i_55]))), (a_8, .inl (cy 1, 90, .inl f_0)), (a_9, .inl (cy 1, 15, .inl f_1)), (a_10, .inl (cy 1, 1050, .inl f_2)), (a_11, .inl (cy 1, 30, .inl f_3)), (a_12, .inl (cy 1, 240, .inl f_4)), (a_13, .inl (cy 1, 450, .inl f_5)), (a_15, .inl (cy 1, 7200, .inl n3)), (a_16, .inl (cy 1, 3, .inl n4)), (a_17, .inl (cy 1, 3, .inl n5)), (a_18, .inl (cy 1, 8, .inl f_9))]) hS
  obtain ⟨w6, w7, w8, w9, w10⟩ := hw
  replace w9 : mm_laid n4 n5 i_29 := w9
  replace w10 : mm_tab n3 n4 i_28 i_29 := w10
  refine lv_lconst (v := 0) hx hb dX12_weightOf_4 (by decide) ?_
  refine lv_lstore (lv' := [(6, .long 0), (0, .ref a_0), (1, .int i_0), (2, .int i_1), (3, .int i_2), (4, .int i_3), (5, .int 1)]) hx hb dX12_weightOf_5 hl (by decide) rfl ?_
  clear hl
  clear ls
  intro ls hl
  refine lv_iconst (v := 0) hx hb dX12_weightOf_7 (by decide) ?_
  refine lv_istore (lv' := [(8, .int 0), (6, .long 0), (0, .ref a_0), (1, .int i_0), (2, .int i_1), (3, .int i_2), (4, .int i_3), (5, .int 1)]) hx hb dX12_weightOf_8 hl (by decide) rfl ?_
  clear hl
  clear ls
  intro ls hl
  have L10_568 : ∀ (n : Nat) (x10_8_562 : Int32) (x10_6_563 : Int64) (y10_0_29_564 : Int32) (y10_0_30_565 : Int32) (y10_0_31_566 : Int32) (z10_12_567 : Nat → Int32), mm_rg x10_8_562 0 128 → mm_rl x10_6_563 0 12798720000000 → mm_rg y10_0_29_564 0 8 → mm_ar z10_12_567 0 9 → mm_sv 99990000000 x10_8_562 x10_6_563 → (128 - x10_8_562.toInt).toNat < n → ∀ (H : Heap) (locs : List Loc), va_P G vwCl [(a_0, .inr (12, [.int i_4, .ref a_1, .ref a_2, .ref a_3, .ref a_4, .ref a_5, .int i_5, .int i_6, .int i_7, .int i_8, .int i_9, .long j_0, .int i_10, .int i_11, .int i_12, .int i_13, .ref a_6, .ref a_7, .ref a_8, .ref a_9, .ref a_10, .ref a_11, .ref a_12, .ref a_13, .ref a_14, .ref a_15, .ref a_16, .ref a_17, .ref a_18, .int y10_0_29_564, .int y10_0_30_565, .int y10_0_31_566, .int i_17, .int i_18, .int i_19, .ref a_19, .int i_20, .ref a_20])), (a_6, .inl (cy 1, 5, .inl (mm_g [i_21, i_22, i_23, i_24, i_25]))), (a_7, .inl (cy 1, 30, .inl (mm_g [i_26, i_27, i_28, i_29, i_30, i_31, i_32, i_33, i_34, i_35, i_36, i_37, i_38, i_39, i_40, i_41, i_42, i_43, i_44, i_45, i_46, i_47, i_48, i_49, i_50, i_51, i_52, i_53, i_54, i_55]))), (a_8, .inl (cy 1, 90, .inl f_0)), (a_9, .inl (cy 1, 15, .inl f_1)), (a_10, .inl (cy 1, 1050, .inl f_2)), (a_11, .inl (cy 1, 30, .inl f_3)), (a_12, .inl (cy 1, 240, .inl f_4)), (a_13, .inl (cy 1, 450, .inl f_5)), (a_15, .inl (cy 1, 7200, .inl n3)), (a_16, .inl (cy 1, 3, .inl n4)), (a_17, .inl (cy 1, 3, .inl n5)), (a_18, .inl (cy 1, 8, .inl z10_12_567))] H → va_D A [(a_0, .inr (12, [.int i_4, .ref a_1, .ref a_2, .ref a_3, .ref a_4, .ref a_5, .int i_5, .int i_6, .int i_7, .int i_8, .int i_9, .long j_0, .int i_10, .int i_11, .int i_12, .int i_13, .ref a_6, .ref a_7, .ref a_8, .ref a_9, .ref a_10, .ref a_11, .ref a_12, .ref a_13, .ref a_14, .ref a_15, .ref a_16, .ref a_17, .ref a_18, .int y10_0_29_564, .int y10_0_30_565, .int y10_0_31_566, .int i_17, .int i_18, .int i_19, .ref a_19, .int i_20, .ref a_20])), (a_6, .inl (cy 1, 5, .inl (mm_g [i_21, i_22, i_23, i_24, i_25]))), (a_7, .inl (cy 1, 30, .inl (mm_g [i_26, i_27, i_28, i_29, i_30, i_31, i_32, i_33, i_34, i_35, i_36, i_37, i_38, i_39, i_40, i_41, i_42, i_43, i_44, i_45, i_46, i_47, i_48, i_49, i_50, i_51, i_52, i_53, i_54, i_55]))), (a_8, .inl (cy 1, 90, .inl f_0)), (a_9, .inl (cy 1, 15, .inl f_1)), (a_10, .inl (cy 1, 1050, .inl f_2)), (a_11, .inl (cy 1, 30, .inl f_3)), (a_12, .inl (cy 1, 240, .inl f_4)), (a_13, .inl (cy 1, 450, .inl f_5)), (a_15, .inl (cy 1, 7200, .inl n3)), (a_16, .inl (cy 1, 3, .inl n4)), (a_17, .inl (cy 1, 3, .inl n5)), (a_18, .inl (cy 1, 8, .inl z10_12_567))] → va_S A s.heap H locs → ∀ (ls : Array Slot), lv_has ls 13 [(8, .int x10_8_562), (6, .long x10_6_563), (0, .ref a_0), (1, .int i_0), (2, .int i_1), (3, .int i_2), (4, .int i_3), (5, .int 1)] → W p l e R s m args below meth c H locs 0 0 Q (F0 m 10 ls []) := by
    intro n
    induction n with
    | zero => intro x10_8_562 x10_6_563 y10_0_29_564 y10_0_30_565 y10_0_31_566 z10_12_567 rx10_8_562 rx10_6_563 ry10_0_29_564 rz10_12_567 w568 hm; exact absurd hm (Nat.not_lt_zero _)
    | succ n ih10 =>
      intro x10_8_562 x10_6_563 y10_0_29_564 y10_0_30_565 y10_0_31_566 z10_12_567 rx10_8_562 rx10_6_563 ry10_0_29_564 rz10_12_567 w568 hm10 H locs hP hD hS ls hl
      refine lv_iload hx hb dX12_weightOf_10 (lv_at hl 0 rfl) ?_
      refine lv_iconst (v := 1) hx hb dX12_weightOf_12 (by decide) ?_
      refine lv_iload hx hb dX12_weightOf_13 (lv_at hl 6 rfl) ?_
      refine lv_ishl hx hb dX12_weightOf_15 ?_
      refine lv_topi (fun v570 ev570 => ?_)
      have rv570 : mm_rg v570 1 128 := mm_shl1 ev570 h3 (by decide)
      refine lv_icmp_ge (tgt := 111) hx hb dX12_weightOf_16 (by decide) (fun c571 => ?_) (fun c571 => ?_)
      · have q572 := mm_leR (mm_le c571) rv570 rx10_8_562
        refine lv_lload hx hb dX12_weightOf_111 (lv_at hl 1 rfl) ?_
        subst hAe
        rw [hQ]
        exact W.lret (v := x10_6_563) hx hb hr (fun t ht hW => ⟨⟨x10_6_563, (y10_0_29_564, y10_0_30_565, y10_0_31_566, n3, n4, n5, z10_12_567), rfl, ⟨ry10_0_29_564, w6, w7, w8, rz10_12_567, rx10_6_563⟩, by rw [ht]; exact hP, hK.warm hW, hD⟩, hS.F ht⟩) hS.2.2 dX12_weightOf_113
      · have q573 := mm_ltL (h := 127) (mm_nle c571) rx10_8_562 rv570 (by decide)
        have q574 : mm_rl x10_6_563 0 12698730000000 := mm_sv_rl w568 q573 (by decide)
        refine lv_iload hx hb dX12_weightOf_19 (lv_at hl 0 rfl) ?_
        refine mm_finir (va_runS (As := [.int x10_8_562]) (rest := []) ⟨hx, hb, hml, hown, hts⟩ (M244_X12_sizeOf l G cy H.size x10_8_562 q573) (va_cwS 1 hts (mm_gS mm_w1520 mm_w1521 mm_w5 mm_w1522) rfl rfl rfl hs_X12_sizeOf ⟨by rw [hRf]; exact Nat.le_of_ble_eq_true rfl, by rw [hRl]; exact Nat.le_of_ble_eq_true rfl⟩) (mm_preS hK hZ hS hA hP hD [] rfl rfl) rfl rfl hl.1 rfl (lv_room (Nat.le_of_ble_eq_true rfl)) dX12_weightOf_21 ⟨by rw [hRc]; exact Nat.le_of_ble_eq_true rfl, by rw [hRs]; exact Nat.le_of_ble_eq_true rfl⟩) hP hD hS hA [] rfl (fun _ => rfl) ?_
        clear hP hD hS
        clear H locs
        intro v575 _u H locs hw hP hD hS
        obtain ⟨w576, w577⟩ := hw
        have w578 := mm_pcn_le w577 (mm_nle c571) ev570 h3 q573 (by decide)
        refine lv_istore (lv' := [(9, .int v575), (8, .int x10_8_562), (6, .long x10_6_563), (0, .ref a_0), (1, .int i_0), (2, .int i_1), (3, .int i_2), (4, .int i_3), (5, .int 1)]) hx hb dX12_weightOf_24 hl (by decide) rfl ?_
        clear hl
        clear ls
        intro ls hl
        refine lv_aload_n hx hb dX12_weightOf_26 rfl (lv_at hl 3 rfl) ?_
        refine va_get (D := G) (ci := 12) (v := .ref a_7) (C := RX12) (T := TX12) (N := 38) hx hb hts (mm_i inlX12) hown hK.1 hP 0 rfl rfl 17 (by decide) (mm_h hts mm_w149) (fun _ h9 => h9) rfl dX12_weightOf_27 ?_
        refine lv_iconst (v := 0) hx hb dX12_weightOf_30 (by decide) ?_
        refine va_iald hx hb hK.1 hP 2 1 rfl rfl (mm_in mm_k0 (by decide)) dX12_weightOf_31 ?_
        rw [show (mm_g [i_26, i_27, i_28, i_29, i_30, i_31, i_32, i_33, i_34, i_35, i_36, i_37, i_38, i_39, i_40, i_41, i_42, i_43, i_44, i_45, i_46, i_47, i_48, i_49, i_50, i_51, i_52, i_53, i_54, i_55]) (0 : Int32).toNatClampNeg = i_26 from mm_ge 0 (by decide) rfl]
        obtain ⟨v579, ev579⟩ : ∃ y : Int64, y = i_26.toInt64 := ⟨_, rfl⟩
        refine lv_i2l hx hb dX12_weightOf_32 ev579.symm ?_
        have rv579 : mm_rl v579 0 10 := mm_i2l ev579 h10
        refine lv_iload hx hb dX12_weightOf_33 (lv_at hl 0 rfl) ?_
        refine mm_finlr (va_runS (As := [.long v579, .int v575]) (rest := []) ⟨hx, hb, hml, hown, hts⟩ (M252_X12_power l G cy H.size v579 v575 rv579 w576) (va_cwS 2 hts (mm_gS mm_w1523 mm_w1524 mm_w5 mm_w1525) rfl rfl rfl hs_X12_power ⟨by rw [hRf]; exact Nat.le_of_ble_eq_true rfl, by rw [hRl]; exact Nat.le_of_ble_eq_true rfl⟩) (mm_preS hK hZ hS hA hP hD [] rfl rfl) rfl rfl hl.1 rfl (lv_room (Nat.le_of_ble_eq_true rfl)) dX12_weightOf_35 ⟨by rw [hRc]; exact Nat.le_of_ble_eq_true rfl, by rw [hRs]; exact Nat.le_of_ble_eq_true rfl⟩) hP hD hS hA [] rfl (fun _ => rfl) ?_
        clear hP hD hS
        clear H locs
        intro v580 _u H locs hw hP hD hS
        obtain ⟨w581, w582⟩ := hw
        refine lv_ldc2 (v := 10) hx hb hown (mm_h hts mm_w1511) dX12_weightOf_38 ?_
        refine lv_aload_n hx hb dX12_weightOf_41 rfl (lv_at hl 3 rfl) ?_
        refine va_get (D := G) (ci := 12) (v := .ref a_7) (C := RX12) (T := TX12) (N := 38) hx hb hts (mm_i inlX12) hown hK.1 hP 0 rfl rfl 17 (by decide) (mm_h hts mm_w149) (fun _ h9 => h9) rfl dX12_weightOf_42 ?_
        refine lv_iconst (v := 0) hx hb dX12_weightOf_45 (by decide) ?_
        refine va_iald hx hb hK.1 hP 2 1 rfl rfl (mm_in mm_k0 (by decide)) dX12_weightOf_46 ?_
        rw [show (mm_g [i_26, i_27, i_28, i_29, i_30, i_31, i_32, i_33, i_34, i_35, i_36, i_37, i_38, i_39, i_40, i_41, i_42, i_43, i_44, i_45, i_46, i_47, i_48, i_49, i_50, i_51, i_52, i_53, i_54, i_55]) (0 : Int32).toNatClampNeg = i_26 from mm_ge 0 (by decide) rfl]
        obtain ⟨v583, ev583⟩ : ∃ y : Int64, y = i_26.toInt64 := ⟨_, rfl⟩
        refine lv_i2l hx hb dX12_weightOf_47 ev583.symm ?_
        have rv583 : mm_rl v583 0 10 := mm_i2l ev583 h10
        refine lv_lsub hx hb dX12_weightOf_48 ?_
        refine lv_topl (fun v584 ev584 => ?_)
        have rv584 : mm_rl v584 0 10 := mm_subl ev584 mm_kl10 rv583 (by decide) (by decide)
        refine lv_iload hx hb dX12_weightOf_49 (lv_at hl 7 rfl) ?_
        refine lv_iload hx hb dX12_weightOf_51 (lv_at hl 0 rfl) ?_
        refine lv_isub hx hb dX12_weightOf_53 ?_
        refine lv_topi (fun v585 ev585 => ?_)
        have rv585 : mm_rg v585 (-7) 7 := mm_sub ev585 h3 w576 (by decide) (by decide)
        have tv585 := mm_subE ev585 h3 w576 (by decide)
        have q586 : mm_rg v585 0 7 := mm_sub0 ev585 w578 h3 w576 (by decide)
        refine mm_finlr (va_runS (As := [.long v584, .int v585]) (rest := [.long v580]) ⟨hx, hb, hml, hown, hts⟩ (M252_X12_power l G cy H.size v584 v585 rv584 q586) (va_cwS 2 hts (mm_gS mm_w1523 mm_w1524 mm_w5 mm_w1525) rfl rfl rfl hs_X12_power ⟨by rw [hRf]; exact Nat.le_of_ble_eq_true rfl, by rw [hRl]; exact Nat.le_of_ble_eq_true rfl⟩) (mm_preS hK hZ hS hA hP hD [] rfl rfl) rfl rfl hl.1 rfl (lv_room (Nat.le_of_ble_eq_true rfl)) dX12_weightOf_54 ⟨by rw [hRc]; exact Nat.le_of_ble_eq_true rfl, by rw [hRs]; exact Nat.le_of_ble_eq_true rfl⟩) hP hD hS hA [] rfl (fun _ => rfl) ?_
        clear hP hD hS
        clear H locs
        intro v587 _u H locs hw hP hD hS
        obtain ⟨w588, w589⟩ := hw
        refine lv_lmul hx hb dX12_weightOf_57 ?_
        refine lv_topl (fun v590 ev590 => ?_)
        have rv590 : mm_rl v590 0 100000000000000 := mm_mull ev590 w581 w588 (by decide) (by decide)
        have q591 : mm_rl v590 0 10000000 := mm_pw_mul w582 w589 tv585 ev590 h3 w576 q586 (by decide)
        refine lv_lstore (lv' := [(10, .long v590), (9, .int v575), (8, .int x10_8_562), (6, .long x10_6_563), (0, .ref a_0), (1, .int i_0), (2, .int i_1), (3, .int i_2), (4, .int i_3), (5, .int 1)]) hx hb dX12_weightOf_58 hl (by decide) rfl ?_
        clear hl
        clear ls
        intro ls hl
        refine lv_aload_n hx hb dX12_weightOf_60 rfl (lv_at hl 4 rfl) ?_
        refine lv_iload_n hx hb dX12_weightOf_61 rfl (lv_at hl 5 rfl) ?_
        refine lv_iload_n hx hb dX12_weightOf_62 rfl (lv_at hl 6 rfl) ?_
        refine lv_iload hx hb dX12_weightOf_63 (lv_at hl 1 rfl) ?_
        refine lv_iadd hx hb dX12_weightOf_65 ?_
        refine lv_topi (fun v592 ev592 => ?_)
        have rv592 : mm_rg v592 0 1000000007 := mm_add ev592 h1 w576 (by decide) (by decide)
        have tv592 := mm_addE ev592 h1 w576 (by decide)
        refine lv_iload_n hx hb dX12_weightOf_66 rfl (lv_at hl 7 rfl) ?_
        refine mm_fini (va_runV (As := [.int i_0, .int v592, .int i_2]) (rest := []) ⟨hx, hb, hml, hown, hts⟩ (M141_X12_reads l G cy H.size a_0 i_0 v592 i_2 i_4 a_1 a_2 a_3 a_4 a_5 i_5 i_6 i_7 i_8 i_9 j_0 i_10 i_11 i_12 i_13 a_6 a_7 a_8 a_9 a_10 a_11 a_12 a_13 a_14 a_15 a_16 a_17 a_18 y10_0_29_564 y10_0_30_565 y10_0_31_566 i_17 i_18 i_19 a_19 i_20 a_20 i_26 i_27 i_28 i_29 i_30 i_31 i_32 i_33 i_34 i_35 i_36 i_37 i_38 i_39 i_40 i_41 i_42 i_43 i_44 i_45 i_46 i_47 i_48 i_49 i_50 i_51 i_52 i_53 i_54 i_55 f_0 f_3 f_4 f_5 n3 n4 z10_12_567 h0 (mm_wk rv592 (by decide)) h2 ry10_0_29_564 h10 h11 h12 (mm_wk q1 (by decide)) h14 h15 h16 h17 h18 h19 h20 h21 h22 h23 h24 h25 h26 h27 h28 h29 h30 h31 h32 h33 h34 h35 h36 h37 h38 h39 h40 h43 h44 h45 w6 w7 rz10_12_567 h51 h52 h55 h56 h59 h60 h63 h64 (mm_f1_l w9 h66 h0 (by decide))) (cwV 3 hts (mm_gV mm_w852 mm_w853 mm_w854 mm_w5 mm_w855) rfl rfl rfl hd_X12_reads ⟨by rw [hRf]; exact Nat.le_of_ble_eq_true rfl, by rw [hRl]; exact Nat.le_of_ble_eq_true rfl⟩) (mm_preV hK hZ hS hA hP hD [0, 2, 3, 6, 7, 8, 9, 10, 12] rfl rfl 0 rfl rfl rfl) rfl rfl hl.1 rfl (lv_room (Nat.le_of_ble_eq_true rfl)) dX12_weightOf_67 ⟨by rw [hRc]; exact Nat.le_of_ble_eq_true rfl, by rw [hRs]; exact Nat.le_of_ble_eq_true rfl⟩) hP hD hS hA (fun u : Int32 × Int32 × Int32 × (Nat → Int32) => [(a_0, .inr (12, [.int i_4, .ref a_1, .ref a_2, .ref a_3, .ref a_4, .ref a_5, .int i_5, .int i_6, .int i_7, .int i_8, .int i_9, .long j_0, .int i_10, .int i_11, .int i_12, .int i_13, .ref a_6, .ref a_7, .ref a_8, .ref a_9, .ref a_10, .ref a_11, .ref a_12, .ref a_13, .ref a_14, .ref a_15, .ref a_16, .ref a_17, .ref a_18, .int u.1, .int u.2.1, .int u.2.2.1, .int i_17, .int i_18, .int i_19, .ref a_19, .int i_20, .ref a_20])), (a_6, .inl (cy 1, 5, .inl (mm_g [i_21, i_22, i_23, i_24, i_25]))), (a_7, .inl (cy 1, 30, .inl (mm_g [i_26, i_27, i_28, i_29, i_30, i_31, i_32, i_33, i_34, i_35, i_36, i_37, i_38, i_39, i_40, i_41, i_42, i_43, i_44, i_45, i_46, i_47, i_48, i_49, i_50, i_51, i_52, i_53, i_54, i_55]))), (a_8, .inl (cy 1, 90, .inl f_0)), (a_9, .inl (cy 1, 15, .inl f_1)), (a_10, .inl (cy 1, 1050, .inl f_2)), (a_11, .inl (cy 1, 30, .inl f_3)), (a_12, .inl (cy 1, 240, .inl f_4)), (a_13, .inl (cy 1, 450, .inl f_5)), (a_15, .inl (cy 1, 7200, .inl n3)), (a_16, .inl (cy 1, 3, .inl n4)), (a_17, .inl (cy 1, 3, .inl n5)), (a_18, .inl (cy 1, 8, .inl u.2.2.2))]) [0, 2, 3, 6, 7, 8, 9, 10, 12] [1, 4, 5, 11] (n := 13) (fun _ => rfl) (by decide +kernel) (by decide +kernel) rfl (fun _ => rfl) (wr := [(a_6, .inl (cy 1, 5, .inl (mm_g [i_21, i_22, i_23, i_24, i_25]))), (a_9, .inl (cy 1, 15, .inl f_1)), (a_10, .inl (cy 1, 1050, .inl f_2)), (a_17, .inl (cy 1, 3, .inl n5))]) rfl (fun _ => rfl) (fun _ => @rfl _ ([a_0, a_7, a_8, a_11, a_12, a_13, a_15, a_16, a_18] : List Nat)) ?_
        clear hP hD hS
        clear H locs
        intro v597 u
        obtain ⟨n593, n594, n595, n596⟩ := u
        intro H locs hw (hP : va_P G vwCl [(a_0, .inr (12, [.int i_4, .ref a_1, .ref a_2, .ref a_3, .ref a_4, .ref a_5, .int i_5, .int i_6, .int i_7, .int i_8, .int i_9, .long j_0, .int i_10, .int i_11, .int i_12, .int i_13, .ref a_6, .ref a_7, .ref a_8, .ref a_9, .ref a_10, .ref a_11, .ref a_12, .ref a_13, .ref a_14, .ref a_15, .ref a_16, .ref a_17, .ref a_18, .int n593, .int n594, .int n595, .int i_17, .int i_18, .int i_19, .ref a_19, .int i_20, .ref a_20])), (a_6, .inl (cy 1, 5, .inl (mm_g [i_21, i_22, i_23, i_24, i_25]))), (a_7, .inl (cy 1, 30, .inl (mm_g [i_26, i_27, i_28, i_29, i_30, i_31, i_32, i_33, i_34, i_35, i_36, i_37, i_38, i_39, i_40, i_41, i_42, i_43, i_44, i_45, i_46, i_47, i_48, i_49, i_50, i_51, i_52, i_53, i_54, i_55]))), (a_8, .inl (cy 1, 90, .inl f_0)), (a_9, .inl (cy 1, 15, .inl f_1)), (a_10, .inl (cy 1, 1050, .inl f_2)), (a_11, .inl (cy 1, 30, .inl f_3)), (a_12, .inl (cy 1, 240, .inl f_4)), (a_13, .inl (cy 1, 450, .inl f_5)), (a_15, .inl (cy 1, 7200, .inl n3)), (a_16, .inl (cy 1, 3, .inl n4)), (a_17, .inl (cy 1, 3, .inl n5)), (a_18, .inl (cy 1, 8, .inl n596))] H) (hD : va_D A [(a_0, .inr (12, [.int i_4, .ref a_1, .ref a_2, .ref a_3, .ref a_4, .ref a_5, .int i_5, .int i_6, .int i_7, .int i_8, .int i_9, .long j_0, .int i_10, .int i_11, .int i_12, .int i_13, .ref a_6, .ref a_7, .ref a_8, .ref a_9, .ref a_10, .ref a_11, .ref a_12, .ref a_13, .ref a_14, .ref a_15, .ref a_16, .ref a_17, .ref a_18, .int n593, .int n594, .int n595, .int i_17, .int i_18, .int i_19, .ref a_19, .int i_20, .ref a_20])), (a_6, .inl (cy 1, 5, .inl (mm_g [i_21, i_22, i_23, i_24, i_25]))), (a_7, .inl (cy 1, 30, .inl (mm_g [i_26, i_27, i_28, i_29, i_30, i_31, i_32, i_33, i_34, i_35, i_36, i_37, i_38, i_39, i_40, i_41, i_42, i_43, i_44, i_45, i_46, i_47, i_48, i_49, i_50, i_51, i_52, i_53, i_54, i_55]))), (a_8, .inl (cy 1, 90, .inl f_0)), (a_9, .inl (cy 1, 15, .inl f_1)), (a_10, .inl (cy 1, 1050, .inl f_2)), (a_11, .inl (cy 1, 30, .inl f_3)), (a_12, .inl (cy 1, 240, .inl f_4)), (a_13, .inl (cy 1, 450, .inl f_5)), (a_15, .inl (cy 1, 7200, .inl n3)), (a_16, .inl (cy 1, 3, .inl n4)), (a_17, .inl (cy 1, 3, .inl n5)), (a_18, .inl (cy 1, 8, .inl n596))]) hS
        obtain ⟨w598, w599, hw⟩ := hw
        obtain ⟨w600, w601⟩ := hw
        replace w601 : mm_rd n3 n4 f_0 f_3 f_4 f_5 i_0 v592 i_2 i_27 i_28 i_31 v597 := w601
        refine lv_istore (lv' := [(12, .int v597), (10, .long v590), (9, .int v575), (8, .int x10_8_562), (6, .long x10_6_563), (0, .ref a_0), (1, .int i_0), (2, .int i_1), (3, .int i_2), (4, .int i_3), (5, .int 1)]) hx hb dX12_weightOf_70 hl (by decide) rfl ?_
        clear hl
        clear ls
        intro ls hl
        refine lv_lload hx hb dX12_weightOf_72 (lv_at hl 4 rfl) ?_
        refine lv_lload hx hb dX12_weightOf_74 (lv_at hl 1 rfl) ?_
        refine lv_iload hx hb dX12_weightOf_76 (lv_at hl 10 rfl) ?_
        refine lv_if_eq (tgt := 86) hx hb dX12_weightOf_78 (by decide) (fun c602 => ?_) (fun c602 => ?_)
        · exact mm_eqN c602.symm mm_k0 mm_k1 (by decide)
        · refine lv_iload hx hb dX12_weightOf_81 (lv_at hl 0 rfl) ?_
          refine lv_goto (tgt := 100) hx hb dX12_weightOf_83 (by decide) ?_
          obtain ⟨v603, ev603⟩ : ∃ y : Int64, y = v597.toInt64 := ⟨_, rfl⟩
          refine lv_i2l hx hb dX12_weightOf_100 ev603.symm ?_
          have rv603 : mm_rl v603 0 9999 := mm_i2l ev603 w600
          refine lv_lmul hx hb dX12_weightOf_101 ?_
          refine lv_topl (fun v604 ev604 => ?_)
          have rv604 : mm_rl v604 0 99990000000 := mm_mull ev604 q591 rv603 (by decide) (by decide)
          refine lv_ladd hx hb dX12_weightOf_102 ?_
          refine lv_topl (fun v605 ev605 => ?_)
          have rv605 : mm_rl v605 0 12798720000000 := mm_addl ev605 q574 rv604 (by decide) (by decide)
          have tv605 := mm_addlE ev605 q574 rv604 (by decide)
          refine lv_lstore (lv' := [(6, .long v605), (12, .int v597), (10, .long v590), (9, .int v575), (8, .int x10_8_562), (0, .ref a_0), (1, .int i_0), (2, .int i_1), (3, .int i_2), (4, .int i_3), (5, .int 1)]) hx hb dX12_weightOf_103 hl (by decide) rfl ?_
          clear hl
          clear ls
          intro ls hl
          obtain ⟨v606, ev606⟩ : ∃ y : Int32, y = x10_8_562 + 1 := ⟨_, rfl⟩
          refine lv_iinc (v := v606) (lv' := [(8, .int v606), (6, .long v605), (12, .int v597), (10, .long v590), (9, .int v575), (0, .ref a_0), (1, .int i_0), (2, .int i_1), (3, .int i_2), (4, .int i_3), (5, .int 1)]) hx hb dX12_weightOf_105 hl (k := 4) rfl (by rw [ev606]; rfl) (by decide) rfl ?_
          clear hl
          clear ls
          intro ls hl
          have rv606 : mm_rg v606 1 128 := mm_add ev606 q573 mm_k1 (by decide) (by decide)
          have tv606 := mm_addEc ev606 q573 mm_k1 (by decide) (k := 1) (by decide)
          refine lv_goto (tgt := 10) hx hb dX12_weightOf_108 (by decide) ?_
          have w607 : mm_sv 99990000000 v606 v605 := (mm_sv_s w568 tv606 tv605 rv604 (by decide))
          have q608 : mm_rl v605 0 12798720000000 := mm_sv_rl w607 rv606 (by decide)
          exact ih10 v606 v605 n593 n594 n595 n596 (mm_wk rv606 (by decide)) q608 w598 w599 w607 (mm_mu hm10 tv606 (by decide) (rv606).2 (by decide)) H locs hP hD hS ls (lv_sub hl [0, 1, 5, 6, 7, 8, 9, 10] rfl)
  exact L10_568 _ 0 0 i_14 i_15 i_16 f_9 (mm_wk mm_k0 (by decide)) (mm_wkl mm_kl0 (by decide)) h4 h49 (mm_sv_0 _) (Nat.lt_succ_self _) H locs hP hD hS ls (lv_sub hl [0, 1, 2, 3, 4, 5, 6, 7] rfl)

set_option maxHeartbeats 4000000 in
set_option maxRecDepth 100000 in
theorem M298_X12_mean (l : Launch) (G : va_G) (cy : Nat → ClassId) (sz : Nat) (a_0 : Nat) (i_0 : Int32) (i_1 : Int32) (i_2 : Int32) (i_3 : Int32) (i_4 : Int32) (i_5 : Int32) (a_1 : Nat) (a_2 : Nat) (a_3 : Nat) (a_4 : Nat) (a_5 : Nat) (i_6 : Int32) (i_7 : Int32) (i_8 : Int32) (i_9 : Int32) (i_10 : Int32) (j_0 : Int64) (i_11 : Int32) (i_12 : Int32) (i_13 : Int32) (i_14 : Int32) (a_6 : Nat) (a_7 : Nat) (a_8 : Nat) (a_9 : Nat) (a_10 : Nat) (a_11 : Nat) (a_12 : Nat) (a_13 : Nat) (a_14 : Nat) (a_15 : Nat) (a_16 : Nat) (a_17 : Nat) (a_18 : Nat) (i_15 : Int32) (i_16 : Int32) (i_17 : Int32) (i_18 : Int32) (i_19 : Int32) (i_20 : Int32) (a_19 : Nat) (i_21 : Int32) (a_20 : Nat) (i_22 : Int32) (i_23 : Int32) (i_24 : Int32) (i_25 : Int32) (i_26 : Int32) (i_27 : Int32) (i_28 : Int32) (i_29 : Int32) (i_30 : Int32) (i_31 : Int32) (i_32 : Int32) (i_33 : Int32) (i_34 : Int32) (i_35 : Int32) (i_36 : Int32) (i_37 : Int32) (i_38 : Int32) (i_39 : Int32) (i_40 : Int32) (i_41 : Int32) (i_42 : Int32) (i_43 : Int32) (i_44 : Int32) (i_45 : Int32) (i_46 : Int32) (i_47 : Int32) (i_48 : Int32) (i_49 : Int32) (i_50 : Int32) (i_51 : Int32) (i_52 : Int32) (i_53 : Int32) (i_54 : Int32) (i_55 : Int32) (i_56 : Int32) (f_0 : Nat → Int32) (f_1 : Nat → Int32) (f_2 : Nat → Int32) (f_3 : Nat → Int32) (f_4 : Nat → Int32) (f_5 : Nat → Int32) (f_6 : Nat → Int32) (f_7 : Nat → Int32) (f_8 : Nat → Int32) (f_9 : Nat → Int32) (h0 : mm_rg i_15 0 8) (h1 : mm_rg i_22 0 601) (h2 : mm_rg i_23 0 601) (h3 : mm_rg i_24 0 601) (h4 : mm_rg i_25 0 601) (h5 : mm_rg i_26 0 601) (h6 : mm_rg i_27 0 10) (h7 : mm_rg i_28 0 99) (h8 : mm_rg i_29 0 9) (h9 : mm_rg i_30 0 3) (h10 : mm_rg i_31 0 6) (h11 : mm_rg i_32 0 30) (h12 : mm_rg i_33 0 10) (h13 : mm_rg i_34 0 99) (h14 : mm_rg i_35 0 9) (h15 : mm_rg i_36 0 3) (h16 : mm_rg i_37 0 6) (h17 : mm_rg i_38 0 30) (h18 : mm_rg i_39 0 10) (h19 : mm_rg i_40 0 99) (h20 : mm_rg i_41 0 9) (h21 : mm_rg i_42 0 3) (h22 : mm_rg i_43 0 6) (h23 : mm_rg i_44 0 30) (h24 : mm_rg i_45 0 10) (h25 : mm_rg i_46 0 99) (h26 : mm_rg i_47 0 9) (h27 : mm_rg i_48 0 3) (h28 : mm_rg i_49 0 6) (h29 : mm_rg i_50 0 30) (h30 : mm_rg i_51 0 10) (h31 : mm_rg i_52 0 99) (h32 : mm_rg i_53 0 9) (h33 : mm_rg i_54 0 3) (h34 : mm_rg i_55 0 6) (h35 : mm_rg i_56 0 30) (h36 : mm_ar f_0 0 99) (h37 : mm_ar f_1 0 7) (h38 : mm_ar f_2 0 9) (h39 : mm_ar f_3 0 8) (h40 : mm_ar f_4 0 9) (h41 : mm_ar f_5 (-1) 99) (h42 : mm_ar f_6 0 9) (h43 : mm_ar f_7 0 210) (h44 : mm_ar f_8 0 210) (h45 : mm_ar f_9 0 9) (h46 : mm_rls f_1 f_2 0 i_29 i_30) (h47 : mm_txs f_3 f_4 0 i_29 i_31) (h48 : mm_acs f_5 0 i_29 i_30 i_32) (h49 : mm_tl i_22 i_30 i_31) (h50 : mm_rls f_1 f_2 1 i_35 i_36) (h51 : mm_txs f_3 f_4 1 i_35 i_37) (h52 : mm_acs f_5 1 i_35 i_36 i_38) (h53 : mm_tl i_23 i_36 i_37) (h54 : mm_rls f_1 f_2 2 i_41 i_42) (h55 : mm_txs f_3 f_4 2 i_41 i_43) (h56 : mm_acs f_5 2 i_41 i_42 i_44) (h57 : mm_tl i_24 i_42 i_43) (h58 : mm_rls f_1 f_2 3 i_47 i_48) (h59 : mm_txs f_3 f_4 3 i_47 i_49) (h60 : mm_acs f_5 3 i_47 i_48 i_50) (h61 : mm_tl i_25 i_48 i_49)  : mm_CL l yX12_mean (mm_ws yX12_mean cX12_mean 6 (some .long)) ({ frames := 49, cells := 0, slots := 0, locals := 1128 } : Room) G cy sz [(a_0, .inr (12, [.int i_5, .ref a_1, .ref a_2, .ref a_3, .ref a_4, .ref a_5, .int i_6, .int i_7, .int i_8, .int i_9, .int i_10, .long j_0, .int i_11, .int i_12, .int i_13, .int i_14, .ref a_6, .ref a_7, .ref a_8, .ref a_9, .ref a_10, .ref a_11, .ref a_12, .ref a_13, .ref a_14, .ref a_15, .ref a_16, .ref a_17, .ref a_18, .int i_15, .int i_16, .int i_17, .int i_18, .int i_19, .int i_20, .ref a_19, .int i_21, .ref a_20])), (a_6, .inl (cy 1, 5, .inl (mm_g [i_22, i_23, i_24, i_25, i_26]))), (a_7, .inl (cy 1, 30, .inl (mm_g [i_27, i_28, i_29, i_30, i_31, i_32, i_33, i_34, i_35, i_36, i_37, i_38, i_39, i_40, i_41, i_42, i_43, i_44, i_45, i_46, i_47, i_48, i_49, i_50, i_51, i_52, i_53, i_54, i_55, i_56]))), (a_8, .inl (cy 1, 90, .inl f_0)), (a_9, .inl (cy 1, 15, .inl f_1)), (a_10, .inl (cy 1, 1050, .inl f_2)), (a_11, .inl (cy 1, 30, .inl f_3)), (a_12, .inl (cy 1, 240, .inl f_4)), (a_13, .inl (cy 1, 450, .inl f_5)), (a_15, .inl (cy 1, 7200, .inl f_6)), (a_16, .inl (cy 1, 3, .inl f_7)), (a_17, .inl (cy 1, 3, .inl f_8)), (a_18, .inl (cy 1, 8, .inl f_9))] [.ref a_0, .int i_0, .int i_1, .int i_2, .int i_3, .int i_4] (fun u : Int32 × Int32 × Int32 × (Nat → Int32) × (Nat → Int32) × (Nat → Int32) × (Nat → Int32) => [(a_0, .inr (12, [.int 0, .ref a_1, .ref a_2, .ref a_3, .ref a_4, .ref a_5, .int i_6, .int i_7, .int i_8, .int i_9, .int i_10, .long j_0, .int i_11, .int i_12, .int i_13, .int i_14, .ref a_6, .ref a_7, .ref a_8, .ref a_9, .ref a_10, .ref a_11, .ref a_12, .ref a_13, .ref a_14, .ref a_15, .ref a_16, .ref a_17, .ref a_18, .int u.1, .int u.2.1, .int u.2.2.1, .int i_18, .int i_19, .int i_20, .ref a_19, .int i_21, .ref a_20])), (a_6, .inl (cy 1, 5, .inl (mm_g [i_22, i_23, i_24, i_25, i_26]))), (a_7, .inl (cy 1, 30, .inl (mm_g [i_27, i_28, i_29, i_30, i_31, i_32, i_33, i_34, i_35, i_36, i_37, i_38, i_39, i_40, i_41, i_42, i_43, i_44, i_45, i_46, i_47, i_48, i_49, i_50, i_51, i_52, i_53, i_54, i_55, i_56]))), (a_8, .inl (cy 1, 90, .inl f_0)), (a_9, .inl (cy 1, 15, .inl f_1)), (a_10, .inl (cy 1, 1050, .inl f_2)), (a_11, .inl (cy 1, 30, .inl f_3)), (a_12, .inl (cy 1, 240, .inl f_4)), (a_13, .inl (cy 1, 450, .inl f_5)), (a_15, .inl (cy 1, 7200, .inl u.2.2.2.1)), (a_16, .inl (cy 1, 3, .inl u.2.2.2.2.1)), (a_17, .inl (cy 1, 3, .inl u.2.2.2.2.2.1)), (a_18, .inl (cy 1, 8, .inl u.2.2.2.2.2.2))]) (fun (r : Int64) (u : Int32 × Int32 × Int32 × (Nat → Int32) × (Nat → Int32) × (Nat → Int32) × (Nat → Int32)) => mm_rg u.1 0 8 ∧ mm_ar u.2.2.2.1 0 9 ∧ mm_ar u.2.2.2.2.1 0 210 ∧ mm_ar u.2.2.2.2.2.1 0 210 ∧ mm_ar u.2.2.2.2.2.2 0 9 ∧ mm_rl r (-2) 4611686018427387904) 0 0 := by
  refine mm_begin (lv := [(0, .ref a_0), (1, .int i_0), (2, .int i_1), (3, .int i_2), (4, .int i_3), (5, .int i_4)]) (by decide) (Nat.le_of_ble_eq_true rfl) rfl ?_
  intro p e s m below meth c A ls R args Q H locs hRe hQ hAe hx hb hr hlocks hml hown hnm hts hsz hA hS hP hK hD hZ hl
  have hRf : R.frames = 49 := by rw [hRe]
  have hRl : R.locals = 1128 := by rw [hRe]
  have hRc : R.cells = 0 := by rw [hRe]
  have hRs : R.slots = 0 := by rw [hRe]
  refine lv_aload_n hx hb dX12_mean_0 rfl (lv_at hl 0 rfl) ?_
  refine lv_iconst (v := 0) hx hb dX12_mean_1 (by decide) ?_
  refine va_put (D := G) (ci := 12) (v := .int 0) (ty := tyX12 0) (C := RX12) (T := TX12) (N := 38) hx hb hts (mm_i inlX12) tyX12 tyX12_ok nmX12 hown hK.1 hP hD hS 0 rfl rfl 0 (by decide) (mm_h hts mm_w177) (fun _ h9 => h9) rfl (tyX12_ok 0 (by decide)) rfl rfl (Nat.le_of_ble_eq_true rfl) dX12_mean_2 ?_
  clear hP hD hS
  clear H locs
  intro H locs (hP : va_P G vwCl [(a_0, .inr (12, [.int 0, .ref a_1, .ref a_2, .ref a_3, .ref a_4, .ref a_5, .int i_6, .int i_7, .int i_8, .int i_9, .int i_10, .long j_0, .int i_11, .int i_12, .int i_13, .int i_14, .ref a_6, .ref a_7, .ref a_8, .ref a_9, .ref a_10, .ref a_11, .ref a_12, .ref a_13, .ref a_14, .ref a_15, .ref a_16, .ref a_17, .ref a_18, .int i_15, .int i_16, .int i_17, .int i_18, .int i_19, .int i_20, .ref a_19, .int i_21, .ref a_20])), (a_6, .inl (cy 1, 5, .inl (mm_g [i_22, i_23, i_24, i_25, i_26]))), (a_7, .inl (cy 1, 30, .inl (mm_g [i_27, i_28, i_29, i_30, i_31, i_32, i_33, i_34, i_35, i_36, i_37, i_38, i_39, i_40, i_41, i_42, i_43, i_44, i_45, i_46, i_47, i_48, i_49, i_50, i_51, i_52, i_53, i_54, i_55, i_56]))), (a_8, .inl (cy 1, 90, .inl f_0)), (a_9, .inl (cy 1, 15, .inl f_1)), (a_10, .inl (cy 1, 1050, .inl f_2)), (a_11, .inl (cy 1, 30, .inl f_3)), (a_12, .inl (cy 1, 240, .inl f_4)), (a_13, .inl (cy 1, 450, .inl f_5)), (a_15, .inl (cy 1, 7200, .inl f_6)), (a_16, .inl (cy 1, 3, .inl f_7)), (a_17, .inl (cy 1, 3, .inl f_8)), (a_18, .inl (cy 1, 8, .inl f_9))] H) (hD : va_D A [(a_0, .inr (12, [.int 0, .ref a_1, .ref a_2, .ref a_3, .ref a_4, .ref a_5, .int i_6, .int i_7, .int i_8, .int i_9, .int i_10, .long j_0, .int i_11, .int i_12, .int i_13, .int i_14, .ref a_6, .ref a_7, .ref a_8, .ref a_9, .ref a_10, .ref a_11, .ref a_12, .ref a_13, .ref a_14, .ref a_15, .ref a_16, .ref a_17, .ref a_18, .int i_15, .int i_16, .int i_17, .int i_18, .int i_19, .int i_20, .ref a_19, .int i_21, .ref a_20])), (a_6, .inl (cy 1, 5, .inl (mm_g [i_22, i_23, i_24, i_25, i_26]))), (a_7, .inl (cy 1, 30, .inl (mm_g [i_27, i_28, i_29, i_30, i_31, i_32, i_33, i_34, i_35, i_36, i_37, i_38, i_39, i_40, i_41, i_42, i_43, i_44, i_45, i_46, i_47, i_48, i_49, i_50, i_51, i_52, i_53, i_54, i_55, i_56]))), (a_8, .inl (cy 1, 90, .inl f_0)), (a_9, .inl (cy 1, 15, .inl f_1)), (a_10, .inl (cy 1, 1050, .inl f_2)), (a_11, .inl (cy 1, 30, .inl f_3)), (a_12, .inl (cy 1, 240, .inl f_4)), (a_13, .inl (cy 1, 450, .inl f_5)), (a_15, .inl (cy 1, 7200, .inl f_6)), (a_16, .inl (cy 1, 3, .inl f_7)), (a_17, .inl (cy 1, 3, .inl f_8)), (a_18, .inl (cy 1, 8, .inl f_9))]) hS
  refine lv_aload_n hx hb dX12_mean_5 rfl (lv_at hl 0 rfl) ?_
  refine lv_iload_n hx hb dX12_mean_6 rfl (lv_at hl 1 rfl) ?_
  refine lv_iload_n hx hb dX12_mean_7 rfl (lv_at hl 2 rfl) ?_
  refine lv_iload_n hx hb dX12_mean_8 rfl (lv_at hl 3 rfl) ?_
  refine lv_iload hx hb dX12_mean_9 (lv_at hl 4 rfl) ?_
  refine mm_finir (va_runV (As := [.int i_0, .int i_1, .int i_2, .int i_3]) (rest := []) ⟨hx, hb, hml, hown, hts⟩ (M243_X12_isSent l G cy H.size a_0 i_0 i_1 i_2 i_3 0 a_1 a_2 a_3 a_4 a_5 i_6 i_7 i_8 i_9 i_10 j_0 i_11 i_12 i_13 i_14 a_6 a_7 a_8 a_9 a_10 a_11 a_12 a_13 a_14 a_15 a_16 a_17 a_18 i_15 i_16 i_17 i_18 i_19 i_20 a_19 i_21 a_20 i_27 i_28 i_29 i_30 i_31 i_32 i_33 i_34 i_35 i_36 i_37 i_38 i_39 i_40 i_41 i_42 i_43 i_44 i_45 i_46 i_47 i_48 i_49 i_50 i_51 i_52 i_53 i_54 i_55 i_56 h6 h7 h8 h9 h10 h11 h12 h13 h14 h15 h16 h17 h18 h19 h20 h21 h22 h23 h24 h25 h26 h27 h28 h29 h30 h31 h32 h33 h34 h35) (cwV 4 hts (mm_gV mm_w1512 mm_w1513 mm_w1514 mm_w5 mm_w1515) rfl rfl rfl hd_X12_isSent ⟨by rw [hRf]; exact Nat.le_of_ble_eq_true rfl, by rw [hRl]; exact Nat.le_of_ble_eq_true rfl⟩) (mm_preV hK hZ hS hA hP hD [0, 2] rfl rfl 0 rfl rfl rfl) rfl rfl hl.1 rfl (lv_room (Nat.le_of_ble_eq_true rfl)) dX12_mean_11 ⟨by rw [hRc]; exact Nat.le_of_ble_eq_true rfl, by rw [hRs]; exact Nat.le_of_ble_eq_true rfl⟩) hP hD hS hA [0, 2] rfl (fun _ => rfl) ?_
  clear hP hD hS
  clear H locs
  intro v1 _u H locs hw hP hD hS
  rcases hw with rfl | ⟨rfl, w2, w3, w4, w5, w6⟩
  · refine lv_if_eq (tgt := 51) hx hb dX12_mean_14 (by decide) (fun c7 => ?_) (fun c7 => ?_)
    · refine lv_ldc2 (v := (-2)) hx hb hown (mm_h hts mm_w1535) dX12_mean_51 ?_
      subst hAe
      rw [hQ]
      exact W.lret (v := (-2)) hx hb hr (fun t ht hW => ⟨⟨(-2), (i_15, i_16, i_17, f_6, f_7, f_8, f_9), rfl, ⟨h0, h42, h43, h44, h45, (mm_wkl mm_klm2 (by decide))⟩, by rw [ht]; exact hP, hK.warm hW, hD⟩, hS.F ht⟩) hS.2.2 dX12_mean_54
    · exact absurd rfl (mm_ne c7)
  · have q8 := mm_ltR (lo := 1) w6 w2 h9 (by decide)
    have q9 : mm_rg i_22 1 601 := mm_tl_3 h49 q8 h1 (by decide)
    refine lv_if_eq (tgt := 51) hx hb dX12_mean_14 (by decide) (fun c10 => ?_) (fun c10 => ?_)
    · exact mm_eqN c10.symm mm_k0 mm_k1 (by decide)
    · refine lv_iload hx hb dX12_mean_17 (lv_at hl 5 rfl) ?_
      refine mm_finir (va_runS (As := [.int i_4]) (rest := []) ⟨hx, hb, hml, hown, hts⟩ (M93_X12_isHalf l G cy H.size i_4 ) (va_cwS 1 hts (mm_gS mm_w592 mm_w593 mm_w5 mm_w594) rfl rfl rfl hs_X12_isHalf ⟨by rw [hRf]; exact Nat.le_of_ble_eq_true rfl, by rw [hRl]; exact Nat.le_of_ble_eq_true rfl⟩) (mm_preS hK hZ hS hA hP hD [] rfl rfl) rfl rfl hl.1 rfl (lv_room (Nat.le_of_ble_eq_true rfl)) dX12_mean_19 ⟨by rw [hRc]; exact Nat.le_of_ble_eq_true rfl, by rw [hRs]; exact Nat.le_of_ble_eq_true rfl⟩) hP hD hS hA [] rfl (fun _ => rfl) ?_
      clear hP hD hS
      clear H locs
      intro v11 _u H locs hw hP hD hS
      rcases hw with rfl | ⟨rfl, w12⟩
      · refine lv_if_eq (tgt := 51) hx hb dX12_mean_22 (by decide) (fun c13 => ?_) (fun c13 => ?_)
        · refine lv_ldc2 (v := (-2)) hx hb hown (mm_h hts mm_w1535) dX12_mean_51 ?_
          subst hAe
          rw [hQ]
          exact W.lret (v := (-2)) hx hb hr (fun t ht hW => ⟨⟨(-2), (i_15, i_16, i_17, f_6, f_7, f_8, f_9), rfl, ⟨h0, h42, h43, h44, h45, (mm_wkl mm_klm2 (by decide))⟩, by rw [ht]; exact hP, hK.warm hW, hD⟩, hS.F ht⟩) hS.2.2 dX12_mean_54
        · exact absurd rfl (mm_ne c13)
      · refine lv_if_eq (tgt := 51) hx hb dX12_mean_22 (by decide) (fun c14 => ?_) (fun c14 => ?_)
        · exact mm_eqN c14.symm mm_k0 mm_k1 (by decide)
        · refine lv_aload_n hx hb dX12_mean_25 rfl (lv_at hl 0 rfl) ?_
          refine lv_iload_n hx hb dX12_mean_26 rfl (lv_at hl 1 rfl) ?_
          refine lv_iload_n hx hb dX12_mean_27 rfl (lv_at hl 2 rfl) ?_
          refine lv_iload_n hx hb dX12_mean_28 rfl (lv_at hl 3 rfl) ?_
          refine lv_iload hx hb dX12_mean_29 (lv_at hl 4 rfl) ?_
          refine lv_iconst (v := 1) hx hb dX12_mean_31 (by decide) ?_
          refine mm_finl (va_runV (As := [.int i_0, .int i_1, .int i_2, .int i_3, .int 1]) (rest := []) ⟨hx, hb, hml, hown, hts⟩ (M297_X12_weightOf l G cy H.size a_0 i_0 i_1 i_2 i_3 0 a_1 a_2 a_3 a_4 a_5 i_6 i_7 i_8 i_9 i_10 j_0 i_11 i_12 i_13 i_14 a_6 a_7 a_8 a_9 a_10 a_11 a_12 a_13 a_14 a_15 a_16 a_17 a_18 i_15 i_16 i_17 i_18 i_19 i_20 a_19 i_21 a_20 i_22 i_23 i_24 i_25 i_26 i_27 i_28 i_29 i_30 i_31 i_32 i_33 i_34 i_35 i_36 i_37 i_38 i_39 i_40 i_41 i_42 i_43 i_44 i_45 i_46 i_47 i_48 i_49 i_50 i_51 i_52 i_53 i_54 i_55 i_56 f_0 f_1 f_2 f_3 f_4 f_5 f_6 f_7 f_8 f_9 w2 w3 w4 w5 h0 (mm_wk q9 (by decide)) h2 h3 h4 h5 h6 h7 h8 (mm_wk q8 (by decide)) h10 h11 h12 h13 h14 h15 h16 h17 h18 h19 h20 h21 h22 h23 h24 h25 h26 h27 h28 h29 h30 h31 h32 h33 h34 h35 h36 h37 h38 h39 h40 h41 h42 h43 h44 h45 h46 h47 h48 h49 h50 h51 h52 h53 h54 h55 h56 h57 h58 h59 h60 h61 w6) (cwV 5 hts (mm_gV mm_w1516 mm_w1517 mm_w1518 mm_w5 mm_w1519) rfl rfl rfl hd_X12_weightOf ⟨by rw [hRf]; exact Nat.le_of_ble_eq_true rfl, by rw [hRl]; exact Nat.le_of_ble_eq_true rfl⟩) (mm_preV hK hZ hS hA hP hD [0, 1, 2, 3, 4, 5, 6, 7, 8, 9, 10, 11, 12] rfl rfl 0 rfl rfl rfl) rfl rfl hl.1 rfl (lv_room (Nat.le_of_ble_eq_true rfl)) dX12_mean_32 ⟨by rw [hRc]; exact Nat.le_of_ble_eq_true rfl, by rw [hRs]; exact Nat.le_of_ble_eq_true rfl⟩) hP hD hS hA (fun u : Int32 × Int32 × Int32 × (Nat → Int32) × (Nat → Int32) × (Nat → Int32) × (Nat → Int32) => [(a_0, .inr (12, [.int 0, .ref a_1, .ref a_2, .ref a_3, .ref a_4, .ref a_5, .int i_6, .int i_7, .int i_8, .int i_9, .int i_10, .long j_0, .int i_11, .int i_12, .int i_13, .int i_14, .ref a_6, .ref a_7, .ref a_8, .ref a_9, .ref a_10, .ref a_11, .ref a_12, .ref a_13, .ref a_14, .ref a_15, .ref a_16, .ref a_17, .ref a_18, .int u.1, .int u.2.1, .int u.2.2.1, .int i_18, .int i_19, .int i_20, .ref a_19, .int i_21, .ref a_20])), (a_6, .inl (cy 1, 5, .inl (mm_g [i_22, i_23, i_24, i_25, i_26]))), (a_7, .inl (cy 1, 30, .inl (mm_g [i_27, i_28, i_29, i_30, i_31, i_32, i_33, i_34, i_35, i_36, i_37, i_38, i_39, i_40, i_41, i_42, i_43, i_44, i_45, i_46, i_47, i_48, i_49, i_50, i_51, i_52, i_53, i_54, i_55, i_56]))), (a_8, .inl (cy 1, 90, .inl f_0)), (a_9, .inl (cy 1, 15, .inl f_1)), (a_10, .inl (cy 1, 1050, .inl f_2)), (a_11, .inl (cy 1, 30, .inl f_3)), (a_12, .inl (cy 1, 240, .inl f_4)), (a_13, .inl (cy 1, 450, .inl f_5)), (a_15, .inl (cy 1, 7200, .inl u.2.2.2.1)), (a_16, .inl (cy 1, 3, .inl u.2.2.2.2.1)), (a_17, .inl (cy 1, 3, .inl u.2.2.2.2.2.1)), (a_18, .inl (cy 1, 8, .inl u.2.2.2.2.2.2))]) [0, 1, 2, 3, 4, 5, 6, 7, 8, 9, 10, 11, 12] [] (n := 13) (fun _ => rfl) (by decide +kernel) (by decide +kernel) rfl (fun _ => rfl) (wr := []) rfl (fun _ => rfl) (fun _ => @rfl _ ([a_0, a_6, a_7, a_8, a_9, a_10, a_11, a_12, a_13, a_15, a_16, a_17, a_18] : List Nat)) ?_
          clear hP hD hS
          clear H locs
          intro v22 u
          obtain ⟨n15, n16, n17, n18, n19, n20, n21⟩ := u
          intro H locs hw (hP : va_P G vwCl [(a_0, .inr (12, [.int 0, .ref a_1, .ref a_2, .ref a_3, .ref a_4, .ref a_5, .int i_6, .int i_7, .int i_8, .int i_9, .int i_10, .long j_0, .int i_11, .int i_12, .int i_13, .int i_14, .ref a_6, .ref a_7, .ref a_8, .ref a_9, .ref a_10, .ref a_11, .ref a_12, .ref a_13, .ref a_14, .ref a_15, .ref a_16, .ref a_17, .ref a_18, .int n15, .int n16, .int n17, .int i_18, .int i_19, .int i_20, .ref a_19, .int i_21, .ref a_20])), (a_6, .inl (cy 1, 5, .inl (mm_g [i_22, i_23, i_24, i_25, i_26]))), (a_7, .inl (cy 1, 30, .inl (mm_g [i_27, i_28, i_29, i_30, i_31, i_32, i_33, i_34, i_35, i_36, i_37, i_38, i_39, i_40, i_41, i_42, i_43, i_44, i_45, i_46, i_47, i_48, i_49, i_50, i_51, i_52, i_53, i_54, i_55, i_56]))), (a_8, .inl (cy 1, 90, .inl f_0)), (a_9, .inl (cy 1, 15, .inl f_1)), (a_10, .inl (cy 1, 1050, .inl f_2)), (a_11, .inl (cy 1, 30, .inl f_3)), (a_12, .inl (cy 1, 240, .inl f_4)), (a_13, .inl (cy 1, 450, .inl f_5)), (a_15, .inl (cy 1, 7200, .inl n18)), (a_16, .inl (cy 1, 3, .inl n19)), (a_17, .inl (cy 1, 3, .inl n20)), (a_18, .inl (cy 1, 8, .inl n21))] H) (hD : va_D A [(a_0, .inr (12, [.int 0, .ref a_1, .ref a_2, .ref a_3, .ref a_4, .ref a_5, .int i_6, .int i_7, .int i_8, .int i_9, .int i_10, .long j_0, .int i_11, .int i_12, .int i_13, .int i_14, .ref a_6, .ref a_7, .ref a_8, .ref a_9, .ref a_10, .ref a_11, .ref a_12, .ref a_13, .ref a_14, .ref a_15, .ref a_16, .ref a_17, .ref a_18, .int n15, .int n16, .int n17, .int i_18, .int i_19, .int i_20, .ref a_19, .int i_21, .ref a_20])), (a_6, .inl (cy 1, 5, .inl (mm_g [i_22, i_23, i_24, i_25, i_26]))), (a_7, .inl (cy 1, 30, .inl (mm_g [i_27, i_28, i_29, i_30, i_31, i_32, i_33, i_34, i_35, i_36, i_37, i_38, i_39, i_40, i_41, i_42, i_43, i_44, i_45, i_46, i_47, i_48, i_49, i_50, i_51, i_52, i_53, i_54, i_55, i_56]))), (a_8, .inl (cy 1, 90, .inl f_0)), (a_9, .inl (cy 1, 15, .inl f_1)), (a_10, .inl (cy 1, 1050, .inl f_2)), (a_11, .inl (cy 1, 30, .inl f_3)), (a_12, .inl (cy 1, 240, .inl f_4)), (a_13, .inl (cy 1, 450, .inl f_5)), (a_15, .inl (cy 1, 7200, .inl n18)), (a_16, .inl (cy 1, 3, .inl n19)), (a_17, .inl (cy 1, 3, .inl n20)), (a_18, .inl (cy 1, 8, .inl n21))]) hS
          obtain ⟨w23, w24, w25, w26, w27, hw⟩ := hw
          have w28 := hw
          refine lv_ldc2 (v := 10) hx hb hown (mm_h hts mm_w1511) dX12_mean_35 ?_
          refine lv_iload hx hb dX12_mean_38 (lv_at hl 4 rfl) ?_
          refine mm_finlr (va_runS (As := [.long 10, .int i_3]) (rest := [.long v22]) ⟨hx, hb, hml, hown, hts⟩ (M261_X12_power l G cy H.size i_3 w5) (va_cwS 2 hts (mm_gS mm_w1523 mm_w1524 mm_w5 mm_w1525) rfl rfl rfl hs_X12_power ⟨by rw [hRf]; exact Nat.le_of_ble_eq_true rfl, by rw [hRl]; exact Nat.le_of_ble_eq_true rfl⟩) (mm_preS hK hZ hS hA hP hD [] rfl rfl) rfl rfl hl.1 rfl (lv_room (Nat.le_of_ble_eq_true rfl)) dX12_mean_40 ⟨by rw [hRc]; exact Nat.le_of_ble_eq_true rfl, by rw [hRs]; exact Nat.le_of_ble_eq_true rfl⟩) hP hD hS hA [] rfl (fun _ => rfl) ?_
          clear hP hD hS
          clear H locs
          intro v29 _u H locs hw hP hD hS
          obtain ⟨w30, w31⟩ := hw
          refine lv_iload hx hb dX12_mean_43 (lv_at hl 5 rfl) ?_
          refine mm_finlr (va_runS (As := [.long v22, .long v29, .int i_4]) (rest := []) ⟨hx, hb, hml, hown, hts⟩ (M295_X12_part l G cy H.size v22 v29 i_4 (mm_wkl w28 (by decide)) w30 w12) (va_cwS 3 hts (mm_gS mm_w1040 mm_w1041 mm_w5 mm_w1042) rfl rfl rfl hs_X12_part ⟨by rw [hRf]; exact Nat.le_of_ble_eq_true rfl, by rw [hRl]; exact Nat.le_of_ble_eq_true rfl⟩) (mm_preS hK hZ hS hA hP hD [] rfl rfl) rfl rfl hl.1 rfl (lv_room (Nat.le_of_ble_eq_true rfl)) dX12_mean_45 ⟨by rw [hRc]; exact Nat.le_of_ble_eq_true rfl, by rw [hRs]; exact Nat.le_of_ble_eq_true rfl⟩) hP hD hS hA [] rfl (fun _ => rfl) ?_
          clear hP hD hS
          clear H locs
          intro v32 _u H locs hw hP hD hS
          have w33 := hw
          refine lv_goto (tgt := 54) hx hb dX12_mean_48 (by decide) ?_
          subst hAe
          rw [hQ]
          exact W.lret (v := v32) hx hb hr (fun t ht hW => ⟨⟨v32, (n15, n16, n17, n18, n19, n20, n21), rfl, ⟨w23, w24, w25, w26, w27, (mm_wkl w33 (by decide))⟩, by rw [ht]; exact hP, hK.warm hW, hD⟩, hS.F ht⟩) hS.2.2 dX12_mean_54

set_option maxHeartbeats 4000000 in
set_option maxRecDepth 100000 in
theorem M299_X12_does (l : Launch) (G : va_G) (cy : Nat → ClassId) (sz : Nat) (a_0 : Nat) (i_0 : Int32) (i_1 : Int32) (i_2 : Int32) (i_3 : Int32) (a_1 : Nat) (a_2 : Nat) (a_3 : Nat) (a_4 : Nat) (a_5 : Nat) (i_4 : Int32) (i_5 : Int32) (i_6 : Int32) (i_7 : Int32) (i_8 : Int32) (j_0 : Int64) (i_9 : Int32) (i_10 : Int32) (i_11 : Int32) (i_12 : Int32) (a_6 : Nat) (a_7 : Nat) (a_8 : Nat) (a_9 : Nat) (a_10 : Nat) (a_11 : Nat) (a_12 : Nat) (a_13 : Nat) (a_14 : Nat) (a_15 : Nat) (a_16 : Nat) (a_17 : Nat) (a_18 : Nat) (i_13 : Int32) (i_14 : Int32) (i_15 : Int32) (i_16 : Int32) (i_17 : Int32) (i_18 : Int32) (a_19 : Nat) (i_19 : Int32) (a_20 : Nat) (i_20 : Int32) (i_21 : Int32) (i_22 : Int32) (i_23 : Int32) (i_24 : Int32) (i_25 : Int32) (i_26 : Int32) (i_27 : Int32) (i_28 : Int32) (i_29 : Int32) (i_30 : Int32) (i_31 : Int32) (i_32 : Int32) (i_33 : Int32) (i_34 : Int32) (i_35 : Int32) (i_36 : Int32) (i_37 : Int32) (i_38 : Int32) (i_39 : Int32) (i_40 : Int32) (i_41 : Int32) (i_42 : Int32) (i_43 : Int32) (i_44 : Int32) (i_45 : Int32) (i_46 : Int32) (i_47 : Int32) (i_48 : Int32) (i_49 : Int32) (f_0 : Nat → Int32) (h0 : mm_rg i_0 0 2) (h1 : mm_rg i_1 0 9) (h2 : mm_rg i_2 0 9) (h3 : mm_rg i_20 0 10) (h4 : mm_rg i_21 0 99) (h5 : mm_rg i_22 0 9) (h6 : mm_rg i_23 0 3) (h7 : mm_rg i_24 0 6) (h8 : mm_rg i_25 0 29) (h9 : mm_rg i_26 0 10) (h10 : mm_rg i_27 0 99) (h11 : mm_rg i_28 0 9) (h12 : mm_rg i_29 0 3) (h13 : mm_rg i_30 0 6) (h14 : mm_rg i_31 0 30) (h15 : mm_rg i_32 0 10) (h16 : mm_rg i_33 0 99) (h17 : mm_rg i_34 0 9) (h18 : mm_rg i_35 0 3) (h19 : mm_rg i_36 0 6) (h20 : mm_rg i_37 0 30) (h21 : mm_rg i_38 0 10) (h22 : mm_rg i_39 0 99) (h23 : mm_rg i_40 0 9) (h24 : mm_rg i_41 0 3) (h25 : mm_rg i_42 0 6) (h26 : mm_rg i_43 0 30) (h27 : mm_rg i_44 0 10) (h28 : mm_rg i_45 0 99) (h29 : mm_rg i_46 0 9) (h30 : mm_rg i_47 0 3) (h31 : mm_rg i_48 0 6) (h32 : mm_rg i_49 0 30) (h33 : mm_ar f_0 (-1) 99) (h34 : mm_acs f_0 0 i_22 i_23 i_25) (h35 : mm_acs f_0 1 i_28 i_29 i_31) (h36 : mm_acs f_0 2 i_34 i_35 i_37) (h37 : mm_acs f_0 3 i_40 i_41 i_43) (h38 : (i_0 : Int32).toInt < (i_23 : Int32).toInt) (h39 : (i_1 : Int32).toInt ≤ (i_22 : Int32).toInt) (h40 : (i_2 : Int32).toInt ≤ (i_22 : Int32).toInt)  : mm_CV l yX12_does (mm_ws yX12_does cX12_does 5 (none)) ({ frames := 0, cells := 0, slots := 0, locals := 0 } : Room) G cy sz [(a_0, .inr (12, [.int i_3, .ref a_1, .ref a_2, .ref a_3, .ref a_4, .ref a_5, .int i_4, .int i_5, .int i_6, .int i_7, .int i_8, .long j_0, .int i_9, .int i_10, .int i_11, .int i_12, .ref a_6, .ref a_7, .ref a_8, .ref a_9, .ref a_10, .ref a_11, .ref a_12, .ref a_13, .ref a_14, .ref a_15, .ref a_16, .ref a_17, .ref a_18, .int i_13, .int i_14, .int i_15, .int i_16, .int i_17, .int i_18, .ref a_19, .int i_19, .ref a_20])), (a_7, .inl (cy 1, 30, .inl (mm_g [i_20, i_21, i_22, i_23, i_24, i_25, i_26, i_27, i_28, i_29, i_30, i_31, i_32, i_33, i_34, i_35, i_36, i_37, i_38, i_39, i_40, i_41, i_42, i_43, i_44, i_45, i_46, i_47, i_48, i_49]))), (a_13, .inl (cy 1, 450, .inl f_0))] [.ref a_0, .int i_0, .int i_1, .int i_2] (fun u : Int32 × (Nat → Int32) => [(a_0, .inr (12, [.int i_3, .ref a_1, .ref a_2, .ref a_3, .ref a_4, .ref a_5, .int i_4, .int i_5, .int i_6, .int i_7, .int i_8, .long j_0, .int i_9, .int i_10, .int i_11, .int i_12, .ref a_6, .ref a_7, .ref a_8, .ref a_9, .ref a_10, .ref a_11, .ref a_12, .ref a_13, .ref a_14, .ref a_15, .ref a_16, .ref a_17, .ref a_18, .int i_13, .int i_14, .int i_15, .int i_16, .int i_17, .int i_18, .ref a_19, .int i_19, .ref a_20])), (a_7, .inl (cy 1, 30, .inl (mm_g [i_20, i_21, i_22, i_23, i_24, u.1, i_26, i_27, i_28, i_29, i_30, i_31, i_32, i_33, i_34, i_35, i_36, i_37, i_38, i_39, i_40, i_41, i_42, i_43, i_44, i_45, i_46, i_47, i_48, i_49]))), (a_13, .inl (cy 1, 450, .inl u.2))]) (fun u : Int32 × (Nat → Int32) => mm_rg u.1 1 30 ∧ mm_ar u.2 (-1) 99 ∧ mm_acs u.2 0 i_22 i_23 u.1 ∧ mm_acs u.2 1 i_28 i_29 i_31 ∧ mm_acs u.2 2 i_34 i_35 i_37 ∧ mm_acs u.2 3 i_40 i_41 i_43) 0 0 := by
  refine mm_begin (lv := [(0, .ref a_0), (1, .int i_0), (2, .int i_1), (3, .int i_2)]) (by decide) (Nat.le_of_ble_eq_true rfl) rfl ?_
  intro p e s m below meth c A ls R args Q H locs hRe hQ hAe hx hb hr hlocks hml hown hnm hts hsz hA hS hP hK hD hZ hl
  have hRf : R.frames = 0 := by rw [hRe]
  have hRl : R.locals = 0 := by rw [hRe]
  have hRc : R.cells = 0 := by rw [hRe]
  have hRs : R.slots = 0 := by rw [hRe]
  have q1 := mm_ltR (lo := 1) h38 h0 h6 (by decide)
  refine lv_iconst (v := 3) hx hb dX12_does_0 (by decide) ?_
  refine lv_aload_n hx hb dX12_does_1 rfl (lv_at hl 0 rfl) ?_
  refine va_get (D := G) (ci := 12) (v := .ref a_7) (C := RX12) (T := TX12) (N := 38) hx hb hts (mm_i inlX12) hown hK.1 hP 0 rfl rfl 17 (by decide) (mm_h hts mm_w149) (fun _ h9 => h9) rfl dX12_does_2 ?_
  refine lv_iconst (v := 5) hx hb dX12_does_5 (by decide) ?_
  refine va_iald hx hb hK.1 hP 1 1 rfl rfl (mm_in mm_k5 (by decide)) dX12_does_6 ?_
  rw [show (mm_g [i_20, i_21, i_22, i_23, i_24, i_25, i_26, i_27, i_28, i_29, i_30, i_31, i_32, i_33, i_34, i_35, i_36, i_37, i_38, i_39, i_40, i_41, i_42, i_43, i_44, i_45, i_46, i_47, i_48, i_49]) (5 : Int32).toNatClampNeg = i_25 from mm_ge 5 (by decide) rfl]
  refine lv_imul hx hb dX12_does_7 ?_
  refine lv_topi (fun v2 ev2 => ?_)
  have rv2 : mm_rg v2 0 87 := mm_mul ev2 mm_k3 h8 (by decide) (by decide)
  have tv2 := mm_mulEc ev2 mm_k3 h8 (by decide) (k := 3) (by decide)
  refine lv_istore (lv' := [(4, .int v2), (0, .ref a_0), (1, .int i_0), (2, .int i_1), (3, .int i_2)]) hx hb dX12_does_8 hl (by decide) rfl ?_
  clear hl
  clear ls
  intro ls hl
  refine lv_aload_n hx hb dX12_does_10 rfl (lv_at hl 1 rfl) ?_
  refine va_get (D := G) (ci := 12) (v := .ref a_13) (C := RX12) (T := TX12) (N := 38) hx hb hts (mm_i inlX12) hown hK.1 hP 0 rfl rfl 23 (by decide) (mm_h hts mm_w155) (fun _ h9 => h9) rfl dX12_does_11 ?_
  refine lv_iload hx hb dX12_does_14 (lv_at hl 0 rfl) ?_
  refine lv_iload_n hx hb dX12_does_16 rfl (lv_at hl 2 rfl) ?_
  refine va_iast hx hb hK.1 hP hD hS 2 1 rfl rfl (mm_in rv2 (by decide)) dX12_does_17 ?_
  clear hP hD hS
  clear H locs
  obtain ⟨g3, eg3⟩ : ∃ z : Nat → Int32, z = upd f_0 v2.toNatClampNeg i_0 := ⟨_, rfl⟩
  rw [← eg3]
  intro H locs (hP : va_P G vwCl [(a_0, .inr (12, [.int i_3, .ref a_1, .ref a_2, .ref a_3, .ref a_4, .ref a_5, .int i_4, .int i_5, .int i_6, .int i_7, .int i_8, .long j_0, .int i_9, .int i_10, .int i_11, .int i_12, .ref a_6, .ref a_7, .ref a_8, .ref a_9, .ref a_10, .ref a_11, .ref a_12, .ref a_13, .ref a_14, .ref a_15, .ref a_16, .ref a_17, .ref a_18, .int i_13, .int i_14, .int i_15, .int i_16, .int i_17, .int i_18, .ref a_19, .int i_19, .ref a_20])), (a_7, .inl (cy 1, 30, .inl (mm_g [i_20, i_21, i_22, i_23, i_24, i_25, i_26, i_27, i_28, i_29, i_30, i_31, i_32, i_33, i_34, i_35, i_36, i_37, i_38, i_39, i_40, i_41, i_42, i_43, i_44, i_45, i_46, i_47, i_48, i_49]))), (a_13, .inl (cy 1, 450, .inl g3))] H) (hD : va_D A [(a_0, .inr (12, [.int i_3, .ref a_1, .ref a_2, .ref a_3, .ref a_4, .ref a_5, .int i_4, .int i_5, .int i_6, .int i_7, .int i_8, .long j_0, .int i_9, .int i_10, .int i_11, .int i_12, .ref a_6, .ref a_7, .ref a_8, .ref a_9, .ref a_10, .ref a_11, .ref a_12, .ref a_13, .ref a_14, .ref a_15, .ref a_16, .ref a_17, .ref a_18, .int i_13, .int i_14, .int i_15, .int i_16, .int i_17, .int i_18, .ref a_19, .int i_19, .ref a_20])), (a_7, .inl (cy 1, 30, .inl (mm_g [i_20, i_21, i_22, i_23, i_24, i_25, i_26, i_27, i_28, i_29, i_30, i_31, i_32, i_33, i_34, i_35, i_36, i_37, i_38, i_39, i_40, i_41, i_42, i_43, i_44, i_45, i_46, i_47, i_48, i_49]))), (a_13, .inl (cy 1, 450, .inl g3))]) hS
  have rg3 : mm_ar g3 (-1) 99 := by rw [eg3]; exact mm_ar_upd (mm_ar_wk h33 (by decide)) (mm_wk h0 (by decide)) _
  refine lv_aload_n hx hb dX12_does_18 rfl (lv_at hl 1 rfl) ?_
  refine va_get (D := G) (ci := 12) (v := .ref a_13) (C := RX12) (T := TX12) (N := 38) hx hb hts (mm_i inlX12) hown hK.1 hP 0 rfl rfl 23 (by decide) (mm_h hts mm_w155) (fun _ h9 => h9) rfl dX12_does_19 ?_
  refine lv_iload hx hb dX12_does_22 (lv_at hl 0 rfl) ?_
  refine lv_iconst (v := 1) hx hb dX12_does_24 (by decide) ?_
  refine lv_iadd hx hb dX12_does_25 ?_
  refine lv_topi (fun v4 ev4 => ?_)
  have rv4 : mm_rg v4 1 88 := mm_add ev4 rv2 mm_k1 (by decide) (by decide)
  have tv4 := mm_addEc ev4 rv2 mm_k1 (by decide) (k := 1) (by decide)
  refine lv_iload_n hx hb dX12_does_26 rfl (lv_at hl 3 rfl) ?_
  refine va_iast hx hb hK.1 hP hD hS 2 1 rfl rfl (mm_in rv4 (by decide)) dX12_does_27 ?_
  clear hP hD hS
  clear H locs
  obtain ⟨g5, eg5⟩ : ∃ z : Nat → Int32, z = upd g3 v4.toNatClampNeg i_1 := ⟨_, rfl⟩
  rw [← eg5]
  intro H locs (hP : va_P G vwCl [(a_0, .inr (12, [.int i_3, .ref a_1, .ref a_2, .ref a_3, .ref a_4, .ref a_5, .int i_4, .int i_5, .int i_6, .int i_7, .int i_8, .long j_0, .int i_9, .int i_10, .int i_11, .int i_12, .ref a_6, .ref a_7, .ref a_8, .ref a_9, .ref a_10, .ref a_11, .ref a_12, .ref a_13, .ref a_14, .ref a_15, .ref a_16, .ref a_17, .ref a_18, .int i_13, .int i_14, .int i_15, .int i_16, .int i_17, .int i_18, .ref a_19, .int i_19, .ref a_20])), (a_7, .inl (cy 1, 30, .inl (mm_g [i_20, i_21, i_22, i_23, i_24, i_25, i_26, i_27, i_28, i_29, i_30, i_31, i_32, i_33, i_34, i_35, i_36, i_37, i_38, i_39, i_40, i_41, i_42, i_43, i_44, i_45, i_46, i_47, i_48, i_49]))), (a_13, .inl (cy 1, 450, .inl g5))] H) (hD : va_D A [(a_0, .inr (12, [.int i_3, .ref a_1, .ref a_2, .ref a_3, .ref a_4, .ref a_5, .int i_4, .int i_5, .int i_6, .int i_7, .int i_8, .long j_0, .int i_9, .int i_10, .int i_11, .int i_12, .ref a_6, .ref a_7, .ref a_8, .ref a_9, .ref a_10, .ref a_11, .ref a_12, .ref a_13, .ref a_14, .ref a_15, .ref a_16, .ref a_17, .ref a_18, .int i_13, .int i_14, .int i_15, .int i_16, .int i_17, .int i_18, .ref a_19, .int i_19, .ref a_20])), (a_7, .inl (cy 1, 30, .inl (mm_g [i_20, i_21, i_22, i_23, i_24, i_25, i_26, i_27, i_28, i_29, i_30, i_31, i_32, i_33, i_34, i_35, i_36, i_37, i_38, i_39, i_40, i_41, i_42, i_43, i_44, i_45, i_46, i_47, i_48, i_49]))), (a_13, .inl (cy 1, 450, .inl g5))]) hS
  have rg5 : mm_ar g5 (-1) 99 := by rw [eg5]; exact mm_ar_upd (mm_ar_wk rg3 (by decide)) (mm_wk h1 (by decide)) _
  refine lv_aload_n hx hb dX12_does_28 rfl (lv_at hl 1 rfl) ?_
  refine va_get (D := G) (ci := 12) (v := .ref a_13) (C := RX12) (T := TX12) (N := 38) hx hb hts (mm_i inlX12) hown hK.1 hP 0 rfl rfl 23 (by decide) (mm_h hts mm_w155) (fun _ h9 => h9) rfl dX12_does_29 ?_
  refine lv_iload hx hb dX12_does_32 (lv_at hl 0 rfl) ?_
  refine lv_iconst (v := 2) hx hb dX12_does_34 (by decide) ?_
  refine lv_iadd hx hb dX12_does_35 ?_
  refine lv_topi (fun v6 ev6 => ?_)
  have rv6 : mm_rg v6 2 89 := mm_add ev6 rv2 mm_k2 (by decide) (by decide)
  have tv6 := mm_addEc ev6 rv2 mm_k2 (by decide) (k := 2) (by decide)
  refine lv_iload_n hx hb dX12_does_36 rfl (lv_at hl 4 rfl) ?_
  refine va_iast hx hb hK.1 hP hD hS 2 1 rfl rfl (mm_in rv6 (by decide)) dX12_does_37 ?_
  clear hP hD hS
  clear H locs
  obtain ⟨g7, eg7⟩ : ∃ z : Nat → Int32, z = upd g5 v6.toNatClampNeg i_2 := ⟨_, rfl⟩
  rw [← eg7]
  intro H locs (hP : va_P G vwCl [(a_0, .inr (12, [.int i_3, .ref a_1, .ref a_2, .ref a_3, .ref a_4, .ref a_5, .int i_4, .int i_5, .int i_6, .int i_7, .int i_8, .long j_0, .int i_9, .int i_10, .int i_11, .int i_12, .ref a_6, .ref a_7, .ref a_8, .ref a_9, .ref a_10, .ref a_11, .ref a_12, .ref a_13, .ref a_14, .ref a_15, .ref a_16, .ref a_17, .ref a_18, .int i_13, .int i_14, .int i_15, .int i_16, .int i_17, .int i_18, .ref a_19, .int i_19, .ref a_20])), (a_7, .inl (cy 1, 30, .inl (mm_g [i_20, i_21, i_22, i_23, i_24, i_25, i_26, i_27, i_28, i_29, i_30, i_31, i_32, i_33, i_34, i_35, i_36, i_37, i_38, i_39, i_40, i_41, i_42, i_43, i_44, i_45, i_46, i_47, i_48, i_49]))), (a_13, .inl (cy 1, 450, .inl g7))] H) (hD : va_D A [(a_0, .inr (12, [.int i_3, .ref a_1, .ref a_2, .ref a_3, .ref a_4, .ref a_5, .int i_4, .int i_5, .int i_6, .int i_7, .int i_8, .long j_0, .int i_9, .int i_10, .int i_11, .int i_12, .ref a_6, .ref a_7, .ref a_8, .ref a_9, .ref a_10, .ref a_11, .ref a_12, .ref a_13, .ref a_14, .ref a_15, .ref a_16, .ref a_17, .ref a_18, .int i_13, .int i_14, .int i_15, .int i_16, .int i_17, .int i_18, .ref a_19, .int i_19, .ref a_20])), (a_7, .inl (cy 1, 30, .inl (mm_g [i_20, i_21, i_22, i_23, i_24, i_25, i_26, i_27, i_28, i_29, i_30, i_31, i_32, i_33, i_34, i_35, i_36, i_37, i_38, i_39, i_40, i_41, i_42, i_43, i_44, i_45, i_46, i_47, i_48, i_49]))), (a_13, .inl (cy 1, 450, .inl g7))]) hS
  have rg7 : mm_ar g7 (-1) 99 := by rw [eg7]; exact mm_ar_upd (mm_ar_wk rg5 (by decide)) (mm_wk h2 (by decide)) _
  refine lv_aload_n hx hb dX12_does_38 rfl (lv_at hl 1 rfl) ?_
  refine va_get (D := G) (ci := 12) (v := .ref a_7) (C := RX12) (T := TX12) (N := 38) hx hb hts (mm_i inlX12) hown hK.1 hP 0 rfl rfl 17 (by decide) (mm_h hts mm_w149) (fun _ h9 => h9) rfl dX12_does_39 ?_
  refine lv_iconst (v := 5) hx hb dX12_does_42 (by decide) ?_
  refine lv_dup2_11 hx hb dX12_does_43 rfl rfl ?_
  refine va_iald hx hb hK.1 hP 1 1 rfl rfl (mm_in mm_k5 (by decide)) dX12_does_44 ?_
  rw [show (mm_g [i_20, i_21, i_22, i_23, i_24, i_25, i_26, i_27, i_28, i_29, i_30, i_31, i_32, i_33, i_34, i_35, i_36, i_37, i_38, i_39, i_40, i_41, i_42, i_43, i_44, i_45, i_46, i_47, i_48, i_49]) (5 : Int32).toNatClampNeg = i_25 from mm_ge 5 (by decide) rfl]
  refine lv_iconst (v := 1) hx hb dX12_does_45 (by decide) ?_
  refine lv_iadd hx hb dX12_does_46 ?_
  refine lv_topi (fun v8 ev8 => ?_)
  have rv8 : mm_rg v8 1 30 := mm_add ev8 h8 mm_k1 (by decide) (by decide)
  have tv8 := mm_addEc ev8 h8 mm_k1 (by decide) (k := 1) (by decide)
  refine va_iast hx hb hK.1 hP hD hS 1 1 rfl rfl (mm_in mm_k5 (by decide)) dX12_does_47 ?_
  clear hP hD hS
  clear H locs
  rw [show upd (mm_g [i_20, i_21, i_22, i_23, i_24, i_25, i_26, i_27, i_28, i_29, i_30, i_31, i_32, i_33, i_34, i_35, i_36, i_37, i_38, i_39, i_40, i_41, i_42, i_43, i_44, i_45, i_46, i_47, i_48, i_49]) (5 : Int32).toNatClampNeg v8 = (mm_g [i_20, i_21, i_22, i_23, i_24, v8, i_26, i_27, i_28, i_29, i_30, i_31, i_32, i_33, i_34, i_35, i_36, i_37, i_38, i_39, i_40, i_41, i_42, i_43, i_44, i_45, i_46, i_47, i_48, i_49]) from mm_gs2 5 30 (by decide) rfl rfl rfl]
  intro H locs (hP : va_P G vwCl [(a_0, .inr (12, [.int i_3, .ref a_1, .ref a_2, .ref a_3, .ref a_4, .ref a_5, .int i_4, .int i_5, .int i_6, .int i_7, .int i_8, .long j_0, .int i_9, .int i_10, .int i_11, .int i_12, .ref a_6, .ref a_7, .ref a_8, .ref a_9, .ref a_10, .ref a_11, .ref a_12, .ref a_13, .ref a_14, .ref a_15, .ref a_16, .ref a_17, .ref a_18, .int i_13, .int i_14, .int i_15, .int i_16, .int i_17, .int i_18, .ref a_19, .int i_19, .ref a_20])), (a_7, .inl (cy 1, 30, .inl (mm_g [i_20, i_21, i_22, i_23, i_24, v8, i_26, i_27, i_28, i_29, i_30, i_31, i_32, i_33, i_34, i_35, i_36, i_37, i_38, i_39, i_40, i_41, i_42, i_43, i_44, i_45, i_46, i_47, i_48, i_49]))), (a_13, .inl (cy 1, 450, .inl g7))] H) (hD : va_D A [(a_0, .inr (12, [.int i_3, .ref a_1, .ref a_2, .ref a_3, .ref a_4, .ref a_5, .int i_4, .int i_5, .int i_6, .int i_7, .int i_8, .long j_0, .int i_9, .int i_10, .int i_11, .int i_12, .ref a_6, .ref a_7, .ref a_8, .ref a_9, .ref a_10, .ref a_11, .ref a_12, .ref a_13, .ref a_14, .ref a_15, .ref a_16, .ref a_17, .ref a_18, .int i_13, .int i_14, .int i_15, .int i_16, .int i_17, .int i_18, .ref a_19, .int i_19, .ref a_20])), (a_7, .inl (cy 1, 30, .inl (mm_g [i_20, i_21, i_22, i_23, i_24, v8, i_26, i_27, i_28, i_29, i_30, i_31, i_32, i_33, i_34, i_35, i_36, i_37, i_38, i_39, i_40, i_41, i_42, i_43, i_44, i_45, i_46, i_47, i_48, i_49]))), (a_13, .inl (cy 1, 450, .inl g7))]) hS
  have w9 : mm_acs g7 0 i_22 i_23 v8 := (mm_acs_put h34 eg3 eg5 eg7 (by have := tv2; omega) (by have := tv4; have := tv2; omega) (by have := tv6; have := tv2; omega) (by have := tv8; omega) h8 h2 (Or.inr ⟨h38, mm_pos h1 (by decide), h39, h40⟩) (by decide))
  have w10 : mm_acs g7 1 i_28 i_29 i_31 := (mm_acs_hi h35 eg3 eg5 eg7 rv2 rv4 rv6 (by decide))
  have w11 : mm_acs g7 2 i_34 i_35 i_37 := (mm_acs_hi h36 eg3 eg5 eg7 rv2 rv4 rv6 (by decide))
  have w12 : mm_acs g7 3 i_40 i_41 i_43 := (mm_acs_hi h37 eg3 eg5 eg7 rv2 rv4 rv6 (by decide))
  subst hAe
  rw [hQ]
  exact W.vret hx hb hr (fun t ht hW => ⟨⟨(v8, g7), rfl, ⟨rv8, rg7, w9, w10, w11, w12⟩, by rw [ht]; exact hP, hK.warm hW, hD⟩, hS.F ht⟩) hS.2.2 dX12_does_48

set_option maxHeartbeats 4000000 in
set_option maxRecDepth 100000 in
theorem M300_X12_swaps (l : Launch) (G : va_G) (cy : Nat → ClassId) (sz : Nat) (a_0 : Nat) (i_0 : Int32) (i_1 : Int32) (i_2 : Int32) (i_3 : Int32) (a_1 : Nat) (a_2 : Nat) (a_3 : Nat) (a_4 : Nat) (a_5 : Nat) (i_4 : Int32) (i_5 : Int32) (i_6 : Int32) (i_7 : Int32) (i_8 : Int32) (j_0 : Int64) (i_9 : Int32) (i_10 : Int32) (i_11 : Int32) (i_12 : Int32) (a_6 : Nat) (a_7 : Nat) (a_8 : Nat) (a_9 : Nat) (a_10 : Nat) (a_11 : Nat) (a_12 : Nat) (a_13 : Nat) (a_14 : Nat) (a_15 : Nat) (a_16 : Nat) (a_17 : Nat) (a_18 : Nat) (i_13 : Int32) (i_14 : Int32) (i_15 : Int32) (i_16 : Int32) (i_17 : Int32) (i_18 : Int32) (a_19 : Nat) (i_19 : Int32) (a_20 : Nat) (i_20 : Int32) (i_21 : Int32) (i_22 : Int32) (i_23 : Int32) (i_24 : Int32) (i_25 : Int32) (i_26 : Int32) (i_27 : Int32) (i_28 : Int32) (i_29 : Int32) (i_30 : Int32) (i_31 : Int32) (i_32 : Int32) (i_33 : Int32) (i_34 : Int32) (i_35 : Int32) (i_36 : Int32) (i_37 : Int32) (i_38 : Int32) (i_39 : Int32) (i_40 : Int32) (i_41 : Int32) (i_42 : Int32) (i_43 : Int32) (i_44 : Int32) (i_45 : Int32) (i_46 : Int32) (i_47 : Int32) (i_48 : Int32) (i_49 : Int32) (i_50 : Int32) (i_51 : Int32) (i_52 : Int32) (i_53 : Int32) (i_54 : Int32) (f_0 : Nat → Int32) (f_1 : Nat → Int32) (f_2 : Nat → Int32) (f_3 : Nat → Int32) (f_4 : Nat → Int32) (f_5 : Nat → Int32) (h0 : mm_rg i_20 0 601) (h1 : mm_rg i_21 0 601) (h2 : mm_rg i_22 0 601) (h3 : mm_rg i_23 0 601) (h4 : mm_rg i_24 0 601) (h5 : mm_rg i_25 0 10) (h6 : mm_rg i_26 0 99) (h7 : mm_rg i_27 0 9) (h8 : mm_rg i_28 0 3) (h9 : mm_rg i_29 0 6) (h10 : mm_rg i_30 0 30) (h11 : mm_rg i_31 0 10) (h12 : mm_rg i_32 0 99) (h13 : mm_rg i_33 0 9) (h14 : mm_rg i_34 0 3) (h15 : mm_rg i_35 0 6) (h16 : mm_rg i_36 0 30) (h17 : mm_rg i_37 0 10) (h18 : mm_rg i_38 0 99) (h19 : mm_rg i_39 0 9) (h20 : mm_rg i_40 0 3) (h21 : mm_rg i_41 0 6) (h22 : mm_rg i_42 0 30) (h23 : mm_rg i_43 0 10) (h24 : mm_rg i_44 0 99) (h25 : mm_rg i_45 0 9) (h26 : mm_rg i_46 0 3) (h27 : mm_rg i_47 0 6) (h28 : mm_rg i_48 0 30) (h29 : mm_rg i_49 0 10) (h30 : mm_rg i_50 0 99) (h31 : mm_rg i_51 0 9) (h32 : mm_rg i_52 0 3) (h33 : mm_rg i_53 0 6) (h34 : mm_rg i_54 0 30) (h35 : mm_ar f_0 0 7) (h36 : mm_ar f_1 0 9) (h37 : mm_ar f_2 (-1) 99) (h38 : mm_ar f_3 0 9) (h39 : mm_ar f_4 0 210) (h40 : mm_ar f_5 0 210) (h41 : mm_rls f_0 f_1 0 i_27 i_28) (h42 : mm_acs f_2 0 i_27 i_28 i_30) (h43 : mm_tl i_20 i_28 i_29) (h44 : mm_rls f_0 f_1 1 i_33 i_34) (h45 : mm_acs f_2 1 i_33 i_34 i_36) (h46 : mm_tl i_21 i_34 i_35) (h47 : mm_rls f_0 f_1 2 i_39 i_40) (h48 : mm_acs f_2 2 i_39 i_40 i_42) (h49 : mm_tl i_22 i_40 i_41) (h50 : mm_rls f_0 f_1 3 i_45 i_46) (h51 : mm_acs f_2 3 i_45 i_46 i_48) (h52 : mm_tl i_23 i_46 i_47)  : mm_CI l yX12_swaps (mm_ws yX12_swaps cX12_swaps 5 (some .int)) ({ frames := 14, cells := 0, slots := 0, locals := 300 } : Room) G cy sz [(a_0, .inr (12, [.int i_3, .ref a_1, .ref a_2, .ref a_3, .ref a_4, .ref a_5, .int i_4, .int i_5, .int i_6, .int i_7, .int i_8, .long j_0, .int i_9, .int i_10, .int i_11, .int i_12, .ref a_6, .ref a_7, .ref a_8, .ref a_9, .ref a_10, .ref a_11, .ref a_12, .ref a_13, .ref a_14, .ref a_15, .ref a_16, .ref a_17, .ref a_18, .int i_13, .int i_14, .int i_15, .int i_16, .int i_17, .int i_18, .ref a_19, .int i_19, .ref a_20])), (a_6, .inl (cy 1, 5, .inl (mm_g [i_20, i_21, i_22, i_23, i_24]))), (a_7, .inl (cy 1, 30, .inl (mm_g [i_25, i_26, i_27, i_28, i_29, i_30, i_31, i_32, i_33, i_34, i_35, i_36, i_37, i_38, i_39, i_40, i_41, i_42, i_43, i_44, i_45, i_46, i_47, i_48, i_49, i_50, i_51, i_52, i_53, i_54]))), (a_9, .inl (cy 1, 15, .inl f_0)), (a_10, .inl (cy 1, 1050, .inl f_1)), (a_13, .inl (cy 1, 450, .inl f_2)), (a_15, .inl (cy 1, 7200, .inl f_3)), (a_16, .inl (cy 1, 3, .inl f_4)), (a_17, .inl (cy 1, 3, .inl f_5))] [.ref a_0, .int i_0, .int i_1, .int i_2] (fun u : Int32 × (Nat → Int32) × (Nat → Int32) × (Nat → Int32) × (Nat → Int32) => [(a_0, .inr (12, [.int 0, .ref a_1, .ref a_2, .ref a_3, .ref a_4, .ref a_5, .int i_4, .int i_5, .int i_6, .int i_7, .int i_8, .long j_0, .int i_9, .int i_10, .int i_11, .int i_12, .ref a_6, .ref a_7, .ref a_8, .ref a_9, .ref a_10, .ref a_11, .ref a_12, .ref a_13, .ref a_14, .ref a_15, .ref a_16, .ref a_17, .ref a_18, .int i_13, .int i_14, .int i_15, .int i_16, .int i_17, .int i_18, .ref a_19, .int i_19, .ref a_20])), (a_6, .inl (cy 1, 5, .inl (mm_g [i_20, i_21, i_22, i_23, i_24]))), (a_7, .inl (cy 1, 30, .inl (mm_g [i_25, i_26, i_27, i_28, i_29, u.1, i_31, i_32, i_33, i_34, i_35, i_36, i_37, i_38, i_39, i_40, i_41, i_42, i_43, i_44, i_45, i_46, i_47, i_48, i_49, i_50, i_51, i_52, i_53, i_54]))), (a_9, .inl (cy 1, 15, .inl f_0)), (a_10, .inl (cy 1, 1050, .inl f_1)), (a_13, .inl (cy 1, 450, .inl u.2.1)), (a_15, .inl (cy 1, 7200, .inl u.2.2.1)), (a_16, .inl (cy 1, 3, .inl u.2.2.2.1)), (a_17, .inl (cy 1, 3, .inl u.2.2.2.2))]) (fun (r : Int32) (u : Int32 × (Nat → Int32) × (Nat → Int32) × (Nat → Int32) × (Nat → Int32)) => mm_rg u.1 0 30 ∧ mm_ar u.2.1 (-1) 99 ∧ mm_ar u.2.2.1 0 9 ∧ mm_ar u.2.2.2.1 0 210 ∧ mm_ar u.2.2.2.2 0 210 ∧ mm_acs u.2.1 0 i_27 i_28 u.1 ∧ mm_acs u.2.1 1 i_33 i_34 i_36 ∧ mm_acs u.2.1 2 i_39 i_40 i_42 ∧ mm_acs u.2.1 3 i_45 i_46 i_48 ∧ mm_rg r (-5) 9) 0 0 := by
  refine mm_begin (lv := [(0, .ref a_0), (1, .int i_0), (2, .int i_1), (3, .int i_2)]) (by decide) (Nat.le_of_ble_eq_true rfl) rfl ?_
  intro p e s m below meth c A ls R args Q H locs hRe hQ hAe hx hb hr hlocks hml hown hnm hts hsz hA hS hP hK hD hZ hl
  have hRf : R.frames = 14 := by rw [hRe]
  have hRl : R.locals = 300 := by rw [hRe]
  have hRc : R.cells = 0 := by rw [hRe]
  have hRs : R.slots = 0 := by rw [hRe]
  refine lv_aload_n hx hb dX12_swaps_0 rfl (lv_at hl 0 rfl) ?_
  refine lv_iconst (v := 0) hx hb dX12_swaps_1 (by decide) ?_
  refine va_put (D := G) (ci := 12) (v := .int 0) (ty := tyX12 0) (C := RX12) (T := TX12) (N := 38) hx hb hts (mm_i inlX12) tyX12 tyX12_ok nmX12 hown hK.1 hP hD hS 0 rfl rfl 0 (by decide) (mm_h hts mm_w177) (fun _ h9 => h9) rfl (tyX12_ok 0 (by decide)) rfl rfl (Nat.le_of_ble_eq_true rfl) dX12_swaps_2 ?_
  clear hP hD hS
  clear H locs
  intro H locs (hP : va_P G vwCl [(a_0, .inr (12, [.int 0, .ref a_1, .ref a_2, .ref a_3, .ref a_4, .ref a_5, .int i_4, .int i_5, .int i_6, .int i_7, .int i_8, .long j_0, .int i_9, .int i_10, .int i_11, .int i_12, .ref a_6, .ref a_7, .ref a_8, .ref a_9, .ref a_10, .ref a_11, .ref a_12, .ref a_13, .ref a_14, .ref a_15, .ref a_16, .ref a_17, .ref a_18, .int i_13, .int i_14, .int i_15, .int i_16, .int i_17, .int i_18, .ref a_19, .int i_19, .ref a_20])), (a_6, .inl (cy 1, 5, .inl (mm_g [i_20, i_21, i_22, i_23, i_24]))), (a_7, .inl (cy 1, 30, .inl (mm_g [i_25, i_26, i_27, i_28, i_29, i_30, i_31, i_32, i_33, i_34, i_35, i_36, i_37, i_38, i_39, i_40, i_41, i_42, i_43, i_44, i_45, i_46, i_47, i_48, i_49, i_50, i_51, i_52, i_53, i_54]))), (a_9, .inl (cy 1, 15, .inl f_0)), (a_10, .inl (cy 1, 1050, .inl f_1)), (a_13, .inl (cy 1, 450, .inl f_2)), (a_15, .inl (cy 1, 7200, .inl f_3)), (a_16, .inl (cy 1, 3, .inl f_4)), (a_17, .inl (cy 1, 3, .inl f_5))] H) (hD : va_D A [(a_0, .inr (12, [.int 0, .ref a_1, .ref a_2, .ref a_3, .ref a_4, .ref a_5, .int i_4, .int i_5, .int i_6, .int i_7, .int i_8, .long j_0, .int i_9, .int i_10, .int i_11, .int i_12, .ref a_6, .ref a_7, .ref a_8, .ref a_9, .ref a_10, .ref a_11, .ref a_12, .ref a_13, .ref a_14, .ref a_15, .ref a_16, .ref a_17, .ref a_18, .int i_13, .int i_14, .int i_15, .int i_16, .int i_17, .int i_18, .ref a_19, .int i_19, .ref a_20])), (a_6, .inl (cy 1, 5, .inl (mm_g [i_20, i_21, i_22, i_23, i_24]))), (a_7, .inl (cy 1, 30, .inl (mm_g [i_25, i_26, i_27, i_28, i_29, i_30, i_31, i_32, i_33, i_34, i_35, i_36, i_37, i_38, i_39, i_40, i_41, i_42, i_43, i_44, i_45, i_46, i_47, i_48, i_49, i_50, i_51, i_52, i_53, i_54]))), (a_9, .inl (cy 1, 15, .inl f_0)), (a_10, .inl (cy 1, 1050, .inl f_1)), (a_13, .inl (cy 1, 450, .inl f_2)), (a_15, .inl (cy 1, 7200, .inl f_3)), (a_16, .inl (cy 1, 3, .inl f_4)), (a_17, .inl (cy 1, 3, .inl f_5))]) hS
  refine lv_aload_n hx hb dX12_swaps_5 rfl (lv_at hl 0 rfl) ?_
  refine lv_iload_n hx hb dX12_swaps_6 rfl (lv_at hl 1 rfl) ?_
  refine mm_finir (va_runV (As := [.int i_0]) (rest := []) ⟨hx, hb, hml, hown, hts⟩ (M98_X12_isLand l G cy H.size a_0 i_0 0 a_1 a_2 a_3 a_4 a_5 i_4 i_5 i_6 i_7 i_8 j_0 i_9 i_10 i_11 i_12 a_6 a_7 a_8 a_9 a_10 a_11 a_12 a_13 a_14 a_15 a_16 a_17 a_18 i_13 i_14 i_15 i_16 i_17 i_18 a_19 i_19 a_20 i_25 i_26 i_27 i_28 i_29 i_30 i_31 i_32 i_33 i_34 i_35 i_36 i_37 i_38 i_39 i_40 i_41 i_42 i_43 i_44 i_45 i_46 i_47 i_48 i_49 i_50 i_51 i_52 i_53 i_54 h5 h6 h7 h8 h9 h10 h11 h12 h13 h14 h15 h16 h17 h18 h19 h20 h21 h22 h23 h24 h25 h26 h27 h28 h29 h30 h31 h32 h33 h34) (cwV 1 hts (mm_gV mm_w641 mm_w642 mm_w643 mm_w5 mm_w644) rfl rfl rfl hd_X12_isLand ⟨by rw [hRf]; exact Nat.le_of_ble_eq_true rfl, by rw [hRl]; exact Nat.le_of_ble_eq_true rfl⟩) (mm_preV hK hZ hS hA hP hD [0, 2] rfl rfl 0 rfl rfl rfl) rfl rfl hl.1 rfl (lv_room (Nat.le_of_ble_eq_true rfl)) dX12_swaps_7 ⟨by rw [hRc]; exact Nat.le_of_ble_eq_true rfl, by rw [hRs]; exact Nat.le_of_ble_eq_true rfl⟩) hP hD hS hA [0, 2] rfl (fun _ => rfl) ?_
  clear hP hD hS
  clear H locs
  intro v1 _u H locs hw hP hD hS
  rcases hw with rfl | ⟨rfl, w2, w3⟩
  · refine lv_if_eq (tgt := 34) hx hb dX12_swaps_10 (by decide) (fun c4 => ?_) (fun c4 => ?_)
    · refine lv_bipush (v := (-2)) hx hb dX12_swaps_34 (by decide) ?_
      subst hAe
      rw [hQ]
      exact W.iret (v := (-2)) hx hb hr (fun t ht hW => ⟨⟨(-2), (i_30, f_2, f_3, f_4, f_5), rfl, ⟨h10, h37, h38, h39, h40, h42, h45, h48, h51, (mm_wk mm_km2 (by decide))⟩, by rw [ht]; exact hP, hK.warm hW, hD⟩, hS.F ht⟩) hS.2.2 dX12_swaps_36
    · exact absurd rfl (mm_ne c4)
  · have q5 := mm_ltR (lo := 1) w3 w2 h8 (by decide)
    have q6 : mm_rg i_20 1 601 := mm_tl_3 h43 q5 h0 (by decide)
    refine lv_if_eq (tgt := 34) hx hb dX12_swaps_10 (by decide) (fun c7 => ?_) (fun c7 => ?_)
    · exact mm_eqN c7.symm mm_k0 mm_k1 (by decide)
    · refine lv_aload_n hx hb dX12_swaps_13 rfl (lv_at hl 0 rfl) ?_
      refine lv_iload_n hx hb dX12_swaps_14 rfl (lv_at hl 2 rfl) ?_
      refine mm_finir (va_runV (As := [.int i_1]) (rest := []) ⟨hx, hb, hml, hown, hts⟩ (M101_X12_isWord l G cy H.size a_0 i_1 0 a_1 a_2 a_3 a_4 a_5 i_4 i_5 i_6 i_7 i_8 j_0 i_9 i_10 i_11 i_12 a_6 a_7 a_8 a_9 a_10 a_11 a_12 a_13 a_14 a_15 a_16 a_17 a_18 i_13 i_14 i_15 i_16 i_17 i_18 a_19 i_19 a_20 i_20 i_21 i_22 i_23 i_24 i_25 i_26 i_27 i_28 i_29 i_30 i_31 i_32 i_33 i_34 i_35 i_36 i_37 i_38 i_39 i_40 i_41 i_42 i_43 i_44 i_45 i_46 i_47 i_48 i_49 i_50 i_51 i_52 i_53 i_54 q6 h1 h2 h3 h4 h5 h6 h7 (mm_wk q5 (by decide)) h9 h10 h11 h12 h13 h14 h15 h16 h17 h18 h19 h20 h21 h22 h23 h24 h25 h26 h27 h28 h29 h30 h31 h32 h33 h34 h43 h46 h49 h52) (cwV 1 hts (mm_gV mm_w645 mm_w646 mm_w647 mm_w5 mm_w648) rfl rfl rfl hd_X12_isWord ⟨by rw [hRf]; exact Nat.le_of_ble_eq_true rfl, by rw [hRl]; exact Nat.le_of_ble_eq_true rfl⟩) (mm_preV hK hZ hS hA hP hD [0, 1, 2] rfl rfl 0 rfl rfl rfl) rfl rfl hl.1 rfl (lv_room (Nat.le_of_ble_eq_true rfl)) dX12_swaps_15 ⟨by rw [hRc]; exact Nat.le_of_ble_eq_true rfl, by rw [hRs]; exact Nat.le_of_ble_eq_true rfl⟩) hP hD hS hA [0, 1, 2] rfl (fun _ => rfl) ?_
      clear hP hD hS
      clear H locs
      intro v8 _u H locs hw hP hD hS
      rcases hw with rfl | ⟨rfl, w9, w10⟩
      · refine lv_if_eq (tgt := 34) hx hb dX12_swaps_18 (by decide) (fun c11 => ?_) (fun c11 => ?_)
        · refine lv_bipush (v := (-2)) hx hb dX12_swaps_34 (by decide) ?_
          subst hAe
          rw [hQ]
          exact W.iret (v := (-2)) hx hb hr (fun t ht hW => ⟨⟨(-2), (i_30, f_2, f_3, f_4, f_5), rfl, ⟨h10, h37, h38, h39, h40, h42, h45, h48, h51, (mm_wk mm_km2 (by decide))⟩, by rw [ht]; exact hP, hK.warm hW, hD⟩, hS.F ht⟩) hS.2.2 dX12_swaps_36
        · exact absurd rfl (mm_ne c11)
      · refine lv_if_eq (tgt := 34) hx hb dX12_swaps_18 (by decide) (fun c12 => ?_) (fun c12 => ?_)
        · exact mm_eqN c12.symm mm_k0 mm_k1 (by decide)
        · refine lv_aload_n hx hb dX12_swaps_21 rfl (lv_at hl 0 rfl) ?_
          refine lv_iload_n hx hb dX12_swaps_22 rfl (lv_at hl 3 rfl) ?_
          refine mm_finir (va_runV (As := [.int i_2]) (rest := []) ⟨hx, hb, hml, hown, hts⟩ (M101_X12_isWord l G cy H.size a_0 i_2 0 a_1 a_2 a_3 a_4 a_5 i_4 i_5 i_6 i_7 i_8 j_0 i_9 i_10 i_11 i_12 a_6 a_7 a_8 a_9 a_10 a_11 a_12 a_13 a_14 a_15 a_16 a_17 a_18 i_13 i_14 i_15 i_16 i_17 i_18 a_19 i_19 a_20 i_20 i_21 i_22 i_23 i_24 i_25 i_26 i_27 i_28 i_29 i_30 i_31 i_32 i_33 i_34 i_35 i_36 i_37 i_38 i_39 i_40 i_41 i_42 i_43 i_44 i_45 i_46 i_47 i_48 i_49 i_50 i_51 i_52 i_53 i_54 q6 h1 h2 h3 h4 h5 h6 h7 (mm_wk q5 (by decide)) h9 h10 h11 h12 h13 h14 h15 h16 h17 h18 h19 h20 h21 h22 h23 h24 h25 h26 h27 h28 h29 h30 h31 h32 h33 h34 h43 h46 h49 h52) (cwV 1 hts (mm_gV mm_w645 mm_w646 mm_w647 mm_w5 mm_w648) rfl rfl rfl hd_X12_isWord ⟨by rw [hRf]; exact Nat.le_of_ble_eq_true rfl, by rw [hRl]; exact Nat.le_of_ble_eq_true rfl⟩) (mm_preV hK hZ hS hA hP hD [0, 1, 2] rfl rfl 0 rfl rfl rfl) rfl rfl hl.1 rfl (lv_room (Nat.le_of_ble_eq_true rfl)) dX12_swaps_23 ⟨by rw [hRc]; exact Nat.le_of_ble_eq_true rfl, by rw [hRs]; exact Nat.le_of_ble_eq_true rfl⟩) hP hD hS hA [0, 1, 2] rfl (fun _ => rfl) ?_
          clear hP hD hS
          clear H locs
          intro v13 _u H locs hw hP hD hS
          rcases hw with rfl | ⟨rfl, w14, w15⟩
          · refine lv_if_eq (tgt := 34) hx hb dX12_swaps_26 (by decide) (fun c16 => ?_) (fun c16 => ?_)
            · refine lv_bipush (v := (-2)) hx hb dX12_swaps_34 (by decide) ?_
              subst hAe
              rw [hQ]
              exact W.iret (v := (-2)) hx hb hr (fun t ht hW => ⟨⟨(-2), (i_30, f_2, f_3, f_4, f_5), rfl, ⟨h10, h37, h38, h39, h40, h42, h45, h48, h51, (mm_wk mm_km2 (by decide))⟩, by rw [ht]; exact hP, hK.warm hW, hD⟩, hS.F ht⟩) hS.2.2 dX12_swaps_36
            · exact absurd rfl (mm_ne c16)
          · refine lv_if_eq (tgt := 34) hx hb dX12_swaps_26 (by decide) (fun c17 => ?_) (fun c17 => ?_)
            · exact mm_eqN c17.symm mm_k0 mm_k1 (by decide)
            · refine lv_iload_n hx hb dX12_swaps_29 rfl (lv_at hl 2 rfl) ?_
              refine lv_iload_n hx hb dX12_swaps_30 rfl (lv_at hl 3 rfl) ?_
              refine lv_icmp_ne (tgt := 37) hx hb dX12_swaps_31 (by decide) (fun c18 => ?_) (fun c18 => ?_)
              · refine lv_aload_n hx hb dX12_swaps_37 rfl (lv_at hl 0 rfl) ?_
                refine va_get (D := G) (ci := 12) (v := .ref a_7) (C := RX12) (T := TX12) (N := 38) hx hb hts (mm_i inlX12) hown hK.1 hP 0 rfl rfl 17 (by decide) (mm_h hts mm_w149) (fun _ h9 => h9) rfl dX12_swaps_38 ?_
                refine lv_iconst (v := 5) hx hb dX12_swaps_41 (by decide) ?_
                refine va_iald hx hb hK.1 hP 2 1 rfl rfl (mm_in mm_k5 (by decide)) dX12_swaps_42 ?_
                rw [show (mm_g [i_25, i_26, i_27, i_28, i_29, i_30, i_31, i_32, i_33, i_34, i_35, i_36, i_37, i_38, i_39, i_40, i_41, i_42, i_43, i_44, i_45, i_46, i_47, i_48, i_49, i_50, i_51, i_52, i_53, i_54]) (5 : Int32).toNatClampNeg = i_30 from mm_ge 5 (by decide) rfl]
                refine lv_bipush (v := 30) hx hb dX12_swaps_43 (by decide) ?_
                refine lv_icmp_ne (tgt := 51) hx hb dX12_swaps_45 (by decide) (fun c19 => ?_) (fun c19 => ?_)
                · have q20 := mm_neH (hi := 29) (mm_ne c19) h10 mm_k30 (by decide) (by decide)
                  refine lv_aload_n hx hb dX12_swaps_51 rfl (lv_at hl 0 rfl) ?_
                  refine mm_finv (va_runV (As := []) (rest := []) ⟨hx, hb, hml, hown, hts⟩ (M125_X12_lays l G cy H.size a_0 0 a_1 a_2 a_3 a_4 a_5 i_4 i_5 i_6 i_7 i_8 j_0 i_9 i_10 i_11 i_12 a_6 a_7 a_8 a_9 a_10 a_11 a_12 a_13 a_14 a_15 a_16 a_17 a_18 i_13 i_14 i_15 i_16 i_17 i_18 a_19 i_19 a_20 i_20 i_21 i_22 i_23 i_24 i_25 i_26 i_27 i_28 i_29 i_30 i_31 i_32 i_33 i_34 i_35 i_36 i_37 i_38 i_39 i_40 i_41 i_42 i_43 i_44 i_45 i_46 i_47 i_48 i_49 i_50 i_51 i_52 i_53 i_54 f_0 f_1 f_2 f_3 f_4 f_5 (mm_wk q6 (by decide)) h1 h2 h3 h4 h5 h6 h7 (mm_wk q5 (by decide)) h9 (mm_wk q20 (by decide)) h11 h12 h13 h14 h15 h16 h17 h18 h19 h20 h21 h22 h23 h24 h25 h26 h27 h28 h29 h30 h31 h32 h33 h34 h35 h36 h37 h38 h39 h40 h41 h42 h43 h44 h45 h46 h47 h48 h49 h50 h51 h52) (cwV 0 hts (mm_gV mm_w686 mm_w687 mm_w688 mm_w5 mm_w689) rfl rfl rfl hd_X12_lays ⟨by rw [hRf]; exact Nat.le_of_ble_eq_true rfl, by rw [hRl]; exact Nat.le_of_ble_eq_true rfl⟩) (mm_preV hK hZ hS hA hP hD [0, 1, 2, 3, 4, 5, 6, 7, 8] rfl rfl 0 rfl rfl rfl) rfl rfl hl.1 rfl (lv_room (Nat.le_of_ble_eq_true rfl)) dX12_swaps_52 ⟨by rw [hRc]; exact Nat.le_of_ble_eq_true rfl, by rw [hRs]; exact Nat.le_of_ble_eq_true rfl⟩) hP hD hS hA (fun u : (Nat → Int32) × (Nat → Int32) × (Nat → Int32) => [(a_0, .inr (12, [.int 0, .ref a_1, .ref a_2, .ref a_3, .ref a_4, .ref a_5, .int i_4, .int i_5, .int i_6, .int i_7, .int i_8, .long j_0, .int i_9, .int i_10, .int i_11, .int i_12, .ref a_6, .ref a_7, .ref a_8, .ref a_9, .ref a_10, .ref a_11, .ref a_12, .ref a_13, .ref a_14, .ref a_15, .ref a_16, .ref a_17, .ref a_18, .int i_13, .int i_14, .int i_15, .int i_16, .int i_17, .int i_18, .ref a_19, .int i_19, .ref a_20])), (a_6, .inl (cy 1, 5, .inl (mm_g [i_20, i_21, i_22, i_23, i_24]))), (a_7, .inl (cy 1, 30, .inl (mm_g [i_25, i_26, i_27, i_28, i_29, i_30, i_31, i_32, i_33, i_34, i_35, i_36, i_37, i_38, i_39, i_40, i_41, i_42, i_43, i_44, i_45, i_46, i_47, i_48, i_49, i_50, i_51, i_52, i_53, i_54]))), (a_9, .inl (cy 1, 15, .inl f_0)), (a_10, .inl (cy 1, 1050, .inl f_1)), (a_13, .inl (cy 1, 450, .inl f_2)), (a_15, .inl (cy 1, 7200, .inl u.1)), (a_16, .inl (cy 1, 3, .inl u.2.1)), (a_17, .inl (cy 1, 3, .inl u.2.2))]) [0, 1, 2, 3, 4, 5, 6, 7, 8] [] (n := 9) (fun _ => rfl) (by decide +kernel) (by decide +kernel) rfl (fun _ => rfl) (wr := []) rfl (fun _ => rfl) (fun _ => @rfl _ ([a_0, a_6, a_7, a_9, a_10, a_13, a_15, a_16, a_17] : List Nat)) ?_
                  clear hP hD hS
                  clear H locs
                  intro u
                  obtain ⟨n21, n22, n23⟩ := u
                  intro H locs hw (hP : va_P G vwCl [(a_0, .inr (12, [.int 0, .ref a_1, .ref a_2, .ref a_3, .ref a_4, .ref a_5, .int i_4, .int i_5, .int i_6, .int i_7, .int i_8, .long j_0, .int i_9, .int i_10, .int i_11, .int i_12, .ref a_6, .ref a_7, .ref a_8, .ref a_9, .ref a_10, .ref a_11, .ref a_12, .ref a_13, .ref a_14, .ref a_15, .ref a_16, .ref a_17, .ref a_18, .int i_13, .int i_14, .int i_15, .int i_16, .int i_17, .int i_18, .ref a_19, .int i_19, .ref a_20])), (a_6, .inl (cy 1, 5, .inl (mm_g [i_20, i_21, i_22, i_23, i_24]))), (a_7, .inl (cy 1, 30, .inl (mm_g [i_25, i_26, i_27, i_28, i_29, i_30, i_31, i_32, i_33, i_34, i_35, i_36, i_37, i_38, i_39, i_40, i_41, i_42, i_43, i_44, i_45, i_46, i_47, i_48, i_49, i_50, i_51, i_52, i_53, i_54]))), (a_9, .inl (cy 1, 15, .inl f_0)), (a_10, .inl (cy 1, 1050, .inl f_1)), (a_13, .inl (cy 1, 450, .inl f_2)), (a_15, .inl (cy 1, 7200, .inl n21)), (a_16, .inl (cy 1, 3, .inl n22)), (a_17, .inl (cy 1, 3, .inl n23))] H) (hD : va_D A [(a_0, .inr (12, [.int 0, .ref a_1, .ref a_2, .ref a_3, .ref a_4, .ref a_5, .int i_4, .int i_5, .int i_6, .int i_7, .int i_8, .long j_0, .int i_9, .int i_10, .int i_11, .int i_12, .ref a_6, .ref a_7, .ref a_8, .ref a_9, .ref a_10, .ref a_11, .ref a_12, .ref a_13, .ref a_14, .ref a_15, .ref a_16, .ref a_17, .ref a_18, .int i_13, .int i_14, .int i_15, .int i_16, .int i_17, .int i_18, .ref a_19, .int i_19, .ref a_20])), (a_6, .inl (cy 1, 5, .inl (mm_g [i_20, i_21, i_22, i_23, i_24]))), (a_7, .inl (cy 1, 30, .inl (mm_g [i_25, i_26, i_27, i_28, i_29, i_30, i_31, i_32, i_33, i_34, i_35, i_36, i_37, i_38, i_39, i_40, i_41, i_42, i_43, i_44, i_45, i_46, i_47, i_48, i_49, i_50, i_51, i_52, i_53, i_54]))), (a_9, .inl (cy 1, 15, .inl f_0)), (a_10, .inl (cy 1, 1050, .inl f_1)), (a_13, .inl (cy 1, 450, .inl f_2)), (a_15, .inl (cy 1, 7200, .inl n21)), (a_16, .inl (cy 1, 3, .inl n22)), (a_17, .inl (cy 1, 3, .inl n23))]) hS
                  obtain ⟨w24, w25, w26, w27, w28⟩ := hw
                  replace w27 : mm_laid n22 n23 i_28 := w27
                  replace w28 : mm_tab n21 n22 i_27 i_28 := w28
                  refine lv_aload_n hx hb dX12_swaps_55 rfl (lv_at hl 0 rfl) ?_
                  refine lv_iload_n hx hb dX12_swaps_56 rfl (lv_at hl 1 rfl) ?_
                  refine lv_iconst (v := 0) hx hb dX12_swaps_57 (by decide) ?_
                  refine lv_iload_n hx hb dX12_swaps_58 rfl (lv_at hl 2 rfl) ?_
                  refine mm_finir (va_runV (As := [.int i_0, .int 0, .int i_1]) (rest := []) ⟨hx, hb, hml, hown, hts⟩ (M122_X12_means0 l G cy H.size a_0 i_0 0 i_1 0 a_1 a_2 a_3 a_4 a_5 i_4 i_5 i_6 i_7 i_8 j_0 i_9 i_10 i_11 i_12 a_6 a_7 a_8 a_9 a_10 a_11 a_12 a_13 a_14 a_15 a_16 a_17 a_18 i_13 i_14 i_15 i_16 i_17 i_18 a_19 i_19 a_20 n21 n22 w2 (mm_wk mm_k0 (by decide)) w9 w24 w25 (mm_f1_l w27 w3 w2 (by decide))) (cwV 3 hts (mm_gV mm_w713 mm_w714 mm_w715 mm_w5 mm_w716) rfl rfl rfl hd_X12_means0 ⟨by rw [hRf]; exact Nat.le_of_ble_eq_true rfl, by rw [hRl]; exact Nat.le_of_ble_eq_true rfl⟩) (mm_preV hK hZ hS hA hP hD [0, 6, 7] rfl rfl 0 rfl rfl rfl) rfl rfl hl.1 rfl (lv_room (Nat.le_of_ble_eq_true rfl)) dX12_swaps_59 ⟨by rw [hRc]; exact Nat.le_of_ble_eq_true rfl, by rw [hRs]; exact Nat.le_of_ble_eq_true rfl⟩) hP hD hS hA [0, 6, 7] rfl (fun _ => rfl) ?_
                  clear hP hD hS
                  clear H locs
                  intro v29 _u H locs hw hP hD hS
                  obtain ⟨w30, w31⟩ := hw
                  refine lv_istore (lv' := [(4, .int v29), (0, .ref a_0), (1, .int i_0), (2, .int i_1), (3, .int i_2)]) hx hb dX12_swaps_62 hl (by decide) rfl ?_
                  clear hl
                  clear ls
                  intro ls hl
                  refine lv_aload_n hx hb dX12_swaps_64 rfl (lv_at hl 1 rfl) ?_
                  refine lv_iload_n hx hb dX12_swaps_65 rfl (lv_at hl 2 rfl) ?_
                  refine lv_iload_n hx hb dX12_swaps_66 rfl (lv_at hl 3 rfl) ?_
                  refine lv_iload_n hx hb dX12_swaps_67 rfl (lv_at hl 4 rfl) ?_
                  refine mm_finv (va_runV (As := [.int i_0, .int i_1, .int i_2]) (rest := []) ⟨hx, hb, hml, hown, hts⟩ (M299_X12_does l G cy H.size a_0 i_0 i_1 i_2 0 a_1 a_2 a_3 a_4 a_5 i_4 i_5 i_6 i_7 i_8 j_0 i_9 i_10 i_11 i_12 a_6 a_7 a_8 a_9 a_10 a_11 a_12 a_13 a_14 a_15 a_16 a_17 a_18 i_13 i_14 i_15 i_16 i_17 i_18 a_19 i_19 a_20 i_25 i_26 i_27 i_28 i_29 i_30 i_31 i_32 i_33 i_34 i_35 i_36 i_37 i_38 i_39 i_40 i_41 i_42 i_43 i_44 i_45 i_46 i_47 i_48 i_49 i_50 i_51 i_52 i_53 i_54 f_2 w2 w9 w14 h5 h6 h7 (mm_wk q5 (by decide)) h9 q20 h11 h12 h13 h14 h15 h16 h17 h18 h19 h20 h21 h22 h23 h24 h25 h26 h27 h28 h29 h30 h31 h32 h33 h34 h37 h42 h45 h48 h51 w3 w10 w15) (cwV 3 hts (mm_gV mm_w1554 mm_w1555 mm_w1556 mm_w5 mm_w1557) rfl rfl rfl hd_X12_does ⟨by rw [hRf]; exact Nat.le_of_ble_eq_true rfl, by rw [hRl]; exact Nat.le_of_ble_eq_true rfl⟩) (mm_preV hK hZ hS hA hP hD [0, 2, 5] rfl rfl 0 rfl rfl rfl) rfl rfl hl.1 rfl (lv_room (Nat.le_of_ble_eq_true rfl)) dX12_swaps_68 ⟨by rw [hRc]; exact Nat.le_of_ble_eq_true rfl, by rw [hRs]; exact Nat.le_of_ble_eq_true rfl⟩) hP hD hS hA (fun u : Int32 × (Nat → Int32) => [(a_0, .inr (12, [.int 0, .ref a_1, .ref a_2, .ref a_3, .ref a_4, .ref a_5, .int i_4, .int i_5, .int i_6, .int i_7, .int i_8, .long j_0, .int i_9, .int i_10, .int i_11, .int i_12, .ref a_6, .ref a_7, .ref a_8, .ref a_9, .ref a_10, .ref a_11, .ref a_12, .ref a_13, .ref a_14, .ref a_15, .ref a_16, .ref a_17, .ref a_18, .int i_13, .int i_14, .int i_15, .int i_16, .int i_17, .int i_18, .ref a_19, .int i_19, .ref a_20])), (a_6, .inl (cy 1, 5, .inl (mm_g [i_20, i_21, i_22, i_23, i_24]))), (a_7, .inl (cy 1, 30, .inl (mm_g [i_25, i_26, i_27, i_28, i_29, u.1, i_31, i_32, i_33, i_34, i_35, i_36, i_37, i_38, i_39, i_40, i_41, i_42, i_43, i_44, i_45, i_46, i_47, i_48, i_49, i_50, i_51, i_52, i_53, i_54]))), (a_9, .inl (cy 1, 15, .inl f_0)), (a_10, .inl (cy 1, 1050, .inl f_1)), (a_13, .inl (cy 1, 450, .inl u.2)), (a_15, .inl (cy 1, 7200, .inl n21)), (a_16, .inl (cy 1, 3, .inl n22)), (a_17, .inl (cy 1, 3, .inl n23))]) [0, 2, 5] [1, 3, 4, 6, 7, 8] (n := 9) (fun _ => rfl) (by decide +kernel) (by decide +kernel) rfl (fun _ => rfl) (wr := [(a_6, .inl (cy 1, 5, .inl (mm_g [i_20, i_21, i_22, i_23, i_24]))), (a_9, .inl (cy 1, 15, .inl f_0)), (a_10, .inl (cy 1, 1050, .inl f_1)), (a_15, .inl (cy 1, 7200, .inl n21)), (a_16, .inl (cy 1, 3, .inl n22)), (a_17, .inl (cy 1, 3, .inl n23))]) rfl (fun _ => rfl) (fun _ => @rfl _ ([a_0, a_7, a_13] : List Nat)) ?_
                  clear hP hD hS
                  clear H locs
                  intro u
                  obtain ⟨n32, n33⟩ := u
                  intro H locs hw (hP : va_P G vwCl [(a_0, .inr (12, [.int 0, .ref a_1, .ref a_2, .ref a_3, .ref a_4, .ref a_5, .int i_4, .int i_5, .int i_6, .int i_7, .int i_8, .long j_0, .int i_9, .int i_10, .int i_11, .int i_12, .ref a_6, .ref a_7, .ref a_8, .ref a_9, .ref a_10, .ref a_11, .ref a_12, .ref a_13, .ref a_14, .ref a_15, .ref a_16, .ref a_17, .ref a_18, .int i_13, .int i_14, .int i_15, .int i_16, .int i_17, .int i_18, .ref a_19, .int i_19, .ref a_20])), (a_6, .inl (cy 1, 5, .inl (mm_g [i_20, i_21, i_22, i_23, i_24]))), (a_7, .inl (cy 1, 30, .inl (mm_g [i_25, i_26, i_27, i_28, i_29, n32, i_31, i_32, i_33, i_34, i_35, i_36, i_37, i_38, i_39, i_40, i_41, i_42, i_43, i_44, i_45, i_46, i_47, i_48, i_49, i_50, i_51, i_52, i_53, i_54]))), (a_9, .inl (cy 1, 15, .inl f_0)), (a_10, .inl (cy 1, 1050, .inl f_1)), (a_13, .inl (cy 1, 450, .inl n33)), (a_15, .inl (cy 1, 7200, .inl n21)), (a_16, .inl (cy 1, 3, .inl n22)), (a_17, .inl (cy 1, 3, .inl n23))] H) (hD : va_D A [(a_0, .inr (12, [.int 0, .ref a_1, .ref a_2, .ref a_3, .ref a_4, .ref a_5, .int i_4, .int i_5, .int i_6, .int i_7, .int i_8, .long j_0, .int i_9, .int i_10, .int i_11, .int i_12, .ref a_6, .ref a_7, .ref a_8, .ref a_9, .ref a_10, .ref a_11, .ref a_12, .ref a_13, .ref a_14, .ref a_15, .ref a_16, .ref a_17, .ref a_18, .int i_13, .int i_14, .int i_15, .int i_16, .int i_17, .int i_18, .ref a_19, .int i_19, .ref a_20])), (a_6, .inl (cy 1, 5, .inl (mm_g [i_20, i_21, i_22, i_23, i_24]))), (a_7, .inl (cy 1, 30, .inl (mm_g [i_25, i_26, i_27, i_28, i_29, n32, i_31, i_32, i_33, i_34, i_35, i_36, i_37, i_38, i_39, i_40, i_41, i_42, i_43, i_44, i_45, i_46, i_47, i_48, i_49, i_50, i_51, i_52, i_53, i_54]))), (a_9, .inl (cy 1, 15, .inl f_0)), (a_10, .inl (cy 1, 1050, .inl f_1)), (a_13, .inl (cy 1, 450, .inl n33)), (a_15, .inl (cy 1, 7200, .inl n21)), (a_16, .inl (cy 1, 3, .inl n22)), (a_17, .inl (cy 1, 3, .inl n23))]) hS
                  obtain ⟨w34, w35, w36, w37, w38, w39⟩ := hw
                  replace w36 : mm_acs n33 0 i_27 i_28 n32 := w36
                  replace w37 : mm_acs n33 1 i_33 i_34 i_36 := w37
                  replace w38 : mm_acs n33 2 i_39 i_40 i_42 := w38
                  replace w39 : mm_acs n33 3 i_45 i_46 i_48 := w39
                  refine lv_iload hx hb dX12_swaps_71 (lv_at hl 0 rfl) ?_
                  subst hAe
                  rw [hQ]
                  exact W.iret (v := v29) hx hb hr (fun t ht hW => ⟨⟨v29, (n32, n33, n21, n22, n23), rfl, ⟨(mm_wk w34 (by decide)), w35, w24, w25, w26, w36, w37, w38, w39, (mm_wk w30 (by decide))⟩, by rw [ht]; exact hP, hK.warm hW, hD⟩, hS.F ht⟩) hS.2.2 dX12_swaps_73
                · have q40 := mm_eqI (lo := 30) (hi := 30) c19 h10 mm_k30 (by decide)
                  refine lv_bipush (v := (-5)) hx hb dX12_swaps_48 (by decide) ?_
                  subst hAe
                  rw [hQ]
                  exact W.iret (v := (-5)) hx hb hr (fun t ht hW => ⟨⟨(-5), (i_30, f_2, f_3, f_4, f_5), rfl, ⟨(mm_wk q40 (by decide)), h37, h38, h39, h40, h42, h45, h48, h51, (mm_wk mm_km5 (by decide))⟩, by rw [ht]; exact hP, hK.warm hW, hD⟩, hS.F ht⟩) hS.2.2 dX12_swaps_50
              · refine lv_bipush (v := (-2)) hx hb dX12_swaps_34 (by decide) ?_
                subst hAe
                rw [hQ]
                exact W.iret (v := (-2)) hx hb hr (fun t ht hW => ⟨⟨(-2), (i_30, f_2, f_3, f_4, f_5), rfl, ⟨h10, h37, h38, h39, h40, h42, h45, h48, h51, (mm_wk mm_km2 (by decide))⟩, by rw [ht]; exact hP, hK.warm hW, hD⟩, hS.F ht⟩) hS.2.2 dX12_swaps_36

set_option maxHeartbeats 4000000 in
set_option maxRecDepth 100000 in
theorem M301_X12_does (l : Launch) (G : va_G) (cy : Nat → ClassId) (sz : Nat) (a_0 : Nat) (i_0 : Int32) (i_1 : Int32) (a_1 : Nat) (a_2 : Nat) (a_3 : Nat) (a_4 : Nat) (a_5 : Nat) (i_2 : Int32) (i_3 : Int32) (i_4 : Int32) (i_5 : Int32) (i_6 : Int32) (j_0 : Int64) (i_7 : Int32) (i_8 : Int32) (i_9 : Int32) (i_10 : Int32) (a_6 : Nat) (a_7 : Nat) (a_8 : Nat) (a_9 : Nat) (a_10 : Nat) (a_11 : Nat) (a_12 : Nat) (a_13 : Nat) (a_14 : Nat) (a_15 : Nat) (a_16 : Nat) (a_17 : Nat) (a_18 : Nat) (i_11 : Int32) (i_12 : Int32) (i_13 : Int32) (i_14 : Int32) (i_15 : Int32) (i_16 : Int32) (a_19 : Nat) (i_17 : Int32) (a_20 : Nat) (i_18 : Int32) (i_19 : Int32) (i_20 : Int32) (i_21 : Int32) (i_22 : Int32) (i_23 : Int32) (i_24 : Int32) (i_25 : Int32) (i_26 : Int32) (i_27 : Int32) (i_28 : Int32) (i_29 : Int32) (i_30 : Int32) (i_31 : Int32) (i_32 : Int32) (i_33 : Int32) (i_34 : Int32) (i_35 : Int32) (i_36 : Int32) (i_37 : Int32) (i_38 : Int32) (i_39 : Int32) (i_40 : Int32) (i_41 : Int32) (i_42 : Int32) (i_43 : Int32) (i_44 : Int32) (i_45 : Int32) (i_46 : Int32) (i_47 : Int32) (f_0 : Nat → Int32) (h0 : mm_rg i_0 0 99) (h1 : mm_rg i_18 0 10) (h2 : mm_rg i_19 0 99) (h3 : mm_rg i_20 0 9) (h4 : mm_rg i_21 0 3) (h5 : mm_rg i_22 0 6) (h6 : mm_rg i_23 0 29) (h7 : mm_rg i_24 0 10) (h8 : mm_rg i_25 0 99) (h9 : mm_rg i_26 0 9) (h10 : mm_rg i_27 0 3) (h11 : mm_rg i_28 0 6) (h12 : mm_rg i_29 0 30) (h13 : mm_rg i_30 0 10) (h14 : mm_rg i_31 0 99) (h15 : mm_rg i_32 0 9) (h16 : mm_rg i_33 0 3) (h17 : mm_rg i_34 0 6) (h18 : mm_rg i_35 0 30) (h19 : mm_rg i_36 0 10) (h20 : mm_rg i_37 0 99) (h21 : mm_rg i_38 0 9) (h22 : mm_rg i_39 0 3) (h23 : mm_rg i_40 0 6) (h24 : mm_rg i_41 0 30) (h25 : mm_rg i_42 0 10) (h26 : mm_rg i_43 0 99) (h27 : mm_rg i_44 0 9) (h28 : mm_rg i_45 0 3) (h29 : mm_rg i_46 0 6) (h30 : mm_rg i_47 0 30) (h31 : mm_ar f_0 (-1) 99) (h32 : mm_acs f_0 0 i_20 i_21 i_23) (h33 : mm_acs f_0 1 i_26 i_27 i_29) (h34 : mm_acs f_0 2 i_32 i_33 i_35) (h35 : mm_acs f_0 3 i_38 i_39 i_41)  : mm_CV l yX12_does (mm_ws yX12_does cX12_does 5 (none)) ({ frames := 0, cells := 0, slots := 0, locals := 0 } : Room) G cy sz [(a_0, .inr (12, [.int i_1, .ref a_1, .ref a_2, .ref a_3, .ref a_4, .ref a_5, .int i_2, .int i_3, .int i_4, .int i_5, .int i_6, .long j_0, .int i_7, .int i_8, .int i_9, .int i_10, .ref a_6, .ref a_7, .ref a_8, .ref a_9, .ref a_10, .ref a_11, .ref a_12, .ref a_13, .ref a_14, .ref a_15, .ref a_16, .ref a_17, .ref a_18, .int i_11, .int i_12, .int i_13, .int i_14, .int i_15, .int i_16, .ref a_19, .int i_17, .ref a_20])), (a_7, .inl (cy 1, 30, .inl (mm_g [i_18, i_19, i_20, i_21, i_22, i_23, i_24, i_25, i_26, i_27, i_28, i_29, i_30, i_31, i_32, i_33, i_34, i_35, i_36, i_37, i_38, i_39, i_40, i_41, i_42, i_43, i_44, i_45, i_46, i_47]))), (a_13, .inl (cy 1, 450, .inl f_0))] [.ref a_0, .int (-1), .int 0, .int i_0] (fun u : Int32 × (Nat → Int32) => [(a_0, .inr (12, [.int i_1, .ref a_1, .ref a_2, .ref a_3, .ref a_4, .ref a_5, .int i_2, .int i_3, .int i_4, .int i_5, .int i_6, .long j_0, .int i_7, .int i_8, .int i_9, .int i_10, .ref a_6, .ref a_7, .ref a_8, .ref a_9, .ref a_10, .ref a_11, .ref a_12, .ref a_13, .ref a_14, .ref a_15, .ref a_16, .ref a_17, .ref a_18, .int i_11, .int i_12, .int i_13, .int i_14, .int i_15, .int i_16, .ref a_19, .int i_17, .ref a_20])), (a_7, .inl (cy 1, 30, .inl (mm_g [i_18, i_19, i_20, i_21, i_22, u.1, i_24, i_25, i_26, i_27, i_28, i_29, i_30, i_31, i_32, i_33, i_34, i_35, i_36, i_37, i_38, i_39, i_40, i_41, i_42, i_43, i_44, i_45, i_46, i_47]))), (a_13, .inl (cy 1, 450, .inl u.2))]) (fun u : Int32 × (Nat → Int32) => mm_rg u.1 1 30 ∧ mm_ar u.2 (-1) 99 ∧ mm_acs u.2 0 i_20 i_21 u.1 ∧ mm_acs u.2 1 i_26 i_27 i_29 ∧ mm_acs u.2 2 i_32 i_33 i_35 ∧ mm_acs u.2 3 i_38 i_39 i_41) 0 0 := by
  refine mm_begin (lv := [(0, .ref a_0), (1, .int (-1)), (2, .int 0), (3, .int i_0)]) (by decide) (Nat.le_of_ble_eq_true rfl) rfl ?_
  intro p e s m below meth c A ls R args Q H locs hRe hQ hAe hx hb hr hlocks hml hown hnm hts hsz hA hS hP hK hD hZ hl
  have hRf : R.frames = 0 := by rw [hRe]
  have hRl : R.locals = 0 := by rw [hRe]
  have hRc : R.cells = 0 := by rw [hRe]
  have hRs : R.slots = 0 := by rw [hRe]
  refine lv_iconst (v := 3) hx hb dX12_does_0 (by decide) ?_
  refine lv_aload_n hx hb dX12_does_1 rfl (lv_at hl 0 rfl) ?_
  refine va_get (D := G) (ci := 12) (v := .ref a_7) (C := RX12) (T := TX12) (N := 38) hx hb hts (mm_i inlX12) hown hK.1 hP 0 rfl rfl 17 (by decide) (mm_h hts mm_w149) (fun _ h9 => h9) rfl dX12_does_2 ?_
  refine lv_iconst (v := 5) hx hb dX12_does_5 (by decide) ?_
  refine va_iald hx hb hK.1 hP 1 1 rfl rfl (mm_in mm_k5 (by decide)) dX12_does_6 ?_
  rw [show (mm_g [i_18, i_19, i_20, i_21, i_22, i_23, i_24, i_25, i_26, i_27, i_28, i_29, i_30, i_31, i_32, i_33, i_34, i_35, i_36, i_37, i_38, i_39, i_40, i_41, i_42, i_43, i_44, i_45, i_46, i_47]) (5 : Int32).toNatClampNeg = i_23 from mm_ge 5 (by decide) rfl]
  refine lv_imul hx hb dX12_does_7 ?_
  refine lv_topi (fun v1 ev1 => ?_)
  have rv1 : mm_rg v1 0 87 := mm_mul ev1 mm_k3 h6 (by decide) (by decide)
  have tv1 := mm_mulEc ev1 mm_k3 h6 (by decide) (k := 3) (by decide)
  refine lv_istore (lv' := [(4, .int v1), (0, .ref a_0), (1, .int (-1)), (2, .int 0), (3, .int i_0)]) hx hb dX12_does_8 hl (by decide) rfl ?_
  clear hl
  clear ls
  intro ls hl
  refine lv_aload_n hx hb dX12_does_10 rfl (lv_at hl 1 rfl) ?_
  refine va_get (D := G) (ci := 12) (v := .ref a_13) (C := RX12) (T := TX12) (N := 38) hx hb hts (mm_i inlX12) hown hK.1 hP 0 rfl rfl 23 (by decide) (mm_h hts mm_w155) (fun _ h9 => h9) rfl dX12_does_11 ?_
  refine lv_iload hx hb dX12_does_14 (lv_at hl 0 rfl) ?_
  refine lv_iload_n hx hb dX12_does_16 rfl (lv_at hl 2 rfl) ?_
  refine va_iast hx hb hK.1 hP hD hS 2 1 rfl rfl (mm_in rv1 (by decide)) dX12_does_17 ?_
  clear hP hD hS
  clear H locs
  obtain ⟨g2, eg2⟩ : ∃ z : Nat → Int32, z = upd f_0 v1.toNatClampNeg (-1) := ⟨_, rfl⟩
  rw [← eg2]
  intro H locs (hP : va_P G vwCl [(a_0, .inr (12, [.int i_1, .ref a_1, .ref a_2, .ref a_3, .ref a_4, .ref a_5, .int i_2, .int i_3, .int i_4, .int i_5, .int i_6, .long j_0, .int i_7, .int i_8, .int i_9, .int i_10, .ref a_6, .ref a_7, .ref a_8, .ref a_9, .ref a_10, .ref a_11, .ref a_12, .ref a_13, .ref a_14, .ref a_15, .ref a_16, .ref a_17, .ref a_18, .int i_11, .int i_12, .int i_13, .int i_14, .int i_15, .int i_16, .ref a_19, .int i_17, .ref a_20])), (a_7, .inl (cy 1, 30, .inl (mm_g [i_18, i_19, i_20, i_21, i_22, i_23, i_24, i_25, i_26, i_27, i_28, i_29, i_30, i_31, i_32, i_33, i_34, i_35, i_36, i_37, i_38, i_39, i_40, i_41, i_42, i_43, i_44, i_45, i_46, i_47]))), (a_13, .inl (cy 1, 450, .inl g2))] H) (hD : va_D A [(a_0, .inr (12, [.int i_1, .ref a_1, .ref a_2, .ref a_3, .ref a_4, .ref a_5, .int i_2, .int i_3, .int i_4, .int i_5, .int i_6, .long j_0, .int i_7, .int i_8, .int i_9, .int i_10, .ref a_6, .ref a_7, .ref a_8, .ref a_9, .ref a_10, .ref a_11, .ref a_12, .ref a_13, .ref a_14, .ref a_15, .ref a_16, .ref a_17, .ref a_18, .int i_11, .int i_12, .int i_13, .int i_14, .int i_15, .int i_16, .ref a_19, .int i_17, .ref a_20])), (a_7, .inl (cy 1, 30, .inl (mm_g [i_18, i_19, i_20, i_21, i_22, i_23, i_24, i_25, i_26, i_27, i_28, i_29, i_30, i_31, i_32, i_33, i_34, i_35, i_36, i_37, i_38, i_39, i_40, i_41, i_42, i_43, i_44, i_45, i_46, i_47]))), (a_13, .inl (cy 1, 450, .inl g2))]) hS
  have rg2 : mm_ar g2 (-1) 99 := by rw [eg2]; exact mm_ar_upd (mm_ar_wk h31 (by decide)) (mm_wk mm_km1 (by decide)) _
  refine lv_aload_n hx hb dX12_does_18 rfl (lv_at hl 1 rfl) ?_
  refine va_get (D := G) (ci := 12) (v := .ref a_13) (C := RX12) (T := TX12) (N := 38) hx hb hts (mm_i inlX12) hown hK.1 hP 0 rfl rfl 23 (by decide) (mm_h hts mm_w155) (fun _ h9 => h9) rfl dX12_does_19 ?_
  refine lv_iload hx hb dX12_does_22 (lv_at hl 0 rfl) ?_
  refine lv_iconst (v := 1) hx hb dX12_does_24 (by decide) ?_
  refine lv_iadd hx hb dX12_does_25 ?_
  refine lv_topi (fun v3 ev3 => ?_)
  have rv3 : mm_rg v3 1 88 := mm_add ev3 rv1 mm_k1 (by decide) (by decide)
  have tv3 := mm_addEc ev3 rv1 mm_k1 (by decide) (k := 1) (by decide)
  refine lv_iload_n hx hb dX12_does_26 rfl (lv_at hl 3 rfl) ?_
  refine va_iast hx hb hK.1 hP hD hS 2 1 rfl rfl (mm_in rv3 (by decide)) dX12_does_27 ?_
  clear hP hD hS
  clear H locs
  obtain ⟨g4, eg4⟩ : ∃ z : Nat → Int32, z = upd g2 v3.toNatClampNeg 0 := ⟨_, rfl⟩
  rw [← eg4]
  intro H locs (hP : va_P G vwCl [(a_0, .inr (12, [.int i_1, .ref a_1, .ref a_2, .ref a_3, .ref a_4, .ref a_5, .int i_2, .int i_3, .int i_4, .int i_5, .int i_6, .long j_0, .int i_7, .int i_8, .int i_9, .int i_10, .ref a_6, .ref a_7, .ref a_8, .ref a_9, .ref a_10, .ref a_11, .ref a_12, .ref a_13, .ref a_14, .ref a_15, .ref a_16, .ref a_17, .ref a_18, .int i_11, .int i_12, .int i_13, .int i_14, .int i_15, .int i_16, .ref a_19, .int i_17, .ref a_20])), (a_7, .inl (cy 1, 30, .inl (mm_g [i_18, i_19, i_20, i_21, i_22, i_23, i_24, i_25, i_26, i_27, i_28, i_29, i_30, i_31, i_32, i_33, i_34, i_35, i_36, i_37, i_38, i_39, i_40, i_41, i_42, i_43, i_44, i_45, i_46, i_47]))), (a_13, .inl (cy 1, 450, .inl g4))] H) (hD : va_D A [(a_0, .inr (12, [.int i_1, .ref a_1, .ref a_2, .ref a_3, .ref a_4, .ref a_5, .int i_2, .int i_3, .int i_4, .int i_5, .int i_6, .long j_0, .int i_7, .int i_8, .int i_9, .int i_10, .ref a_6, .ref a_7, .ref a_8, .ref a_9, .ref a_10, .ref a_11, .ref a_12, .ref a_13, .ref a_14, .ref a_15, .ref a_16, .ref a_17, .ref a_18, .int i_11, .int i_12, .int i_13, .int i_14, .int i_15, .int i_16, .ref a_19, .int i_17, .ref a_20])), (a_7, .inl (cy 1, 30, .inl (mm_g [i_18, i_19, i_20, i_21, i_22, i_23, i_24, i_25, i_26, i_27, i_28, i_29, i_30, i_31, i_32, i_33, i_34, i_35, i_36, i_37, i_38, i_39, i_40, i_41, i_42, i_43, i_44, i_45, i_46, i_47]))), (a_13, .inl (cy 1, 450, .inl g4))]) hS
  have rg4 : mm_ar g4 (-1) 99 := by rw [eg4]; exact mm_ar_upd (mm_ar_wk rg2 (by decide)) (mm_wk mm_k0 (by decide)) _
  refine lv_aload_n hx hb dX12_does_28 rfl (lv_at hl 1 rfl) ?_
  refine va_get (D := G) (ci := 12) (v := .ref a_13) (C := RX12) (T := TX12) (N := 38) hx hb hts (mm_i inlX12) hown hK.1 hP 0 rfl rfl 23 (by decide) (mm_h hts mm_w155) (fun _ h9 => h9) rfl dX12_does_29 ?_
  refine lv_iload hx hb dX12_does_32 (lv_at hl 0 rfl) ?_
  refine lv_iconst (v := 2) hx hb dX12_does_34 (by decide) ?_
  refine lv_iadd hx hb dX12_does_35 ?_
  refine lv_topi (fun v5 ev5 => ?_)
  have rv5 : mm_rg v5 2 89 := mm_add ev5 rv1 mm_k2 (by decide) (by decide)
  have tv5 := mm_addEc ev5 rv1 mm_k2 (by decide) (k := 2) (by decide)
  refine lv_iload_n hx hb dX12_does_36 rfl (lv_at hl 4 rfl) ?_
  refine va_iast hx hb hK.1 hP hD hS 2 1 rfl rfl (mm_in rv5 (by decide)) dX12_does_37 ?_
  clear hP hD hS
  clear H locs
  obtain ⟨g6, eg6⟩ : ∃ z : Nat → Int32, z = upd g4 v5.toNatClampNeg i_0 := ⟨_, rfl⟩
  rw [← eg6]
  intro H locs (hP : va_P G vwCl [(a_0, .inr (12, [.int i_1, .ref a_1, .ref a_2, .ref a_3, .ref a_4, .ref a_5, .int i_2, .int i_3, .int i_4, .int i_5, .int i_6, .long j_0, .int i_7, .int i_8, .int i_9, .int i_10, .ref a_6, .ref a_7, .ref a_8, .ref a_9, .ref a_10, .ref a_11, .ref a_12, .ref a_13, .ref a_14, .ref a_15, .ref a_16, .ref a_17, .ref a_18, .int i_11, .int i_12, .int i_13, .int i_14, .int i_15, .int i_16, .ref a_19, .int i_17, .ref a_20])), (a_7, .inl (cy 1, 30, .inl (mm_g [i_18, i_19, i_20, i_21, i_22, i_23, i_24, i_25, i_26, i_27, i_28, i_29, i_30, i_31, i_32, i_33, i_34, i_35, i_36, i_37, i_38, i_39, i_40, i_41, i_42, i_43, i_44, i_45, i_46, i_47]))), (a_13, .inl (cy 1, 450, .inl g6))] H) (hD : va_D A [(a_0, .inr (12, [.int i_1, .ref a_1, .ref a_2, .ref a_3, .ref a_4, .ref a_5, .int i_2, .int i_3, .int i_4, .int i_5, .int i_6, .long j_0, .int i_7, .int i_8, .int i_9, .int i_10, .ref a_6, .ref a_7, .ref a_8, .ref a_9, .ref a_10, .ref a_11, .ref a_12, .ref a_13, .ref a_14, .ref a_15, .ref a_16, .ref a_17, .ref a_18, .int i_11, .int i_12, .int i_13, .int i_14, .int i_15, .int i_16, .ref a_19, .int i_17, .ref a_20])), (a_7, .inl (cy 1, 30, .inl (mm_g [i_18, i_19, i_20, i_21, i_22, i_23, i_24, i_25, i_26, i_27, i_28, i_29, i_30, i_31, i_32, i_33, i_34, i_35, i_36, i_37, i_38, i_39, i_40, i_41, i_42, i_43, i_44, i_45, i_46, i_47]))), (a_13, .inl (cy 1, 450, .inl g6))]) hS
  have rg6 : mm_ar g6 (-1) 99 := by rw [eg6]; exact mm_ar_upd (mm_ar_wk rg4 (by decide)) (mm_wk h0 (by decide)) _
  refine lv_aload_n hx hb dX12_does_38 rfl (lv_at hl 1 rfl) ?_
  refine va_get (D := G) (ci := 12) (v := .ref a_7) (C := RX12) (T := TX12) (N := 38) hx hb hts (mm_i inlX12) hown hK.1 hP 0 rfl rfl 17 (by decide) (mm_h hts mm_w149) (fun _ h9 => h9) rfl dX12_does_39 ?_
  refine lv_iconst (v := 5) hx hb dX12_does_42 (by decide) ?_
  refine lv_dup2_11 hx hb dX12_does_43 rfl rfl ?_
  refine va_iald hx hb hK.1 hP 1 1 rfl rfl (mm_in mm_k5 (by decide)) dX12_does_44 ?_
  rw [show (mm_g [i_18, i_19, i_20, i_21, i_22, i_23, i_24, i_25, i_26, i_27, i_28, i_29, i_30, i_31, i_32, i_33, i_34, i_35, i_36, i_37, i_38, i_39, i_40, i_41, i_42, i_43, i_44, i_45, i_46, i_47]) (5 : Int32).toNatClampNeg = i_23 from mm_ge 5 (by decide) rfl]
  refine lv_iconst (v := 1) hx hb dX12_does_45 (by decide) ?_
  refine lv_iadd hx hb dX12_does_46 ?_
  refine lv_topi (fun v7 ev7 => ?_)
  have rv7 : mm_rg v7 1 30 := mm_add ev7 h6 mm_k1 (by decide) (by decide)
  have tv7 := mm_addEc ev7 h6 mm_k1 (by decide) (k := 1) (by decide)
  refine va_iast hx hb hK.1 hP hD hS 1 1 rfl rfl (mm_in mm_k5 (by decide)) dX12_does_47 ?_
  clear hP hD hS
  clear H locs
  rw [show upd (mm_g [i_18, i_19, i_20, i_21, i_22, i_23, i_24, i_25, i_26, i_27, i_28, i_29, i_30, i_31, i_32, i_33, i_34, i_35, i_36, i_37, i_38, i_39, i_40, i_41, i_42, i_43, i_44, i_45, i_46, i_47]) (5 : Int32).toNatClampNeg v7 = (mm_g [i_18, i_19, i_20, i_21, i_22, v7, i_24, i_25, i_26, i_27, i_28, i_29, i_30, i_31, i_32, i_33, i_34, i_35, i_36, i_37, i_38, i_39, i_40, i_41, i_42, i_43, i_44, i_45, i_46, i_47]) from mm_gs2 5 30 (by decide) rfl rfl rfl]
  intro H locs (hP : va_P G vwCl [(a_0, .inr (12, [.int i_1, .ref a_1, .ref a_2, .ref a_3, .ref a_4, .ref a_5, .int i_2, .int i_3, .int i_4, .int i_5, .int i_6, .long j_0, .int i_7, .int i_8, .int i_9, .int i_10, .ref a_6, .ref a_7, .ref a_8, .ref a_9, .ref a_10, .ref a_11, .ref a_12, .ref a_13, .ref a_14, .ref a_15, .ref a_16, .ref a_17, .ref a_18, .int i_11, .int i_12, .int i_13, .int i_14, .int i_15, .int i_16, .ref a_19, .int i_17, .ref a_20])), (a_7, .inl (cy 1, 30, .inl (mm_g [i_18, i_19, i_20, i_21, i_22, v7, i_24, i_25, i_26, i_27, i_28, i_29, i_30, i_31, i_32, i_33, i_34, i_35, i_36, i_37, i_38, i_39, i_40, i_41, i_42, i_43, i_44, i_45, i_46, i_47]))), (a_13, .inl (cy 1, 450, .inl g6))] H) (hD : va_D A [(a_0, .inr (12, [.int i_1, .ref a_1, .ref a_2, .ref a_3, .ref a_4, .ref a_5, .int i_2, .int i_3, .int i_4, .int i_5, .int i_6, .long j_0, .int i_7, .int i_8, .int i_9, .int i_10, .ref a_6, .ref a_7, .ref a_8, .ref a_9, .ref a_10, .ref a_11, .ref a_12, .ref a_13, .ref a_14, .ref a_15, .ref a_16, .ref a_17, .ref a_18, .int i_11, .int i_12, .int i_13, .int i_14, .int i_15, .int i_16, .ref a_19, .int i_17, .ref a_20])), (a_7, .inl (cy 1, 30, .inl (mm_g [i_18, i_19, i_20, i_21, i_22, v7, i_24, i_25, i_26, i_27, i_28, i_29, i_30, i_31, i_32, i_33, i_34, i_35, i_36, i_37, i_38, i_39, i_40, i_41, i_42, i_43, i_44, i_45, i_46, i_47]))), (a_13, .inl (cy 1, 450, .inl g6))]) hS
  have w8 : mm_acs g6 0 i_20 i_21 v7 := (mm_acs_put h32 eg2 eg4 eg6 (by have := tv1; omega) (by have := tv3; have := tv1; omega) (by have := tv5; have := tv1; omega) (by have := tv7; omega) h6 h0 (Or.inl (mm_neg mm_km1 (by decide))) (by decide))
  have w9 : mm_acs g6 1 i_26 i_27 i_29 := (mm_acs_hi h33 eg2 eg4 eg6 rv1 rv3 rv5 (by decide))
  have w10 : mm_acs g6 2 i_32 i_33 i_35 := (mm_acs_hi h34 eg2 eg4 eg6 rv1 rv3 rv5 (by decide))
  have w11 : mm_acs g6 3 i_38 i_39 i_41 := (mm_acs_hi h35 eg2 eg4 eg6 rv1 rv3 rv5 (by decide))
  subst hAe
  rw [hQ]
  exact W.vret hx hb hr (fun t ht hW => ⟨⟨(v7, g6), rfl, ⟨rv7, rg6, w8, w9, w10, w11⟩, by rw [ht]; exact hP, hK.warm hW, hD⟩, hS.F ht⟩) hS.2.2 dX12_does_48

set_option maxHeartbeats 4000000 in
set_option maxRecDepth 100000 in
theorem M302_X12_stock (l : Launch) (G : va_G) (cy : Nat → ClassId) (sz : Nat) (a_0 : Nat) (i_0 : Int32) (i_1 : Int32) (a_1 : Nat) (a_2 : Nat) (a_3 : Nat) (a_4 : Nat) (a_5 : Nat) (i_2 : Int32) (i_3 : Int32) (i_4 : Int32) (i_5 : Int32) (i_6 : Int32) (j_0 : Int64) (i_7 : Int32) (i_8 : Int32) (i_9 : Int32) (i_10 : Int32) (a_6 : Nat) (a_7 : Nat) (a_8 : Nat) (a_9 : Nat) (a_10 : Nat) (a_11 : Nat) (a_12 : Nat) (a_13 : Nat) (a_14 : Nat) (a_15 : Nat) (a_16 : Nat) (a_17 : Nat) (a_18 : Nat) (i_11 : Int32) (i_12 : Int32) (i_13 : Int32) (i_14 : Int32) (i_15 : Int32) (i_16 : Int32) (a_19 : Nat) (i_17 : Int32) (a_20 : Nat) (i_18 : Int32) (i_19 : Int32) (i_20 : Int32) (i_21 : Int32) (i_22 : Int32) (i_23 : Int32) (i_24 : Int32) (i_25 : Int32) (i_26 : Int32) (i_27 : Int32) (i_28 : Int32) (i_29 : Int32) (i_30 : Int32) (i_31 : Int32) (i_32 : Int32) (i_33 : Int32) (i_34 : Int32) (i_35 : Int32) (i_36 : Int32) (i_37 : Int32) (i_38 : Int32) (i_39 : Int32) (i_40 : Int32) (i_41 : Int32) (i_42 : Int32) (i_43 : Int32) (i_44 : Int32) (i_45 : Int32) (i_46 : Int32) (i_47 : Int32) (i_48 : Int32) (i_49 : Int32) (i_50 : Int32) (i_51 : Int32) (i_52 : Int32) (f_0 : Nat → Int32) (h0 : mm_rg i_18 0 601) (h1 : mm_rg i_19 0 601) (h2 : mm_rg i_20 0 601) (h3 : mm_rg i_21 0 601) (h4 : mm_rg i_22 0 601) (h5 : mm_rg i_23 0 10) (h6 : mm_rg i_24 0 99) (h7 : mm_rg i_25 0 9) (h8 : mm_rg i_26 0 3) (h9 : mm_rg i_27 0 6) (h10 : mm_rg i_28 0 30) (h11 : mm_rg i_29 0 10) (h12 : mm_rg i_30 0 99) (h13 : mm_rg i_31 0 9) (h14 : mm_rg i_32 0 3) (h15 : mm_rg i_33 0 6) (h16 : mm_rg i_34 0 30) (h17 : mm_rg i_35 0 10) (h18 : mm_rg i_36 0 99) (h19 : mm_rg i_37 0 9) (h20 : mm_rg i_38 0 3) (h21 : mm_rg i_39 0 6) (h22 : mm_rg i_40 0 30) (h23 : mm_rg i_41 0 10) (h24 : mm_rg i_42 0 99) (h25 : mm_rg i_43 0 9) (h26 : mm_rg i_44 0 3) (h27 : mm_rg i_45 0 6) (h28 : mm_rg i_46 0 30) (h29 : mm_rg i_47 0 10) (h30 : mm_rg i_48 0 99) (h31 : mm_rg i_49 0 9) (h32 : mm_rg i_50 0 3) (h33 : mm_rg i_51 0 6) (h34 : mm_rg i_52 0 30) (h35 : mm_ar f_0 (-1) 99) (h36 : mm_acs f_0 0 i_25 i_26 i_28) (h37 : mm_tl i_18 i_26 i_27) (h38 : mm_acs f_0 1 i_31 i_32 i_34) (h39 : mm_tl i_19 i_32 i_33) (h40 : mm_acs f_0 2 i_37 i_38 i_40) (h41 : mm_tl i_20 i_38 i_39) (h42 : mm_acs f_0 3 i_43 i_44 i_46) (h43 : mm_tl i_21 i_44 i_45)  : mm_CI l yX12_stock (mm_ws yX12_stock cX12_stock 3 (some .int)) ({ frames := 1, cells := 0, slots := 0, locals := 25 } : Room) G cy sz [(a_0, .inr (12, [.int i_1, .ref a_1, .ref a_2, .ref a_3, .ref a_4, .ref a_5, .int i_2, .int i_3, .int i_4, .int i_5, .int i_6, .long j_0, .int i_7, .int i_8, .int i_9, .int i_10, .ref a_6, .ref a_7, .ref a_8, .ref a_9, .ref a_10, .ref a_11, .ref a_12, .ref a_13, .ref a_14, .ref a_15, .ref a_16, .ref a_17, .ref a_18, .int i_11, .int i_12, .int i_13, .int i_14, .int i_15, .int i_16, .ref a_19, .int i_17, .ref a_20])), (a_6, .inl (cy 1, 5, .inl (mm_g [i_18, i_19, i_20, i_21, i_22]))), (a_7, .inl (cy 1, 30, .inl (mm_g [i_23, i_24, i_25, i_26, i_27, i_28, i_29, i_30, i_31, i_32, i_33, i_34, i_35, i_36, i_37, i_38, i_39, i_40, i_41, i_42, i_43, i_44, i_45, i_46, i_47, i_48, i_49, i_50, i_51, i_52]))), (a_13, .inl (cy 1, 450, .inl f_0))] [.ref a_0, .int i_0] (fun u : Int32 × (Nat → Int32) => [(a_0, .inr (12, [.int 0, .ref a_1, .ref a_2, .ref a_3, .ref a_4, .ref a_5, .int i_2, .int i_3, .int i_4, .int i_5, .int i_6, .long j_0, .int i_7, .int i_8, .int i_9, .int i_10, .ref a_6, .ref a_7, .ref a_8, .ref a_9, .ref a_10, .ref a_11, .ref a_12, .ref a_13, .ref a_14, .ref a_15, .ref a_16, .ref a_17, .ref a_18, .int i_11, .int i_12, .int i_13, .int i_14, .int i_15, .int i_16, .ref a_19, .int i_17, .ref a_20])), (a_6, .inl (cy 1, 5, .inl (mm_g [i_18, i_19, i_20, i_21, i_22]))), (a_7, .inl (cy 1, 30, .inl (mm_g [i_23, i_24, i_25, i_26, i_27, u.1, i_29, i_30, i_31, i_32, i_33, i_34, i_35, i_36, i_37, i_38, i_39, i_40, i_41, i_42, i_43, i_44, i_45, i_46, i_47, i_48, i_49, i_50, i_51, i_52]))), (a_13, .inl (cy 1, 450, .inl u.2))]) (fun (r : Int32) (u : Int32 × (Nat → Int32)) => mm_rg u.1 0 30 ∧ mm_ar u.2 (-1) 99 ∧ mm_acs u.2 0 i_25 i_26 u.1 ∧ mm_acs u.2 1 i_31 i_32 i_34 ∧ mm_acs u.2 2 i_37 i_38 i_40 ∧ mm_acs u.2 3 i_43 i_44 i_46 ∧ mm_rg r (-5) 99) 0 0 := by
  refine mm_begin (lv := [(0, .ref a_0), (1, .int i_0)]) (by decide) (Nat.le_of_ble_eq_true rfl) rfl ?_
  intro p e s m below meth c A ls R args Q H locs hRe hQ hAe hx hb hr hlocks hml hown hnm hts hsz hA hS hP hK hD hZ hl
  have hRf : R.frames = 1 := by rw [hRe]
  have hRl : R.locals = 25 := by rw [hRe]
  have hRc : R.cells = 0 := by rw [hRe]
  have hRs : R.slots = 0 := by rw [hRe]
  refine lv_aload_n hx hb dX12_stock_0 rfl (lv_at hl 0 rfl) ?_
  refine lv_iconst (v := 0) hx hb dX12_stock_1 (by decide) ?_
  refine va_put (D := G) (ci := 12) (v := .int 0) (ty := tyX12 0) (C := RX12) (T := TX12) (N := 38) hx hb hts (mm_i inlX12) tyX12 tyX12_ok nmX12 hown hK.1 hP hD hS 0 rfl rfl 0 (by decide) (mm_h hts mm_w177) (fun _ h9 => h9) rfl (tyX12_ok 0 (by decide)) rfl rfl (Nat.le_of_ble_eq_true rfl) dX12_stock_2 ?_
  clear hP hD hS
  clear H locs
  intro H locs (hP : va_P G vwCl [(a_0, .inr (12, [.int 0, .ref a_1, .ref a_2, .ref a_3, .ref a_4, .ref a_5, .int i_2, .int i_3, .int i_4, .int i_5, .int i_6, .long j_0, .int i_7, .int i_8, .int i_9, .int i_10, .ref a_6, .ref a_7, .ref a_8, .ref a_9, .ref a_10, .ref a_11, .ref a_12, .ref a_13, .ref a_14, .ref a_15, .ref a_16, .ref a_17, .ref a_18, .int i_11, .int i_12, .int i_13, .int i_14, .int i_15, .int i_16, .ref a_19, .int i_17, .ref a_20])), (a_6, .inl (cy 1, 5, .inl (mm_g [i_18, i_19, i_20, i_21, i_22]))), (a_7, .inl (cy 1, 30, .inl (mm_g [i_23, i_24, i_25, i_26, i_27, i_28, i_29, i_30, i_31, i_32, i_33, i_34, i_35, i_36, i_37, i_38, i_39, i_40, i_41, i_42, i_43, i_44, i_45, i_46, i_47, i_48, i_49, i_50, i_51, i_52]))), (a_13, .inl (cy 1, 450, .inl f_0))] H) (hD : va_D A [(a_0, .inr (12, [.int 0, .ref a_1, .ref a_2, .ref a_3, .ref a_4, .ref a_5, .int i_2, .int i_3, .int i_4, .int i_5, .int i_6, .long j_0, .int i_7, .int i_8, .int i_9, .int i_10, .ref a_6, .ref a_7, .ref a_8, .ref a_9, .ref a_10, .ref a_11, .ref a_12, .ref a_13, .ref a_14, .ref a_15, .ref a_16, .ref a_17, .ref a_18, .int i_11, .int i_12, .int i_13, .int i_14, .int i_15, .int i_16, .ref a_19, .int i_17, .ref a_20])), (a_6, .inl (cy 1, 5, .inl (mm_g [i_18, i_19, i_20, i_21, i_22]))), (a_7, .inl (cy 1, 30, .inl (mm_g [i_23, i_24, i_25, i_26, i_27, i_28, i_29, i_30, i_31, i_32, i_33, i_34, i_35, i_36, i_37, i_38, i_39, i_40, i_41, i_42, i_43, i_44, i_45, i_46, i_47, i_48, i_49, i_50, i_51, i_52]))), (a_13, .inl (cy 1, 450, .inl f_0))]) hS
  refine lv_aload_n hx hb dX12_stock_5 rfl (lv_at hl 0 rfl) ?_
  refine mm_finir (va_runV (As := []) (rest := []) ⟨hx, hb, hml, hown, hts⟩ (M120_X12_isBook l G cy H.size a_0 0 a_1 a_2 a_3 a_4 a_5 i_2 i_3 i_4 i_5 i_6 j_0 i_7 i_8 i_9 i_10 a_6 a_7 a_8 a_9 a_10 a_11 a_12 a_13 a_14 a_15 a_16 a_17 a_18 i_11 i_12 i_13 i_14 i_15 i_16 a_19 i_17 a_20 i_18 i_19 i_20 i_21 i_22 h0 h1 h2 h3 h4) (cwV 0 hts (mm_gV mm_w653 mm_w654 mm_w655 mm_w5 mm_w656) rfl rfl rfl hd_X12_isBook ⟨by rw [hRf]; exact Nat.le_of_ble_eq_true rfl, by rw [hRl]; exact Nat.le_of_ble_eq_true rfl⟩) (mm_preV hK hZ hS hA hP hD [0, 1] rfl rfl 0 rfl rfl rfl) rfl rfl hl.1 rfl (lv_room (Nat.le_of_ble_eq_true rfl)) dX12_stock_6 ⟨by rw [hRc]; exact Nat.le_of_ble_eq_true rfl, by rw [hRs]; exact Nat.le_of_ble_eq_true rfl⟩) hP hD hS hA [0, 1] rfl (fun _ => rfl) ?_
  clear hP hD hS
  clear H locs
  intro v1 _u H locs hw hP hD hS
  rcases hw with rfl | rfl
  · refine lv_if_eq (tgt := 24) hx hb dX12_stock_9 (by decide) (fun c2 => ?_) (fun c2 => ?_)
    · refine lv_bipush (v := (-2)) hx hb dX12_stock_24 (by decide) ?_
      subst hAe
      rw [hQ]
      exact W.iret (v := (-2)) hx hb hr (fun t ht hW => ⟨⟨(-2), (i_28, f_0), rfl, ⟨h10, h35, h36, h38, h40, h42, (mm_wk mm_km2 (by decide))⟩, by rw [ht]; exact hP, hK.warm hW, hD⟩, hS.F ht⟩) hS.2.2 dX12_stock_26
    · exact absurd rfl (mm_ne c2)
  · refine lv_if_eq (tgt := 24) hx hb dX12_stock_9 (by decide) (fun c3 => ?_) (fun c3 => ?_)
    · exact mm_eqN c3.symm mm_k0 mm_k1 (by decide)
    · refine lv_iload_n hx hb dX12_stock_12 rfl (lv_at hl 1 rfl) ?_
      obtain ⟨v4, ev4⟩ : ∃ y : Int64, y = i_0.toInt64 := ⟨_, rfl⟩
      refine lv_i2l hx hb dX12_stock_13 ev4.symm ?_
      have rv4 : mm_rl v4 (-2147483648) 2147483647 := mm_i2l ev4 (mm_top i_0)
      refine lv_lconst (v := 0) hx hb dX12_stock_14 (by decide) ?_
      refine lv_ldc2 (v := 99) hx hb hown (mm_h hts mm_w1566) dX12_stock_15 ?_
      refine mm_finir (va_runS (As := [.long v4, .long 0, .long 99]) (rest := []) ⟨hx, hb, hml, hown, hts⟩ (M7_X12_in l G cy H.size v4 99 ) (va_cwS 3 hts (mm_gS mm_w191 mm_w192 mm_w5 mm_w193) rfl rfl rfl hs_X12_in ⟨by rw [hRf]; exact Nat.le_of_ble_eq_true rfl, by rw [hRl]; exact Nat.le_of_ble_eq_true rfl⟩) (mm_preS hK hZ hS hA hP hD [] rfl rfl) rfl rfl hl.1 rfl (lv_room (Nat.le_of_ble_eq_true rfl)) dX12_stock_18 ⟨by rw [hRc]; exact Nat.le_of_ble_eq_true rfl, by rw [hRs]; exact Nat.le_of_ble_eq_true rfl⟩) hP hD hS hA [] rfl (fun _ => rfl) ?_
      clear hP hD hS
      clear H locs
      intro v5 _u H locs hw hP hD hS
      rcases hw with ⟨rfl, w6⟩ | ⟨rfl, w7, w8, w9, w10⟩
      · refine lv_if_ne (tgt := 27) hx hb dX12_stock_21 (by decide) (fun c11 => ?_) (fun c11 => ?_)
        · exact absurd rfl (mm_ne c11)
        · refine lv_bipush (v := (-2)) hx hb dX12_stock_24 (by decide) ?_
          subst hAe
          rw [hQ]
          exact W.iret (v := (-2)) hx hb hr (fun t ht hW => ⟨⟨(-2), (i_28, f_0), rfl, ⟨h10, h35, h36, h38, h40, h42, (mm_wk mm_km2 (by decide))⟩, by rw [ht]; exact hP, hK.warm hW, hD⟩, hS.F ht⟩) hS.2.2 dX12_stock_26
      · have q12 := mm_meetl (lo := 0) (hi := 2147483647) w7 rv4 (by decide)
        have q13 := mm_meet (lo := 0) (hi := 2147483647) (mm_l2x ev4 q12) (mm_top i_0) (by decide)
        have q14 := mm_leLl w9 q12 mm_kl99
        have q15 := mm_meet (lo := 0) (hi := 99) (mm_l2x ev4 q14) q13 (by decide)
        refine lv_if_ne (tgt := 27) hx hb dX12_stock_21 (by decide) (fun c16 => ?_) (fun c16 => ?_)
        · refine lv_aload_n hx hb dX12_stock_27 rfl (lv_at hl 0 rfl) ?_
          refine va_get (D := G) (ci := 12) (v := .ref a_7) (C := RX12) (T := TX12) (N := 38) hx hb hts (mm_i inlX12) hown hK.1 hP 0 rfl rfl 17 (by decide) (mm_h hts mm_w149) (fun _ h9 => h9) rfl dX12_stock_28 ?_
          refine lv_iconst (v := 5) hx hb dX12_stock_31 (by decide) ?_
          refine va_iald hx hb hK.1 hP 2 1 rfl rfl (mm_in mm_k5 (by decide)) dX12_stock_32 ?_
          rw [show (mm_g [i_23, i_24, i_25, i_26, i_27, i_28, i_29, i_30, i_31, i_32, i_33, i_34, i_35, i_36, i_37, i_38, i_39, i_40, i_41, i_42, i_43, i_44, i_45, i_46, i_47, i_48, i_49, i_50, i_51, i_52]) (5 : Int32).toNatClampNeg = i_28 from mm_ge 5 (by decide) rfl]
          refine lv_bipush (v := 30) hx hb dX12_stock_33 (by decide) ?_
          refine lv_icmp_ne (tgt := 41) hx hb dX12_stock_35 (by decide) (fun c17 => ?_) (fun c17 => ?_)
          · have q18 := mm_neH (hi := 29) (mm_ne c17) h10 mm_k30 (by decide) (by decide)
            refine lv_aload_n hx hb dX12_stock_41 rfl (lv_at hl 0 rfl) ?_
            refine mm_finir (va_runV (As := []) (rest := []) ⟨hx, hb, hml, hown, hts⟩ (M139_X12_stockNow l G cy H.size a_0 0 a_1 a_2 a_3 a_4 a_5 i_2 i_3 i_4 i_5 i_6 j_0 i_7 i_8 i_9 i_10 a_6 a_7 a_8 a_9 a_10 a_11 a_12 a_13 a_14 a_15 a_16 a_17 a_18 i_11 i_12 i_13 i_14 i_15 i_16 a_19 i_17 a_20 i_23 i_24 i_25 i_26 i_27 i_28 i_29 i_30 i_31 i_32 i_33 i_34 i_35 i_36 i_37 i_38 i_39 i_40 i_41 i_42 i_43 i_44 i_45 i_46 i_47 i_48 i_49 i_50 i_51 i_52 f_0 h5 h6 h7 h8 h9 (mm_wk q18 (by decide)) h11 h12 h13 h14 h15 h16 h17 h18 h19 h20 h21 h22 h23 h24 h25 h26 h27 h28 h29 h30 h31 h32 h33 h34 h35 h36 h38 h40 h42) (cwV 0 hts (mm_gV mm_w861 mm_w862 mm_w863 mm_w5 mm_w864) rfl rfl rfl hd_X12_stockNow ⟨by rw [hRf]; exact Nat.le_of_ble_eq_true rfl, by rw [hRl]; exact Nat.le_of_ble_eq_true rfl⟩) (mm_preV hK hZ hS hA hP hD [0, 2, 3] rfl rfl 0 rfl rfl rfl) rfl rfl hl.1 rfl (lv_room (Nat.le_of_ble_eq_true rfl)) dX12_stock_42 ⟨by rw [hRc]; exact Nat.le_of_ble_eq_true rfl, by rw [hRs]; exact Nat.le_of_ble_eq_true rfl⟩) hP hD hS hA [0, 2, 3] rfl (fun _ => rfl) ?_
            clear hP hD hS
            clear H locs
            intro v19 _u H locs hw hP hD hS
            obtain ⟨w20, w21⟩ := hw
            refine lv_istore_n (lv' := [(2, .int v19), (0, .ref a_0), (1, .int i_0)]) hx hb dX12_stock_45 rfl hl (by decide) rfl ?_
            clear hl
            clear ls
            intro ls hl
            refine lv_aload_n hx hb dX12_stock_46 rfl (lv_at hl 1 rfl) ?_
            refine lv_iconst (v := (-1)) hx hb dX12_stock_47 (by decide) ?_
            refine lv_iconst (v := 0) hx hb dX12_stock_48 (by decide) ?_
            refine lv_iload_n hx hb dX12_stock_49 rfl (lv_at hl 2 rfl) ?_
            refine mm_finv (va_runV (As := [.int (-1), .int 0, .int i_0]) (rest := []) ⟨hx, hb, hml, hown, hts⟩ (M301_X12_does l G cy H.size a_0 i_0 0 a_1 a_2 a_3 a_4 a_5 i_2 i_3 i_4 i_5 i_6 j_0 i_7 i_8 i_9 i_10 a_6 a_7 a_8 a_9 a_10 a_11 a_12 a_13 a_14 a_15 a_16 a_17 a_18 i_11 i_12 i_13 i_14 i_15 i_16 a_19 i_17 a_20 i_23 i_24 i_25 i_26 i_27 i_28 i_29 i_30 i_31 i_32 i_33 i_34 i_35 i_36 i_37 i_38 i_39 i_40 i_41 i_42 i_43 i_44 i_45 i_46 i_47 i_48 i_49 i_50 i_51 i_52 f_0 q15 h5 h6 h7 h8 h9 q18 h11 h12 h13 h14 h15 h16 h17 h18 h19 h20 h21 h22 h23 h24 h25 h26 h27 h28 h29 h30 h31 h32 h33 h34 h35 h36 h38 h40 h42) (cwV 3 hts (mm_gV mm_w1554 mm_w1555 mm_w1556 mm_w5 mm_w1557) rfl rfl rfl hd_X12_does ⟨by rw [hRf]; exact Nat.le_of_ble_eq_true rfl, by rw [hRl]; exact Nat.le_of_ble_eq_true rfl⟩) (mm_preV hK hZ hS hA hP hD [0, 2, 3] rfl rfl 0 rfl rfl rfl) rfl rfl hl.1 rfl (lv_room (Nat.le_of_ble_eq_true rfl)) dX12_stock_50 ⟨by rw [hRc]; exact Nat.le_of_ble_eq_true rfl, by rw [hRs]; exact Nat.le_of_ble_eq_true rfl⟩) hP hD hS hA (fun u : Int32 × (Nat → Int32) => [(a_0, .inr (12, [.int 0, .ref a_1, .ref a_2, .ref a_3, .ref a_4, .ref a_5, .int i_2, .int i_3, .int i_4, .int i_5, .int i_6, .long j_0, .int i_7, .int i_8, .int i_9, .int i_10, .ref a_6, .ref a_7, .ref a_8, .ref a_9, .ref a_10, .ref a_11, .ref a_12, .ref a_13, .ref a_14, .ref a_15, .ref a_16, .ref a_17, .ref a_18, .int i_11, .int i_12, .int i_13, .int i_14, .int i_15, .int i_16, .ref a_19, .int i_17, .ref a_20])), (a_6, .inl (cy 1, 5, .inl (mm_g [i_18, i_19, i_20, i_21, i_22]))), (a_7, .inl (cy 1, 30, .inl (mm_g [i_23, i_24, i_25, i_26, i_27, u.1, i_29, i_30, i_31, i_32, i_33, i_34, i_35, i_36, i_37, i_38, i_39, i_40, i_41, i_42, i_43, i_44, i_45, i_46, i_47, i_48, i_49, i_50, i_51, i_52]))), (a_13, .inl (cy 1, 450, .inl u.2))]) [0, 2, 3] [1] (n := 4) (fun _ => rfl) (by decide +kernel) (by decide +kernel) rfl (fun _ => rfl) (wr := [(a_6, .inl (cy 1, 5, .inl (mm_g [i_18, i_19, i_20, i_21, i_22])))]) rfl (fun _ => rfl) (fun _ => @rfl _ ([a_0, a_7, a_13] : List Nat)) ?_
            clear hP hD hS
            clear H locs
            intro u
            obtain ⟨n22, n23⟩ := u
            intro H locs hw (hP : va_P G vwCl [(a_0, .inr (12, [.int 0, .ref a_1, .ref a_2, .ref a_3, .ref a_4, .ref a_5, .int i_2, .int i_3, .int i_4, .int i_5, .int i_6, .long j_0, .int i_7, .int i_8, .int i_9, .int i_10, .ref a_6, .ref a_7, .ref a_8, .ref a_9, .ref a_10, .ref a_11, .ref a_12, .ref a_13, .ref a_14, .ref a_15, .ref a_16, .ref a_17, .ref a_18, .int i_11, .int i_12, .int i_13, .int i_14, .int i_15, .int i_16, .ref a_19, .int i_17, .ref a_20])), (a_6, .inl (cy 1, 5, .inl (mm_g [i_18, i_19, i_20, i_21, i_22]))), (a_7, .inl (cy 1, 30, .inl (mm_g [i_23, i_24, i_25, i_26, i_27, n22, i_29, i_30, i_31, i_32, i_33, i_34, i_35, i_36, i_37, i_38, i_39, i_40, i_41, i_42, i_43, i_44, i_45, i_46, i_47, i_48, i_49, i_50, i_51, i_52]))), (a_13, .inl (cy 1, 450, .inl n23))] H) (hD : va_D A [(a_0, .inr (12, [.int 0, .ref a_1, .ref a_2, .ref a_3, .ref a_4, .ref a_5, .int i_2, .int i_3, .int i_4, .int i_5, .int i_6, .long j_0, .int i_7, .int i_8, .int i_9, .int i_10, .ref a_6, .ref a_7, .ref a_8, .ref a_9, .ref a_10, .ref a_11, .ref a_12, .ref a_13, .ref a_14, .ref a_15, .ref a_16, .ref a_17, .ref a_18, .int i_11, .int i_12, .int i_13, .int i_14, .int i_15, .int i_16, .ref a_19, .int i_17, .ref a_20])), (a_6, .inl (cy 1, 5, .inl (mm_g [i_18, i_19, i_20, i_21, i_22]))), (a_7, .inl (cy 1, 30, .inl (mm_g [i_23, i_24, i_25, i_26, i_27, n22, i_29, i_30, i_31, i_32, i_33, i_34, i_35, i_36, i_37, i_38, i_39, i_40, i_41, i_42, i_43, i_44, i_45, i_46, i_47, i_48, i_49, i_50, i_51, i_52]))), (a_13, .inl (cy 1, 450, .inl n23))]) hS
            obtain ⟨w24, w25, w26, w27, w28, w29⟩ := hw
            replace w26 : mm_acs n23 0 i_25 i_26 n22 := w26
            replace w27 : mm_acs n23 1 i_31 i_32 i_34 := w27
            replace w28 : mm_acs n23 2 i_37 i_38 i_40 := w28
            replace w29 : mm_acs n23 3 i_43 i_44 i_46 := w29
            refine lv_iload_n hx hb dX12_stock_53 rfl (lv_at hl 0 rfl) ?_
            subst hAe
            rw [hQ]
            exact W.iret (v := v19) hx hb hr (fun t ht hW => ⟨⟨v19, (n22, n23), rfl, ⟨(mm_wk w24 (by decide)), w25, w26, w27, w28, w29, (mm_wk w20 (by decide))⟩, by rw [ht]; exact hP, hK.warm hW, hD⟩, hS.F ht⟩) hS.2.2 dX12_stock_54
          · have q30 := mm_eqI (lo := 30) (hi := 30) c17 h10 mm_k30 (by decide)
            refine lv_bipush (v := (-5)) hx hb dX12_stock_38 (by decide) ?_
            subst hAe
            rw [hQ]
            exact W.iret (v := (-5)) hx hb hr (fun t ht hW => ⟨⟨(-5), (i_28, f_0), rfl, ⟨(mm_wk q30 (by decide)), h35, h36, h38, h40, h42, (mm_wk mm_km5 (by decide))⟩, by rw [ht]; exact hP, hK.warm hW, hD⟩, hS.F ht⟩) hS.2.2 dX12_stock_40
        · exact mm_eqN c16.symm mm_k0 mm_k1 (by decide)

set_option maxHeartbeats 4000000 in
set_option maxRecDepth 100000 in
theorem M303_X12_undo (l : Launch) (G : va_G) (cy : Nat → ClassId) (sz : Nat) (a_0 : Nat) (i_0 : Int32) (a_1 : Nat) (a_2 : Nat) (a_3 : Nat) (a_4 : Nat) (a_5 : Nat) (i_1 : Int32) (i_2 : Int32) (i_3 : Int32) (i_4 : Int32) (i_5 : Int32) (j_0 : Int64) (i_6 : Int32) (i_7 : Int32) (i_8 : Int32) (i_9 : Int32) (a_6 : Nat) (a_7 : Nat) (a_8 : Nat) (a_9 : Nat) (a_10 : Nat) (a_11 : Nat) (a_12 : Nat) (a_13 : Nat) (a_14 : Nat) (a_15 : Nat) (a_16 : Nat) (a_17 : Nat) (a_18 : Nat) (i_10 : Int32) (i_11 : Int32) (i_12 : Int32) (i_13 : Int32) (i_14 : Int32) (i_15 : Int32) (a_19 : Nat) (i_16 : Int32) (a_20 : Nat) (i_17 : Int32) (i_18 : Int32) (i_19 : Int32) (i_20 : Int32) (i_21 : Int32) (i_22 : Int32) (i_23 : Int32) (i_24 : Int32) (i_25 : Int32) (i_26 : Int32) (i_27 : Int32) (i_28 : Int32) (i_29 : Int32) (i_30 : Int32) (i_31 : Int32) (i_32 : Int32) (i_33 : Int32) (i_34 : Int32) (i_35 : Int32) (i_36 : Int32) (i_37 : Int32) (i_38 : Int32) (i_39 : Int32) (i_40 : Int32) (i_41 : Int32) (i_42 : Int32) (i_43 : Int32) (i_44 : Int32) (i_45 : Int32) (i_46 : Int32) (i_47 : Int32) (i_48 : Int32) (i_49 : Int32) (i_50 : Int32) (i_51 : Int32) (h0 : mm_rg i_17 0 601) (h1 : mm_rg i_18 0 601) (h2 : mm_rg i_19 0 601) (h3 : mm_rg i_20 0 601) (h4 : mm_rg i_21 0 601) (h5 : mm_rg i_22 0 10) (h6 : mm_rg i_23 0 99) (h7 : mm_rg i_24 0 9) (h8 : mm_rg i_25 0 3) (h9 : mm_rg i_26 0 6) (h10 : mm_rg i_27 0 30) (h11 : mm_rg i_28 0 10) (h12 : mm_rg i_29 0 99) (h13 : mm_rg i_30 0 9) (h14 : mm_rg i_31 0 3) (h15 : mm_rg i_32 0 6) (h16 : mm_rg i_33 0 30) (h17 : mm_rg i_34 0 10) (h18 : mm_rg i_35 0 99) (h19 : mm_rg i_36 0 9) (h20 : mm_rg i_37 0 3) (h21 : mm_rg i_38 0 6) (h22 : mm_rg i_39 0 30) (h23 : mm_rg i_40 0 10) (h24 : mm_rg i_41 0 99) (h25 : mm_rg i_42 0 9) (h26 : mm_rg i_43 0 3) (h27 : mm_rg i_44 0 6) (h28 : mm_rg i_45 0 30) (h29 : mm_rg i_46 0 10) (h30 : mm_rg i_47 0 99) (h31 : mm_rg i_48 0 9) (h32 : mm_rg i_49 0 3) (h33 : mm_rg i_50 0 6) (h34 : mm_rg i_51 0 30) (h35 : mm_tl i_17 i_25 i_26) (h36 : mm_tl i_18 i_31 i_32) (h37 : mm_tl i_19 i_37 i_38) (h38 : mm_tl i_20 i_43 i_44)  : mm_CI l yX12_undo (mm_ws yX12_undo cX12_undo 1 (some .int)) ({ frames := 1, cells := 0, slots := 0, locals := 20 } : Room) G cy sz [(a_0, .inr (12, [.int i_0, .ref a_1, .ref a_2, .ref a_3, .ref a_4, .ref a_5, .int i_1, .int i_2, .int i_3, .int i_4, .int i_5, .long j_0, .int i_6, .int i_7, .int i_8, .int i_9, .ref a_6, .ref a_7, .ref a_8, .ref a_9, .ref a_10, .ref a_11, .ref a_12, .ref a_13, .ref a_14, .ref a_15, .ref a_16, .ref a_17, .ref a_18, .int i_10, .int i_11, .int i_12, .int i_13, .int i_14, .int i_15, .ref a_19, .int i_16, .ref a_20])), (a_6, .inl (cy 1, 5, .inl (mm_g [i_17, i_18, i_19, i_20, i_21]))), (a_7, .inl (cy 1, 30, .inl (mm_g [i_22, i_23, i_24, i_25, i_26, i_27, i_28, i_29, i_30, i_31, i_32, i_33, i_34, i_35, i_36, i_37, i_38, i_39, i_40, i_41, i_42, i_43, i_44, i_45, i_46, i_47, i_48, i_49, i_50, i_51])))] [.ref a_0] (fun u : Int32 => [(a_0, .inr (12, [.int 0, .ref a_1, .ref a_2, .ref a_3, .ref a_4, .ref a_5, .int i_1, .int i_2, .int i_3, .int i_4, .int i_5, .long j_0, .int i_6, .int i_7, .int i_8, .int i_9, .ref a_6, .ref a_7, .ref a_8, .ref a_9, .ref a_10, .ref a_11, .ref a_12, .ref a_13, .ref a_14, .ref a_15, .ref a_16, .ref a_17, .ref a_18, .int i_10, .int i_11, .int i_12, .int i_13, .int i_14, .int i_15, .ref a_19, .int i_16, .ref a_20])), (a_6, .inl (cy 1, 5, .inl (mm_g [i_17, i_18, i_19, i_20, i_21]))), (a_7, .inl (cy 1, 30, .inl (mm_g [i_22, i_23, i_24, i_25, i_26, u, i_28, i_29, i_30, i_31, i_32, i_33, i_34, i_35, i_36, i_37, i_38, i_39, i_40, i_41, i_42, i_43, i_44, i_45, i_46, i_47, i_48, i_49, i_50, i_51])))]) (fun (r : Int32) (u : Int32) => mm_rg u 0 30 ∧ (u : Int32).toInt ≤ (i_27 : Int32).toInt ∧ mm_rg r (-5) 29) 0 0 := by
  refine mm_begin (lv := [(0, .ref a_0)]) (by decide) (Nat.le_of_ble_eq_true rfl) rfl ?_
  intro p e s m below meth c A ls R args Q H locs hRe hQ hAe hx hb hr hlocks hml hown hnm hts hsz hA hS hP hK hD hZ hl
  have hRf : R.frames = 1 := by rw [hRe]
  have hRl : R.locals = 20 := by rw [hRe]
  have hRc : R.cells = 0 := by rw [hRe]
  have hRs : R.slots = 0 := by rw [hRe]
  refine lv_aload_n hx hb dX12_undo_0 rfl (lv_at hl 0 rfl) ?_
  refine lv_iconst (v := 0) hx hb dX12_undo_1 (by decide) ?_
  refine va_put (D := G) (ci := 12) (v := .int 0) (ty := tyX12 0) (C := RX12) (T := TX12) (N := 38) hx hb hts (mm_i inlX12) tyX12 tyX12_ok nmX12 hown hK.1 hP hD hS 0 rfl rfl 0 (by decide) (mm_h hts mm_w177) (fun _ h9 => h9) rfl (tyX12_ok 0 (by decide)) rfl rfl (Nat.le_of_ble_eq_true rfl) dX12_undo_2 ?_
  clear hP hD hS
  clear H locs
  intro H locs (hP : va_P G vwCl [(a_0, .inr (12, [.int 0, .ref a_1, .ref a_2, .ref a_3, .ref a_4, .ref a_5, .int i_1, .int i_2, .int i_3, .int i_4, .int i_5, .long j_0, .int i_6, .int i_7, .int i_8, .int i_9, .ref a_6, .ref a_7, .ref a_8, .ref a_9, .ref a_10, .ref a_11, .ref a_12, .ref a_13, .ref a_14, .ref a_15, .ref a_16, .ref a_17, .ref a_18, .int i_10, .int i_11, .int i_12, .int i_13, .int i_14, .int i_15, .ref a_19, .int i_16, .ref a_20])), (a_6, .inl (cy 1, 5, .inl (mm_g [i_17, i_18, i_19, i_20, i_21]))), (a_7, .inl (cy 1, 30, .inl (mm_g [i_22, i_23, i_24, i_25, i_26, i_27, i_28, i_29, i_30, i_31, i_32, i_33, i_34, i_35, i_36, i_37, i_38, i_39, i_40, i_41, i_42, i_43, i_44, i_45, i_46, i_47, i_48, i_49, i_50, i_51])))] H) (hD : va_D A [(a_0, .inr (12, [.int 0, .ref a_1, .ref a_2, .ref a_3, .ref a_4, .ref a_5, .int i_1, .int i_2, .int i_3, .int i_4, .int i_5, .long j_0, .int i_6, .int i_7, .int i_8, .int i_9, .ref a_6, .ref a_7, .ref a_8, .ref a_9, .ref a_10, .ref a_11, .ref a_12, .ref a_13, .ref a_14, .ref a_15, .ref a_16, .ref a_17, .ref a_18, .int i_10, .int i_11, .int i_12, .int i_13, .int i_14, .int i_15, .ref a_19, .int i_16, .ref a_20])), (a_6, .inl (cy 1, 5, .inl (mm_g [i_17, i_18, i_19, i_20, i_21]))), (a_7, .inl (cy 1, 30, .inl (mm_g [i_22, i_23, i_24, i_25, i_26, i_27, i_28, i_29, i_30, i_31, i_32, i_33, i_34, i_35, i_36, i_37, i_38, i_39, i_40, i_41, i_42, i_43, i_44, i_45, i_46, i_47, i_48, i_49, i_50, i_51])))]) hS
  refine lv_aload_n hx hb dX12_undo_5 rfl (lv_at hl 0 rfl) ?_
  refine mm_finir (va_runV (As := []) (rest := []) ⟨hx, hb, hml, hown, hts⟩ (M120_X12_isBook l G cy H.size a_0 0 a_1 a_2 a_3 a_4 a_5 i_1 i_2 i_3 i_4 i_5 j_0 i_6 i_7 i_8 i_9 a_6 a_7 a_8 a_9 a_10 a_11 a_12 a_13 a_14 a_15 a_16 a_17 a_18 i_10 i_11 i_12 i_13 i_14 i_15 a_19 i_16 a_20 i_17 i_18 i_19 i_20 i_21 h0 h1 h2 h3 h4) (cwV 0 hts (mm_gV mm_w653 mm_w654 mm_w655 mm_w5 mm_w656) rfl rfl rfl hd_X12_isBook ⟨by rw [hRf]; exact Nat.le_of_ble_eq_true rfl, by rw [hRl]; exact Nat.le_of_ble_eq_true rfl⟩) (mm_preV hK hZ hS hA hP hD [0, 1] rfl rfl 0 rfl rfl rfl) rfl rfl hl.1 rfl (lv_room (Nat.le_of_ble_eq_true rfl)) dX12_undo_6 ⟨by rw [hRc]; exact Nat.le_of_ble_eq_true rfl, by rw [hRs]; exact Nat.le_of_ble_eq_true rfl⟩) hP hD hS hA [0, 1] rfl (fun _ => rfl) ?_
  clear hP hD hS
  clear H locs
  intro v1 _u H locs hw hP hD hS
  rcases hw with rfl | rfl
  · refine lv_if_ne (tgt := 15) hx hb dX12_undo_9 (by decide) (fun c2 => ?_) (fun c2 => ?_)
    · exact absurd rfl (mm_ne c2)
    · refine lv_bipush (v := (-2)) hx hb dX12_undo_12 (by decide) ?_
      have w3 : (i_27 : Int32).toInt ≤ (i_27 : Int32).toInt := (Int.le_refl _)
      subst hAe
      rw [hQ]
      exact W.iret (v := (-2)) hx hb hr (fun t ht hW => ⟨⟨(-2), i_27, rfl, ⟨h10, w3, (mm_wk mm_km2 (by decide))⟩, by rw [ht]; exact hP, hK.warm hW, hD⟩, hS.F ht⟩) hS.2.2 dX12_undo_14
  · refine lv_if_ne (tgt := 15) hx hb dX12_undo_9 (by decide) (fun c4 => ?_) (fun c4 => ?_)
    · refine lv_aload_n hx hb dX12_undo_15 rfl (lv_at hl 0 rfl) ?_
      refine va_get (D := G) (ci := 12) (v := .ref a_7) (C := RX12) (T := TX12) (N := 38) hx hb hts (mm_i inlX12) hown hK.1 hP 0 rfl rfl 17 (by decide) (mm_h hts mm_w149) (fun _ h9 => h9) rfl dX12_undo_16 ?_
      refine lv_iconst (v := 5) hx hb dX12_undo_19 (by decide) ?_
      refine va_iald hx hb hK.1 hP 2 1 rfl rfl (mm_in mm_k5 (by decide)) dX12_undo_20 ?_
      rw [show (mm_g [i_22, i_23, i_24, i_25, i_26, i_27, i_28, i_29, i_30, i_31, i_32, i_33, i_34, i_35, i_36, i_37, i_38, i_39, i_40, i_41, i_42, i_43, i_44, i_45, i_46, i_47, i_48, i_49, i_50, i_51]) (5 : Int32).toNatClampNeg = i_27 from mm_ge 5 (by decide) rfl]
      refine lv_if_ne (tgt := 27) hx hb dX12_undo_21 (by decide) (fun c5 => ?_) (fun c5 => ?_)
      · have q6 := mm_neL (lo := 1) (mm_ne c5) h10 mm_k0 (by decide) (by decide)
        refine lv_aload_n hx hb dX12_undo_27 rfl (lv_at hl 0 rfl) ?_
        refine va_get (D := G) (ci := 12) (v := .ref a_7) (C := RX12) (T := TX12) (N := 38) hx hb hts (mm_i inlX12) hown hK.1 hP 0 rfl rfl 17 (by decide) (mm_h hts mm_w149) (fun _ h9 => h9) rfl dX12_undo_28 ?_
        refine lv_iconst (v := 5) hx hb dX12_undo_31 (by decide) ?_
        refine lv_dup2_11 hx hb dX12_undo_32 rfl rfl ?_
        refine va_iald hx hb hK.1 hP 2 1 rfl rfl (mm_in mm_k5 (by decide)) dX12_undo_33 ?_
        rw [show (mm_g [i_22, i_23, i_24, i_25, i_26, i_27, i_28, i_29, i_30, i_31, i_32, i_33, i_34, i_35, i_36, i_37, i_38, i_39, i_40, i_41, i_42, i_43, i_44, i_45, i_46, i_47, i_48, i_49, i_50, i_51]) (5 : Int32).toNatClampNeg = i_27 from mm_ge 5 (by decide) rfl]
        refine lv_iconst (v := 1) hx hb dX12_undo_34 (by decide) ?_
        refine lv_isub hx hb dX12_undo_35 ?_
        refine lv_topi (fun v7 ev7 => ?_)
        have rv7 : mm_rg v7 0 29 := mm_sub ev7 q6 mm_k1 (by decide) (by decide)
        have tv7 := mm_subEc ev7 q6 mm_k1 (by decide) (k := (-1)) (by decide)
        refine va_iast hx hb hK.1 hP hD hS 2 1 rfl rfl (mm_in mm_k5 (by decide)) dX12_undo_36 ?_
        clear hP hD hS
        clear H locs
        rw [show upd (mm_g [i_22, i_23, i_24, i_25, i_26, i_27, i_28, i_29, i_30, i_31, i_32, i_33, i_34, i_35, i_36, i_37, i_38, i_39, i_40, i_41, i_42, i_43, i_44, i_45, i_46, i_47, i_48, i_49, i_50, i_51]) (5 : Int32).toNatClampNeg v7 = (mm_g [i_22, i_23, i_24, i_25, i_26, v7, i_28, i_29, i_30, i_31, i_32, i_33, i_34, i_35, i_36, i_37, i_38, i_39, i_40, i_41, i_42, i_43, i_44, i_45, i_46, i_47, i_48, i_49, i_50, i_51]) from mm_gs2 5 30 (by decide) rfl rfl rfl]
        intro H locs (hP : va_P G vwCl [(a_0, .inr (12, [.int 0, .ref a_1, .ref a_2, .ref a_3, .ref a_4, .ref a_5, .int i_1, .int i_2, .int i_3, .int i_4, .int i_5, .long j_0, .int i_6, .int i_7, .int i_8, .int i_9, .ref a_6, .ref a_7, .ref a_8, .ref a_9, .ref a_10, .ref a_11, .ref a_12, .ref a_13, .ref a_14, .ref a_15, .ref a_16, .ref a_17, .ref a_18, .int i_10, .int i_11, .int i_12, .int i_13, .int i_14, .int i_15, .ref a_19, .int i_16, .ref a_20])), (a_6, .inl (cy 1, 5, .inl (mm_g [i_17, i_18, i_19, i_20, i_21]))), (a_7, .inl (cy 1, 30, .inl (mm_g [i_22, i_23, i_24, i_25, i_26, v7, i_28, i_29, i_30, i_31, i_32, i_33, i_34, i_35, i_36, i_37, i_38, i_39, i_40, i_41, i_42, i_43, i_44, i_45, i_46, i_47, i_48, i_49, i_50, i_51])))] H) (hD : va_D A [(a_0, .inr (12, [.int 0, .ref a_1, .ref a_2, .ref a_3, .ref a_4, .ref a_5, .int i_1, .int i_2, .int i_3, .int i_4, .int i_5, .long j_0, .int i_6, .int i_7, .int i_8, .int i_9, .ref a_6, .ref a_7, .ref a_8, .ref a_9, .ref a_10, .ref a_11, .ref a_12, .ref a_13, .ref a_14, .ref a_15, .ref a_16, .ref a_17, .ref a_18, .int i_10, .int i_11, .int i_12, .int i_13, .int i_14, .int i_15, .ref a_19, .int i_16, .ref a_20])), (a_6, .inl (cy 1, 5, .inl (mm_g [i_17, i_18, i_19, i_20, i_21]))), (a_7, .inl (cy 1, 30, .inl (mm_g [i_22, i_23, i_24, i_25, i_26, v7, i_28, i_29, i_30, i_31, i_32, i_33, i_34, i_35, i_36, i_37, i_38, i_39, i_40, i_41, i_42, i_43, i_44, i_45, i_46, i_47, i_48, i_49, i_50, i_51])))]) hS
        refine lv_aload_n hx hb dX12_undo_37 rfl (lv_at hl 0 rfl) ?_
        refine va_get (D := G) (ci := 12) (v := .ref a_7) (C := RX12) (T := TX12) (N := 38) hx hb hts (mm_i inlX12) hown hK.1 hP 0 rfl rfl 17 (by decide) (mm_h hts mm_w149) (fun _ h9 => h9) rfl dX12_undo_38 ?_
        refine lv_iconst (v := 5) hx hb dX12_undo_41 (by decide) ?_
        refine va_iald hx hb hK.1 hP 2 1 rfl rfl (mm_in mm_k5 (by decide)) dX12_undo_42 ?_
        rw [show (mm_g [i_22, i_23, i_24, i_25, i_26, v7, i_28, i_29, i_30, i_31, i_32, i_33, i_34, i_35, i_36, i_37, i_38, i_39, i_40, i_41, i_42, i_43, i_44, i_45, i_46, i_47, i_48, i_49, i_50, i_51]) (5 : Int32).toNatClampNeg = v7 from mm_ge 5 (by decide) rfl]
        have w8 : (v7 : Int32).toInt ≤ (i_27 : Int32).toInt := (by have := tv7; omega)
        subst hAe
        rw [hQ]
        exact W.iret (v := v7) hx hb hr (fun t ht hW => ⟨⟨v7, v7, rfl, ⟨(mm_wk rv7 (by decide)), w8, (mm_wk rv7 (by decide))⟩, by rw [ht]; exact hP, hK.warm hW, hD⟩, hS.F ht⟩) hS.2.2 dX12_undo_43
      · have q9 := mm_eqI (lo := 0) (hi := 0) c5 h10 mm_k0 (by decide)
        refine lv_bipush (v := (-5)) hx hb dX12_undo_24 (by decide) ?_
        have w10 : (i_27 : Int32).toInt ≤ (i_27 : Int32).toInt := (Int.le_refl _)
        subst hAe
        rw [hQ]
        exact W.iret (v := (-5)) hx hb hr (fun t ht hW => ⟨⟨(-5), i_27, rfl, ⟨(mm_wk q9 (by decide)), w10, (mm_wk mm_km5 (by decide))⟩, by rw [ht]; exact hP, hK.warm hW, hD⟩, hS.F ht⟩) hS.2.2 dX12_undo_26
    · exact mm_eqN c4.symm mm_k0 mm_k1 (by decide)

set_option maxHeartbeats 4000000 in
set_option maxRecDepth 100000 in
theorem M304_X12_anew (l : Launch) (G : va_G) (cy : Nat → ClassId) (sz : Nat) (a_0 : Nat) (i_0 : Int32) (a_1 : Nat) (a_2 : Nat) (a_3 : Nat) (a_4 : Nat) (a_5 : Nat) (i_1 : Int32) (i_2 : Int32) (i_3 : Int32) (i_4 : Int32) (i_5 : Int32) (j_0 : Int64) (i_6 : Int32) (i_7 : Int32) (i_8 : Int32) (i_9 : Int32) (a_6 : Nat) (a_7 : Nat) (a_8 : Nat) (a_9 : Nat) (a_10 : Nat) (a_11 : Nat) (a_12 : Nat) (a_13 : Nat) (a_14 : Nat) (a_15 : Nat) (a_16 : Nat) (a_17 : Nat) (a_18 : Nat) (i_10 : Int32) (i_11 : Int32) (i_12 : Int32) (i_13 : Int32) (i_14 : Int32) (i_15 : Int32) (a_19 : Nat) (i_16 : Int32) (a_20 : Nat) (i_17 : Int32) (i_18 : Int32) (i_19 : Int32) (i_20 : Int32) (i_21 : Int32) (i_22 : Int32) (i_23 : Int32) (i_24 : Int32) (i_25 : Int32) (i_26 : Int32) (i_27 : Int32) (i_28 : Int32) (i_29 : Int32) (i_30 : Int32) (i_31 : Int32) (i_32 : Int32) (i_33 : Int32) (i_34 : Int32) (i_35 : Int32) (i_36 : Int32) (i_37 : Int32) (i_38 : Int32) (i_39 : Int32) (i_40 : Int32) (i_41 : Int32) (i_42 : Int32) (i_43 : Int32) (i_44 : Int32) (i_45 : Int32) (i_46 : Int32) (i_47 : Int32) (i_48 : Int32) (i_49 : Int32) (i_50 : Int32) (i_51 : Int32) (h0 : mm_rg i_17 0 601) (h1 : mm_rg i_18 0 601) (h2 : mm_rg i_19 0 601) (h3 : mm_rg i_20 0 601) (h4 : mm_rg i_21 0 601) (h5 : mm_rg i_22 0 10) (h6 : mm_rg i_23 0 99) (h7 : mm_rg i_24 0 9) (h8 : mm_rg i_25 0 3) (h9 : mm_rg i_26 0 6) (h10 : mm_rg i_27 0 30) (h11 : mm_rg i_28 0 10) (h12 : mm_rg i_29 0 99) (h13 : mm_rg i_30 0 9) (h14 : mm_rg i_31 0 3) (h15 : mm_rg i_32 0 6) (h16 : mm_rg i_33 0 30) (h17 : mm_rg i_34 0 10) (h18 : mm_rg i_35 0 99) (h19 : mm_rg i_36 0 9) (h20 : mm_rg i_37 0 3) (h21 : mm_rg i_38 0 6) (h22 : mm_rg i_39 0 30) (h23 : mm_rg i_40 0 10) (h24 : mm_rg i_41 0 99) (h25 : mm_rg i_42 0 9) (h26 : mm_rg i_43 0 3) (h27 : mm_rg i_44 0 6) (h28 : mm_rg i_45 0 30) (h29 : mm_rg i_46 0 10) (h30 : mm_rg i_47 0 99) (h31 : mm_rg i_48 0 9) (h32 : mm_rg i_49 0 3) (h33 : mm_rg i_50 0 6) (h34 : mm_rg i_51 0 30) (h35 : mm_tl i_17 i_25 i_26) (h36 : mm_tl i_18 i_31 i_32) (h37 : mm_tl i_19 i_37 i_38) (h38 : mm_tl i_20 i_43 i_44)  : mm_CI l yX12_anew (mm_ws yX12_anew cX12_anew 2 (some .int)) ({ frames := 1, cells := 0, slots := 0, locals := 20 } : Room) G cy sz [(a_0, .inr (12, [.int i_0, .ref a_1, .ref a_2, .ref a_3, .ref a_4, .ref a_5, .int i_1, .int i_2, .int i_3, .int i_4, .int i_5, .long j_0, .int i_6, .int i_7, .int i_8, .int i_9, .ref a_6, .ref a_7, .ref a_8, .ref a_9, .ref a_10, .ref a_11, .ref a_12, .ref a_13, .ref a_14, .ref a_15, .ref a_16, .ref a_17, .ref a_18, .int i_10, .int i_11, .int i_12, .int i_13, .int i_14, .int i_15, .ref a_19, .int i_16, .ref a_20])), (a_6, .inl (cy 1, 5, .inl (mm_g [i_17, i_18, i_19, i_20, i_21]))), (a_7, .inl (cy 1, 30, .inl (mm_g [i_22, i_23, i_24, i_25, i_26, i_27, i_28, i_29, i_30, i_31, i_32, i_33, i_34, i_35, i_36, i_37, i_38, i_39, i_40, i_41, i_42, i_43, i_44, i_45, i_46, i_47, i_48, i_49, i_50, i_51])))] [.ref a_0] (fun u : Int32 => [(a_0, .inr (12, [.int 0, .ref a_1, .ref a_2, .ref a_3, .ref a_4, .ref a_5, .int i_1, .int i_2, .int i_3, .int i_4, .int i_5, .long j_0, .int i_6, .int i_7, .int i_8, .int i_9, .ref a_6, .ref a_7, .ref a_8, .ref a_9, .ref a_10, .ref a_11, .ref a_12, .ref a_13, .ref a_14, .ref a_15, .ref a_16, .ref a_17, .ref a_18, .int i_10, .int i_11, .int i_12, .int i_13, .int i_14, .int i_15, .ref a_19, .int i_16, .ref a_20])), (a_6, .inl (cy 1, 5, .inl (mm_g [i_17, i_18, i_19, i_20, i_21]))), (a_7, .inl (cy 1, 30, .inl (mm_g [i_22, i_23, i_24, i_25, i_26, u, i_28, i_29, i_30, i_31, i_32, i_33, i_34, i_35, i_36, i_37, i_38, i_39, i_40, i_41, i_42, i_43, i_44, i_45, i_46, i_47, i_48, i_49, i_50, i_51])))]) (fun (r : Int32) (u : Int32) => mm_rg u 0 30 ∧ (u : Int32).toInt ≤ (i_27 : Int32).toInt ∧ mm_rg r (-2) 30) 0 0 := by
  refine mm_begin (lv := [(0, .ref a_0)]) (by decide) (Nat.le_of_ble_eq_true rfl) rfl ?_
  intro p e s m below meth c A ls R args Q H locs hRe hQ hAe hx hb hr hlocks hml hown hnm hts hsz hA hS hP hK hD hZ hl
  have hRf : R.frames = 1 := by rw [hRe]
  have hRl : R.locals = 20 := by rw [hRe]
  have hRc : R.cells = 0 := by rw [hRe]
  have hRs : R.slots = 0 := by rw [hRe]
  refine lv_aload_n hx hb dX12_anew_0 rfl (lv_at hl 0 rfl) ?_
  refine lv_iconst (v := 0) hx hb dX12_anew_1 (by decide) ?_
  refine va_put (D := G) (ci := 12) (v := .int 0) (ty := tyX12 0) (C := RX12) (T := TX12) (N := 38) hx hb hts (mm_i inlX12) tyX12 tyX12_ok nmX12 hown hK.1 hP hD hS 0 rfl rfl 0 (by decide) (mm_h hts mm_w177) (fun _ h9 => h9) rfl (tyX12_ok 0 (by decide)) rfl rfl (Nat.le_of_ble_eq_true rfl) dX12_anew_2 ?_
  clear hP hD hS
  clear H locs
  intro H locs (hP : va_P G vwCl [(a_0, .inr (12, [.int 0, .ref a_1, .ref a_2, .ref a_3, .ref a_4, .ref a_5, .int i_1, .int i_2, .int i_3, .int i_4, .int i_5, .long j_0, .int i_6, .int i_7, .int i_8, .int i_9, .ref a_6, .ref a_7, .ref a_8, .ref a_9, .ref a_10, .ref a_11, .ref a_12, .ref a_13, .ref a_14, .ref a_15, .ref a_16, .ref a_17, .ref a_18, .int i_10, .int i_11, .int i_12, .int i_13, .int i_14, .int i_15, .ref a_19, .int i_16, .ref a_20])), (a_6, .inl (cy 1, 5, .inl (mm_g [i_17, i_18, i_19, i_20, i_21]))), (a_7, .inl (cy 1, 30, .inl (mm_g [i_22, i_23, i_24, i_25, i_26, i_27, i_28, i_29, i_30, i_31, i_32, i_33, i_34, i_35, i_36, i_37, i_38, i_39, i_40, i_41, i_42, i_43, i_44, i_45, i_46, i_47, i_48, i_49, i_50, i_51])))] H) (hD : va_D A [(a_0, .inr (12, [.int 0, .ref a_1, .ref a_2, .ref a_3, .ref a_4, .ref a_5, .int i_1, .int i_2, .int i_3, .int i_4, .int i_5, .long j_0, .int i_6, .int i_7, .int i_8, .int i_9, .ref a_6, .ref a_7, .ref a_8, .ref a_9, .ref a_10, .ref a_11, .ref a_12, .ref a_13, .ref a_14, .ref a_15, .ref a_16, .ref a_17, .ref a_18, .int i_10, .int i_11, .int i_12, .int i_13, .int i_14, .int i_15, .ref a_19, .int i_16, .ref a_20])), (a_6, .inl (cy 1, 5, .inl (mm_g [i_17, i_18, i_19, i_20, i_21]))), (a_7, .inl (cy 1, 30, .inl (mm_g [i_22, i_23, i_24, i_25, i_26, i_27, i_28, i_29, i_30, i_31, i_32, i_33, i_34, i_35, i_36, i_37, i_38, i_39, i_40, i_41, i_42, i_43, i_44, i_45, i_46, i_47, i_48, i_49, i_50, i_51])))]) hS
  refine lv_aload_n hx hb dX12_anew_5 rfl (lv_at hl 0 rfl) ?_
  refine mm_finir (va_runV (As := []) (rest := []) ⟨hx, hb, hml, hown, hts⟩ (M120_X12_isBook l G cy H.size a_0 0 a_1 a_2 a_3 a_4 a_5 i_1 i_2 i_3 i_4 i_5 j_0 i_6 i_7 i_8 i_9 a_6 a_7 a_8 a_9 a_10 a_11 a_12 a_13 a_14 a_15 a_16 a_17 a_18 i_10 i_11 i_12 i_13 i_14 i_15 a_19 i_16 a_20 i_17 i_18 i_19 i_20 i_21 h0 h1 h2 h3 h4) (cwV 0 hts (mm_gV mm_w653 mm_w654 mm_w655 mm_w5 mm_w656) rfl rfl rfl hd_X12_isBook ⟨by rw [hRf]; exact Nat.le_of_ble_eq_true rfl, by rw [hRl]; exact Nat.le_of_ble_eq_true rfl⟩) (mm_preV hK hZ hS hA hP hD [0, 1] rfl rfl 0 rfl rfl rfl) rfl rfl hl.1 rfl (lv_room (Nat.le_of_ble_eq_true rfl)) dX12_anew_6 ⟨by rw [hRc]; exact Nat.le_of_ble_eq_true rfl, by rw [hRs]; exact Nat.le_of_ble_eq_true rfl⟩) hP hD hS hA [0, 1] rfl (fun _ => rfl) ?_
  clear hP hD hS
  clear H locs
  intro v1 _u H locs hw hP hD hS
  rcases hw with rfl | rfl
  · refine lv_if_ne (tgt := 15) hx hb dX12_anew_9 (by decide) (fun c2 => ?_) (fun c2 => ?_)
    · exact absurd rfl (mm_ne c2)
    · refine lv_bipush (v := (-2)) hx hb dX12_anew_12 (by decide) ?_
      have w3 : (i_27 : Int32).toInt ≤ (i_27 : Int32).toInt := (Int.le_refl _)
      subst hAe
      rw [hQ]
      exact W.iret (v := (-2)) hx hb hr (fun t ht hW => ⟨⟨(-2), i_27, rfl, ⟨h10, w3, (mm_wk mm_km2 (by decide))⟩, by rw [ht]; exact hP, hK.warm hW, hD⟩, hS.F ht⟩) hS.2.2 dX12_anew_14
  · refine lv_if_ne (tgt := 15) hx hb dX12_anew_9 (by decide) (fun c4 => ?_) (fun c4 => ?_)
    · refine lv_aload_n hx hb dX12_anew_15 rfl (lv_at hl 0 rfl) ?_
      refine va_get (D := G) (ci := 12) (v := .ref a_7) (C := RX12) (T := TX12) (N := 38) hx hb hts (mm_i inlX12) hown hK.1 hP 0 rfl rfl 17 (by decide) (mm_h hts mm_w149) (fun _ h9 => h9) rfl dX12_anew_16 ?_
      refine lv_iconst (v := 5) hx hb dX12_anew_19 (by decide) ?_
      refine va_iald hx hb hK.1 hP 2 1 rfl rfl (mm_in mm_k5 (by decide)) dX12_anew_20 ?_
      rw [show (mm_g [i_22, i_23, i_24, i_25, i_26, i_27, i_28, i_29, i_30, i_31, i_32, i_33, i_34, i_35, i_36, i_37, i_38, i_39, i_40, i_41, i_42, i_43, i_44, i_45, i_46, i_47, i_48, i_49, i_50, i_51]) (5 : Int32).toNatClampNeg = i_27 from mm_ge 5 (by decide) rfl]
      refine lv_istore_n (lv' := [(1, .int i_27), (0, .ref a_0)]) hx hb dX12_anew_21 rfl hl (by decide) rfl ?_
      clear hl
      clear ls
      intro ls hl
      refine lv_aload_n hx hb dX12_anew_22 rfl (lv_at hl 1 rfl) ?_
      refine va_get (D := G) (ci := 12) (v := .ref a_7) (C := RX12) (T := TX12) (N := 38) hx hb hts (mm_i inlX12) hown hK.1 hP 0 rfl rfl 17 (by decide) (mm_h hts mm_w149) (fun _ h9 => h9) rfl dX12_anew_23 ?_
      refine lv_iconst (v := 5) hx hb dX12_anew_26 (by decide) ?_
      refine lv_iconst (v := 0) hx hb dX12_anew_27 (by decide) ?_
      refine va_iast hx hb hK.1 hP hD hS 2 1 rfl rfl (mm_in mm_k5 (by decide)) dX12_anew_28 ?_
      clear hP hD hS
      clear H locs
      rw [show upd (mm_g [i_22, i_23, i_24, i_25, i_26, i_27, i_28, i_29, i_30, i_31, i_32, i_33, i_34, i_35, i_36, i_37, i_38, i_39, i_40, i_41, i_42, i_43, i_44, i_45, i_46, i_47, i_48, i_49, i_50, i_51]) (5 : Int32).toNatClampNeg 0 = (mm_g [i_22, i_23, i_24, i_25, i_26, 0, i_28, i_29, i_30, i_31, i_32, i_33, i_34, i_35, i_36, i_37, i_38, i_39, i_40, i_41, i_42, i_43, i_44, i_45, i_46, i_47, i_48, i_49, i_50, i_51]) from mm_gs2 5 30 (by decide) rfl rfl rfl]
      intro H locs (hP : va_P G vwCl [(a_0, .inr (12, [.int 0, .ref a_1, .ref a_2, .ref a_3, .ref a_4, .ref a_5, .int i_1, .int i_2, .int i_3, .int i_4, .int i_5, .long j_0, .int i_6, .int i_7, .int i_8, .int i_9, .ref a_6, .ref a_7, .ref a_8, .ref a_9, .ref a_10, .ref a_11, .ref a_12, .ref a_13, .ref a_14, .ref a_15, .ref a_16, .ref a_17, .ref a_18, .int i_10, .int i_11, .int i_12, .int i_13, .int i_14, .int i_15, .ref a_19, .int i_16, .ref a_20])), (a_6, .inl (cy 1, 5, .inl (mm_g [i_17, i_18, i_19, i_20, i_21]))), (a_7, .inl (cy 1, 30, .inl (mm_g [i_22, i_23, i_24, i_25, i_26, 0, i_28, i_29, i_30, i_31, i_32, i_33, i_34, i_35, i_36, i_37, i_38, i_39, i_40, i_41, i_42, i_43, i_44, i_45, i_46, i_47, i_48, i_49, i_50, i_51])))] H) (hD : va_D A [(a_0, .inr (12, [.int 0, .ref a_1, .ref a_2, .ref a_3, .ref a_4, .ref a_5, .int i_1, .int i_2, .int i_3, .int i_4, .int i_5, .long j_0, .int i_6, .int i_7, .int i_8, .int i_9, .ref a_6, .ref a_7, .ref a_8, .ref a_9, .ref a_10, .ref a_11, .ref a_12, .ref a_13, .ref a_14, .ref a_15, .ref a_16, .ref a_17, .ref a_18, .int i_10, .int i_11, .int i_12, .int i_13, .int i_14, .int i_15, .ref a_19, .int i_16, .ref a_20])), (a_6, .inl (cy 1, 5, .inl (mm_g [i_17, i_18, i_19, i_20, i_21]))), (a_7, .inl (cy 1, 30, .inl (mm_g [i_22, i_23, i_24, i_25, i_26, 0, i_28, i_29, i_30, i_31, i_32, i_33, i_34, i_35, i_36, i_37, i_38, i_39, i_40, i_41, i_42, i_43, i_44, i_45, i_46, i_47, i_48, i_49, i_50, i_51])))]) hS
      refine lv_iload_n hx hb dX12_anew_29 rfl (lv_at hl 0 rfl) ?_
      have w5 : (0 : Int32).toInt ≤ (i_27 : Int32).toInt := (mm_leC mm_k0 h10 (by decide))
      subst hAe
      rw [hQ]
      exact W.iret (v := i_27) hx hb hr (fun t ht hW => ⟨⟨i_27, 0, rfl, ⟨(mm_wk mm_k0 (by decide)), w5, (mm_wk h10 (by decide))⟩, by rw [ht]; exact hP, hK.warm hW, hD⟩, hS.F ht⟩) hS.2.2 dX12_anew_30
    · exact mm_eqN c4.symm mm_k0 mm_k1 (by decide)

set_option maxHeartbeats 4000000 in
set_option maxRecDepth 100000 in
theorem M305_X12_isSeed (l : Launch) (G : va_G) (cy : Nat → ClassId) (sz : Nat) (i_0 : Int32)   : mm_CI l yX12_isSeed (mm_ws yX12_isSeed cX12_isSeed 1 (some .boolean)) ({ frames := 1, cells := 0, slots := 0, locals := 25 } : Room) G cy sz [] [.int i_0] (fun u : Unit => []) (fun (r : Int32) (u : Unit) => ((0 = r) ∨ (1 = r ∧ mm_rg i_0 0 2000000000))) 0 0 := by
  refine mm_begin (lv := [(0, .int i_0)]) (by decide) (Nat.le_of_ble_eq_true rfl) rfl ?_
  intro p e s m below meth c A ls R args Q H locs hRe hQ hAe hx hb hr hlocks hml hown hnm hts hsz hA hS hP hK hD hZ hl
  have hRf : R.frames = 1 := by rw [hRe]
  have hRl : R.locals = 25 := by rw [hRe]
  have hRc : R.cells = 0 := by rw [hRe]
  have hRs : R.slots = 0 := by rw [hRe]
  refine lv_iload_n hx hb dX12_isSeed_0 rfl (lv_at hl 0 rfl) ?_
  obtain ⟨v1, ev1⟩ : ∃ y : Int64, y = i_0.toInt64 := ⟨_, rfl⟩
  refine lv_i2l hx hb dX12_isSeed_1 ev1.symm ?_
  have rv1 : mm_rl v1 (-2147483648) 2147483647 := mm_i2l ev1 (mm_top i_0)
  refine lv_lconst (v := 0) hx hb dX12_isSeed_2 (by decide) ?_
  refine lv_ldc2 (v := 2000000000) hx hb hown (mm_h hts mm_w1611) dX12_isSeed_3 ?_
  refine mm_finir (va_runS (As := [.long v1, .long 0, .long 2000000000]) (rest := []) ⟨hx, hb, hml, hown, hts⟩ (M7_X12_in l G cy H.size v1 2000000000 ) (va_cwS 3 hts (mm_gS mm_w191 mm_w192 mm_w5 mm_w193) rfl rfl rfl hs_X12_in ⟨by rw [hRf]; exact Nat.le_of_ble_eq_true rfl, by rw [hRl]; exact Nat.le_of_ble_eq_true rfl⟩) (mm_preS hK hZ hS hA hP hD [] rfl rfl) rfl rfl hl.1 rfl (lv_room (Nat.le_of_ble_eq_true rfl)) dX12_isSeed_6 ⟨by rw [hRc]; exact Nat.le_of_ble_eq_true rfl, by rw [hRs]; exact Nat.le_of_ble_eq_true rfl⟩) hP hD hS hA [] rfl (fun _ => rfl) ?_
  clear hP hD hS
  clear H locs
  intro v2 _u H locs hw hP hD hS
  rcases hw with ⟨rfl, w3⟩ | ⟨rfl, w4, w5, w6, w7⟩
  · subst hAe
    rw [hQ]
    exact W.zret (v := 0) hx hb hr rfl (fun t ht hW => ⟨⟨0, (), rfl, (Or.inl rfl), by rw [ht]; exact hP, hK.warm hW, hD⟩, hS.F ht⟩) hS.2.2 dX12_isSeed_9
  · have q8 := mm_meetl (lo := 0) (hi := 2147483647) w4 rv1 (by decide)
    have q9 := mm_meet (lo := 0) (hi := 2147483647) (mm_l2x ev1 q8) (mm_top i_0) (by decide)
    have q10 := mm_leLl w6 q8 mm_kl2000000000
    have q11 := mm_meet (lo := 0) (hi := 2000000000) (mm_l2x ev1 q10) q9 (by decide)
    subst hAe
    rw [hQ]
    exact W.zret (v := 1) hx hb hr rfl (fun t ht hW => ⟨⟨1, (), rfl, (Or.inr ⟨rfl, q11⟩), by rw [ht]; exact hP, hK.warm hW, hD⟩, hS.F ht⟩) hS.2.2 dX12_isSeed_9

set_option maxHeartbeats 4000000 in
set_option maxRecDepth 100000 in
theorem M306_X12_drawnOf (l : Launch) (G : va_G) (cy : Nat → ClassId) (sz : Nat) (a_0 : Nat) (j_0 : Int64) (i_0 : Int32) (i_1 : Int32) (a_1 : Nat) (a_2 : Nat) (a_3 : Nat) (a_4 : Nat) (a_5 : Nat) (i_2 : Int32) (i_3 : Int32) (i_4 : Int32) (i_5 : Int32) (i_6 : Int32) (j_1 : Int64) (i_7 : Int32) (i_8 : Int32) (i_9 : Int32) (i_10 : Int32) (a_6 : Nat) (a_7 : Nat) (a_8 : Nat) (a_9 : Nat) (a_10 : Nat) (a_11 : Nat) (a_12 : Nat) (a_13 : Nat) (a_14 : Nat) (a_15 : Nat) (a_16 : Nat) (a_17 : Nat) (a_18 : Nat) (i_11 : Int32) (i_12 : Int32) (i_13 : Int32) (i_14 : Int32) (i_15 : Int32) (i_16 : Int32) (a_19 : Nat) (i_17 : Int32) (a_20 : Nat) (i_18 : Int32) (i_19 : Int32) (i_20 : Int32) (i_21 : Int32) (i_22 : Int32) (i_23 : Int32) (i_24 : Int32) (i_25 : Int32) (i_26 : Int32) (i_27 : Int32) (i_28 : Int32) (i_29 : Int32) (i_30 : Int32) (i_31 : Int32) (i_32 : Int32) (i_33 : Int32) (i_34 : Int32) (i_35 : Int32) (i_36 : Int32) (i_37 : Int32) (i_38 : Int32) (i_39 : Int32) (i_40 : Int32) (i_41 : Int32) (i_42 : Int32) (i_43 : Int32) (i_44 : Int32) (i_45 : Int32) (i_46 : Int32) (i_47 : Int32) (h0 : mm_rl j_0 0 2000000000) (h1 : mm_rg i_0 0 7) (h2 : mm_rg i_18 0 10) (h3 : mm_rg i_19 0 99) (h4 : mm_rg i_20 0 9) (h5 : mm_rg i_21 0 3) (h6 : mm_rg i_22 0 6) (h7 : mm_rg i_23 0 30) (h8 : mm_rg i_24 0 10) (h9 : mm_rg i_25 0 99) (h10 : mm_rg i_26 0 9) (h11 : mm_rg i_27 0 3) (h12 : mm_rg i_28 0 6) (h13 : mm_rg i_29 0 30) (h14 : mm_rg i_30 0 10) (h15 : mm_rg i_31 0 99) (h16 : mm_rg i_32 0 9) (h17 : mm_rg i_33 0 3) (h18 : mm_rg i_34 0 6) (h19 : mm_rg i_35 0 30) (h20 : mm_rg i_36 0 10) (h21 : mm_rg i_37 0 99) (h22 : mm_rg i_38 0 9) (h23 : mm_rg i_39 0 3) (h24 : mm_rg i_40 0 6) (h25 : mm_rg i_41 0 30) (h26 : mm_rg i_42 0 10) (h27 : mm_rg i_43 0 99) (h28 : mm_rg i_44 0 9) (h29 : mm_rg i_45 0 3) (h30 : mm_rg i_46 0 6) (h31 : mm_rg i_47 0 30)  : mm_CI l yX12_drawnOf (mm_ws yX12_drawnOf cX12_drawnOf 8 (some .int)) ({ frames := 0, cells := 0, slots := 0, locals := 0 } : Room) G cy sz [(a_0, .inr (12, [.int i_1, .ref a_1, .ref a_2, .ref a_3, .ref a_4, .ref a_5, .int i_2, .int i_3, .int i_4, .int i_5, .int i_6, .long j_1, .int i_7, .int i_8, .int i_9, .int i_10, .ref a_6, .ref a_7, .ref a_8, .ref a_9, .ref a_10, .ref a_11, .ref a_12, .ref a_13, .ref a_14, .ref a_15, .ref a_16, .ref a_17, .ref a_18, .int i_11, .int i_12, .int i_13, .int i_14, .int i_15, .int i_16, .ref a_19, .int i_17, .ref a_20])), (a_7, .inl (cy 1, 30, .inl (mm_g [i_18, i_19, i_20, i_21, i_22, i_23, i_24, i_25, i_26, i_27, i_28, i_29, i_30, i_31, i_32, i_33, i_34, i_35, i_36, i_37, i_38, i_39, i_40, i_41, i_42, i_43, i_44, i_45, i_46, i_47])))] [.ref a_0, .long j_0, .int i_0] (fun u : Unit => [(a_0, .inr (12, [.int i_1, .ref a_1, .ref a_2, .ref a_3, .ref a_4, .ref a_5, .int i_2, .int i_3, .int i_4, .int i_5, .int i_6, .long j_1, .int i_7, .int i_8, .int i_9, .int i_10, .ref a_6, .ref a_7, .ref a_8, .ref a_9, .ref a_10, .ref a_11, .ref a_12, .ref a_13, .ref a_14, .ref a_15, .ref a_16, .ref a_17, .ref a_18, .int i_11, .int i_12, .int i_13, .int i_14, .int i_15, .int i_16, .ref a_19, .int i_17, .ref a_20])), (a_7, .inl (cy 1, 30, .inl (mm_g [i_18, i_19, i_20, i_21, i_22, i_23, i_24, i_25, i_26, i_27, i_28, i_29, i_30, i_31, i_32, i_33, i_34, i_35, i_36, i_37, i_38, i_39, i_40, i_41, i_42, i_43, i_44, i_45, i_46, i_47])))]) (fun (r : Int32) (u : Unit) => mm_rg r 0 7) 0 0 := by
  refine mm_begin (lv := [(0, .ref a_0), (1, .long j_0), (3, .int i_0)]) (by decide) (Nat.le_of_ble_eq_true rfl) rfl ?_
  intro p e s m below meth c A ls R args Q H locs hRe hQ hAe hx hb hr hlocks hml hown hnm hts hsz hA hS hP hK hD hZ hl
  have hRf : R.frames = 0 := by rw [hRe]
  have hRl : R.locals = 0 := by rw [hRe]
  have hRc : R.cells = 0 := by rw [hRe]
  have hRs : R.slots = 0 := by rw [hRe]
  refine lv_lload_n hx hb dX12_drawnOf_0 rfl (lv_at hl 1 rfl) ?_
  refine lv_lstore (lv' := [(4, .long j_0), (0, .ref a_0), (1, .long j_0), (3, .int i_0)]) hx hb dX12_drawnOf_1 hl (by decide) rfl ?_
  clear hl
  clear ls
  intro ls hl
  refine lv_iconst (v := 0) hx hb dX12_drawnOf_3 (by decide) ?_
  refine lv_istore (lv' := [(6, .int 0), (4, .long j_0), (0, .ref a_0), (1, .long j_0), (3, .int i_0)]) hx hb dX12_drawnOf_4 hl (by decide) rfl ?_
  clear hl
  clear ls
  intro ls hl
  refine lv_iconst (v := 0) hx hb dX12_drawnOf_6 (by decide) ?_
  refine lv_istore (lv' := [(7, .int 0), (6, .int 0), (4, .long j_0), (0, .ref a_0), (1, .long j_0), (3, .int i_0)]) hx hb dX12_drawnOf_7 hl (by decide) rfl ?_
  clear hl
  clear ls
  intro ls hl
  have L9_174 : ∀ (n : Nat) (x9_7_171 : Int32) (x9_6_172 : Int32) (x9_4_173 : Int64), mm_rg x9_7_171 0 7 → mm_rg x9_6_172 0 7 → mm_rl x9_4_173 0 2147483647 → (x9_6_172 : Int32).toInt ≤ (x9_7_171 : Int32).toInt → (7 - x9_7_171.toInt).toNat < n → ∀ (H : Heap) (locs : List Loc), va_P G vwCl [(a_0, .inr (12, [.int i_1, .ref a_1, .ref a_2, .ref a_3, .ref a_4, .ref a_5, .int i_2, .int i_3, .int i_4, .int i_5, .int i_6, .long j_1, .int i_7, .int i_8, .int i_9, .int i_10, .ref a_6, .ref a_7, .ref a_8, .ref a_9, .ref a_10, .ref a_11, .ref a_12, .ref a_13, .ref a_14, .ref a_15, .ref a_16, .ref a_17, .ref a_18, .int i_11, .int i_12, .int i_13, .int i_14, .int i_15, .int i_16, .ref a_19, .int i_17, .ref a_20])), (a_7, .inl (cy 1, 30, .inl (mm_g [i_18, i_19, i_20, i_21, i_22, i_23, i_24, i_25, i_26, i_27, i_28, i_29, i_30, i_31, i_32, i_33, i_34, i_35, i_36, i_37, i_38, i_39, i_40, i_41, i_42, i_43, i_44, i_45, i_46, i_47])))] H → va_D A [(a_0, .inr (12, [.int i_1, .ref a_1, .ref a_2, .ref a_3, .ref a_4, .ref a_5, .int i_2, .int i_3, .int i_4, .int i_5, .int i_6, .long j_1, .int i_7, .int i_8, .int i_9, .int i_10, .ref a_6, .ref a_7, .ref a_8, .ref a_9, .ref a_10, .ref a_11, .ref a_12, .ref a_13, .ref a_14, .ref a_15, .ref a_16, .ref a_17, .ref a_18, .int i_11, .int i_12, .int i_13, .int i_14, .int i_15, .int i_16, .ref a_19, .int i_17, .ref a_20])), (a_7, .inl (cy 1, 30, .inl (mm_g [i_18, i_19, i_20, i_21, i_22, i_23, i_24, i_25, i_26, i_27, i_28, i_29, i_30, i_31, i_32, i_33, i_34, i_35, i_36, i_37, i_38, i_39, i_40, i_41, i_42, i_43, i_44, i_45, i_46, i_47])))] → va_S A s.heap H locs → ∀ (ls : Array Slot), lv_has ls 8 [(7, .int x9_7_171), (6, .int x9_6_172), (4, .long x9_4_173), (0, .ref a_0), (1, .long j_0), (3, .int i_0)] → W p l e R s m args below meth c H locs 0 0 Q (F0 m 9 ls []) := by
    intro n
    induction n with
    | zero => intro x9_7_171 x9_6_172 x9_4_173 rx9_7_171 rx9_6_172 rx9_4_173 w174 hm; exact absurd hm (Nat.not_lt_zero _)
    | succ n ih9 =>
      intro x9_7_171 x9_6_172 x9_4_173 rx9_7_171 rx9_6_172 rx9_4_173 w174 hm9 H locs hP hD hS ls hl
      refine lv_iload hx hb dX12_drawnOf_9 (lv_at hl 0 rfl) ?_
      refine lv_iload_n hx hb dX12_drawnOf_11 rfl (lv_at hl 5 rfl) ?_
      refine lv_icmp_ge (tgt := 68) hx hb dX12_drawnOf_12 (by decide) (fun c176 => ?_) (fun c176 => ?_)
      · refine lv_iload hx hb dX12_drawnOf_68 (lv_at hl 1 rfl) ?_
        subst hAe
        rw [hQ]
        exact W.iret (v := x9_6_172) hx hb hr (fun t ht hW => ⟨⟨x9_6_172, (), rfl, rx9_6_172, by rw [ht]; exact hP, hK.warm hW, hD⟩, hS.F ht⟩) hS.2.2 dX12_drawnOf_70
      · have q177 := mm_ltL (h := 6) (mm_nle c176) rx9_7_171 h1 (by decide)
        have q178 := mm_ltR (lo := 1) (mm_nle c176) rx9_7_171 h1 (by decide)
        have q179 := mm_leL w174 rx9_6_172 q177
        refine lv_ldc2 (v := 1103515245) hx hb hown (mm_h hts mm_w1616) dX12_drawnOf_15 ?_
        refine lv_lload hx hb dX12_drawnOf_18 (lv_at hl 2 rfl) ?_
        refine lv_lmul hx hb dX12_drawnOf_20 ?_
        refine lv_topl (fun v180 ev180 => ?_)
        have rv180 : mm_rl v180 0 2369780942852698515 := mm_mull ev180 mm_kl1103515245 rx9_4_173 (by decide) (by decide)
        refine lv_ldc2 (v := 12345) hx hb hown (mm_h hts mm_w1617) dX12_drawnOf_21 ?_
        refine lv_ladd hx hb dX12_drawnOf_24 ?_
        refine lv_topl (fun v181 ev181 => ?_)
        have rv181 : mm_rl v181 12345 2369780942852710860 := mm_addl ev181 rv180 mm_kl12345 (by decide) (by decide)
        have tv181 := mm_addlEc ev181 rv180 mm_kl12345 (by decide) (k := 12345) (by decide)
        refine lv_ldc2 (v := 2147483648) hx hb hown (mm_h hts mm_w1618) dX12_drawnOf_25 ?_
        refine lv_lrem hx hb dX12_drawnOf_28 (mm_nzl mm_kl2147483648 (by decide)) ?_
        refine lv_topl (fun v182 ev182 => ?_)
        have rv182 : mm_rl v182 0 2147483647 := mm_reml ev182 rv181 mm_kl2147483648 (by decide) (by decide)
        refine lv_lstore (lv' := [(4, .long v182), (7, .int x9_7_171), (6, .int x9_6_172), (0, .ref a_0), (1, .long j_0), (3, .int i_0)]) hx hb dX12_drawnOf_29 hl (by decide) rfl ?_
        clear hl
        clear ls
        intro ls hl
        refine lv_iload hx hb dX12_drawnOf_31 (lv_at hl 2 rfl) ?_
        refine lv_lload hx hb dX12_drawnOf_33 (lv_at hl 0 rfl) ?_
        refine lv_ldc2 (v := 65536) hx hb hown (mm_h hts mm_w1619) dX12_drawnOf_35 ?_
        refine lv_ldiv hx hb dX12_drawnOf_38 (mm_nzl mm_kl65536 (by decide)) ?_
        refine lv_topl (fun v183 ev183 => ?_)
        have rv183 : mm_rl v183 0 2147483647 := mm_divl ev183 rv182 mm_kl65536 (by decide) (by decide)
        refine lv_ldc2 (v := 10) hx hb hown (mm_h hts mm_w1511) dX12_drawnOf_39 ?_
        refine lv_lrem hx hb dX12_drawnOf_42 (mm_nzl mm_kl10 (by decide)) ?_
        refine lv_topl (fun v184 ev184 => ?_)
        have rv184 : mm_rl v184 0 9 := mm_reml ev184 rv183 mm_kl10 (by decide) (by decide)
        refine lv_aload_n hx hb dX12_drawnOf_43 rfl (lv_at hl 3 rfl) ?_
        refine va_get (D := G) (ci := 12) (v := .ref a_7) (C := RX12) (T := TX12) (N := 38) hx hb hts (mm_i inlX12) hown hK.1 hP 0 rfl rfl 17 (by decide) (mm_h hts mm_w149) (fun _ h9 => h9) rfl dX12_drawnOf_44 ?_
        refine lv_iconst (v := 0) hx hb dX12_drawnOf_47 (by decide) ?_
        refine va_iald hx hb hK.1 hP 1 1 rfl rfl (mm_in mm_k0 (by decide)) dX12_drawnOf_48 ?_
        rw [show (mm_g [i_18, i_19, i_20, i_21, i_22, i_23, i_24, i_25, i_26, i_27, i_28, i_29, i_30, i_31, i_32, i_33, i_34, i_35, i_36, i_37, i_38, i_39, i_40, i_41, i_42, i_43, i_44, i_45, i_46, i_47]) (0 : Int32).toNatClampNeg = i_18 from mm_ge 0 (by decide) rfl]
        obtain ⟨v185, ev185⟩ : ∃ y : Int64, y = i_18.toInt64 := ⟨_, rfl⟩
        refine lv_i2l hx hb dX12_drawnOf_49 ev185.symm ?_
        have rv185 : mm_rl v185 0 10 := mm_i2l ev185 h2
        refine W.lcmp hx hb dX12_drawnOf_50 ?_
        refine lv_topi (fun v186 ev186 => ?_)
        refine lv_if_ge (tgt := 58) hx hb dX12_drawnOf_51 (by decide) (fun c187 => ?_) (fun c187 => ?_)
        · have q188 := mm_leLl (mm_cmp_ge ev186 c187) rv185 rv184
          have q189 := mm_meet (lo := 0) (hi := 9) (mm_l2x ev185 q188) h2 (by decide)
          refine lv_iconst (v := 0) hx hb dX12_drawnOf_58 (by decide) ?_
          refine lv_iadd hx hb dX12_drawnOf_59 ?_
          refine lv_topi (fun v190 ev190 => ?_)
          have rv190 : mm_rg v190 0 6 := mm_add ev190 q179 mm_k0 (by decide) (by decide)
          have tv190 := mm_addEc ev190 q179 mm_k0 (by decide) (k := 0) (by decide)
          refine lv_istore (lv' := [(6, .int v190), (4, .long v182), (7, .int x9_7_171), (0, .ref a_0), (1, .long j_0), (3, .int i_0)]) hx hb dX12_drawnOf_60 hl (by decide) rfl ?_
          clear hl
          clear ls
          intro ls hl
          obtain ⟨v191, ev191⟩ : ∃ y : Int32, y = x9_7_171 + 1 := ⟨_, rfl⟩
          refine lv_iinc (v := v191) (lv' := [(7, .int v191), (6, .int v190), (4, .long v182), (0, .ref a_0), (1, .long j_0), (3, .int i_0)]) hx hb dX12_drawnOf_62 hl (k := 2) rfl (by rw [ev191]; rfl) (by decide) rfl ?_
          clear hl
          clear ls
          intro ls hl
          have rv191 : mm_rg v191 1 7 := mm_add ev191 q177 mm_k1 (by decide) (by decide)
          have tv191 := mm_addEc ev191 q177 mm_k1 (by decide) (k := 1) (by decide)
          refine lv_goto (tgt := 9) hx hb dX12_drawnOf_65 (by decide) ?_
          exact ih9 v191 v190 v182 (mm_wk rv191 (by decide)) (mm_wk rv190 (by decide)) rv182 (by have := tv190; have := tv191; have := w174; omega) (mm_mu hm9 tv191 (by decide) (rv191).2 (by decide)) H locs hP hD hS ls (lv_sub hl [0, 1, 2, 3, 4, 5] rfl)
        · have q192 := mm_ltRl (lo := 1) (mm_cmp_lt ev186 (mm_n_ge c187)) rv184 rv185 (by decide)
          have q193 := mm_meet (lo := 1) (hi := 10) (mm_l2x ev185 q192) h2 (by decide)
          refine lv_iconst (v := 1) hx hb dX12_drawnOf_54 (by decide) ?_
          refine lv_goto (tgt := 59) hx hb dX12_drawnOf_55 (by decide) ?_
          refine lv_iadd hx hb dX12_drawnOf_59 ?_
          refine lv_topi (fun v194 ev194 => ?_)
          have rv194 : mm_rg v194 1 7 := mm_add ev194 q179 mm_k1 (by decide) (by decide)
          have tv194 := mm_addEc ev194 q179 mm_k1 (by decide) (k := 1) (by decide)
          refine lv_istore (lv' := [(6, .int v194), (4, .long v182), (7, .int x9_7_171), (0, .ref a_0), (1, .long j_0), (3, .int i_0)]) hx hb dX12_drawnOf_60 hl (by decide) rfl ?_
          clear hl
          clear ls
          intro ls hl
          obtain ⟨v195, ev195⟩ : ∃ y : Int32, y = x9_7_171 + 1 := ⟨_, rfl⟩
          refine lv_iinc (v := v195) (lv' := [(7, .int v195), (6, .int v194), (4, .long v182), (0, .ref a_0), (1, .long j_0), (3, .int i_0)]) hx hb dX12_drawnOf_62 hl (k := 2) rfl (by rw [ev195]; rfl) (by decide) rfl ?_
          clear hl
          clear ls
          intro ls hl
          have rv195 : mm_rg v195 1 7 := mm_add ev195 q177 mm_k1 (by decide) (by decide)
          have tv195 := mm_addEc ev195 q177 mm_k1 (by decide) (k := 1) (by decide)
          refine lv_goto (tgt := 9) hx hb dX12_drawnOf_65 (by decide) ?_
          exact ih9 v195 v194 v182 (mm_wk rv195 (by decide)) (mm_wk rv194 (by decide)) rv182 (by have := tv194; have := tv195; have := w174; omega) (mm_mu hm9 tv195 (by decide) (rv195).2 (by decide)) H locs hP hD hS ls (lv_sub hl [0, 1, 2, 3, 4, 5] rfl)
  exact L9_174 _ 0 0 j_0 (mm_wk mm_k0 (by decide)) (mm_wk mm_k0 (by decide)) (mm_wkl h0 (by decide)) (Int.le_refl _) (Nat.lt_succ_self _) H locs hP hD hS ls (lv_sub hl [0, 1, 2, 3, 4, 5] rfl)

set_option maxHeartbeats 4000000 in
set_option maxRecDepth 100000 in
theorem M307_X12_drawn (l : Launch) (G : va_G) (cy : Nat → ClassId) (sz : Nat) (a_0 : Nat) (i_0 : Int32) (i_1 : Int32) (i_2 : Int32) (a_1 : Nat) (a_2 : Nat) (a_3 : Nat) (a_4 : Nat) (a_5 : Nat) (i_3 : Int32) (i_4 : Int32) (i_5 : Int32) (i_6 : Int32) (i_7 : Int32) (j_0 : Int64) (i_8 : Int32) (i_9 : Int32) (i_10 : Int32) (i_11 : Int32) (a_6 : Nat) (a_7 : Nat) (a_8 : Nat) (a_9 : Nat) (a_10 : Nat) (a_11 : Nat) (a_12 : Nat) (a_13 : Nat) (a_14 : Nat) (a_15 : Nat) (a_16 : Nat) (a_17 : Nat) (a_18 : Nat) (i_12 : Int32) (i_13 : Int32) (i_14 : Int32) (i_15 : Int32) (i_16 : Int32) (i_17 : Int32) (a_19 : Nat) (i_18 : Int32) (a_20 : Nat) (i_19 : Int32) (i_20 : Int32) (i_21 : Int32) (i_22 : Int32) (i_23 : Int32) (i_24 : Int32) (i_25 : Int32) (i_26 : Int32) (i_27 : Int32) (i_28 : Int32) (i_29 : Int32) (i_30 : Int32) (i_31 : Int32) (i_32 : Int32) (i_33 : Int32) (i_34 : Int32) (i_35 : Int32) (i_36 : Int32) (i_37 : Int32) (i_38 : Int32) (i_39 : Int32) (i_40 : Int32) (i_41 : Int32) (i_42 : Int32) (i_43 : Int32) (i_44 : Int32) (i_45 : Int32) (i_46 : Int32) (i_47 : Int32) (i_48 : Int32) (i_49 : Int32) (i_50 : Int32) (i_51 : Int32) (i_52 : Int32) (i_53 : Int32) (h0 : mm_rg i_19 0 601) (h1 : mm_rg i_20 0 601) (h2 : mm_rg i_21 0 601) (h3 : mm_rg i_22 0 601) (h4 : mm_rg i_23 0 601) (h5 : mm_rg i_24 0 10) (h6 : mm_rg i_25 0 99) (h7 : mm_rg i_26 0 9) (h8 : mm_rg i_27 0 3) (h9 : mm_rg i_28 0 6) (h10 : mm_rg i_29 0 30) (h11 : mm_rg i_30 0 10) (h12 : mm_rg i_31 0 99) (h13 : mm_rg i_32 0 9) (h14 : mm_rg i_33 0 3) (h15 : mm_rg i_34 0 6) (h16 : mm_rg i_35 0 30) (h17 : mm_rg i_36 0 10) (h18 : mm_rg i_37 0 99) (h19 : mm_rg i_38 0 9) (h20 : mm_rg i_39 0 3) (h21 : mm_rg i_40 0 6) (h22 : mm_rg i_41 0 30) (h23 : mm_rg i_42 0 10) (h24 : mm_rg i_43 0 99) (h25 : mm_rg i_44 0 9) (h26 : mm_rg i_45 0 3) (h27 : mm_rg i_46 0 6) (h28 : mm_rg i_47 0 30) (h29 : mm_rg i_48 0 10) (h30 : mm_rg i_49 0 99) (h31 : mm_rg i_50 0 9) (h32 : mm_rg i_51 0 3) (h33 : mm_rg i_52 0 6) (h34 : mm_rg i_53 0 30) (h35 : mm_tl i_19 i_27 i_28) (h36 : mm_tl i_20 i_33 i_34) (h37 : mm_tl i_21 i_39 i_40) (h38 : mm_tl i_22 i_45 i_46)  : mm_CI l yX12_drawn (mm_ws yX12_drawn cX12_drawn 3 (some .int)) ({ frames := 2, cells := 0, slots := 0, locals := 45 } : Room) G cy sz [(a_0, .inr (12, [.int i_2, .ref a_1, .ref a_2, .ref a_3, .ref a_4, .ref a_5, .int i_3, .int i_4, .int i_5, .int i_6, .int i_7, .long j_0, .int i_8, .int i_9, .int i_10, .int i_11, .ref a_6, .ref a_7, .ref a_8, .ref a_9, .ref a_10, .ref a_11, .ref a_12, .ref a_13, .ref a_14, .ref a_15, .ref a_16, .ref a_17, .ref a_18, .int i_12, .int i_13, .int i_14, .int i_15, .int i_16, .int i_17, .ref a_19, .int i_18, .ref a_20])), (a_6, .inl (cy 1, 5, .inl (mm_g [i_19, i_20, i_21, i_22, i_23]))), (a_7, .inl (cy 1, 30, .inl (mm_g [i_24, i_25, i_26, i_27, i_28, i_29, i_30, i_31, i_32, i_33, i_34, i_35, i_36, i_37, i_38, i_39, i_40, i_41, i_42, i_43, i_44, i_45, i_46, i_47, i_48, i_49, i_50, i_51, i_52, i_53])))] [.ref a_0, .int i_0, .int i_1] (fun u : Unit => [(a_0, .inr (12, [.int 0, .ref a_1, .ref a_2, .ref a_3, .ref a_4, .ref a_5, .int i_3, .int i_4, .int i_5, .int i_6, .int i_7, .long j_0, .int i_8, .int i_9, .int i_10, .int i_11, .ref a_6, .ref a_7, .ref a_8, .ref a_9, .ref a_10, .ref a_11, .ref a_12, .ref a_13, .ref a_14, .ref a_15, .ref a_16, .ref a_17, .ref a_18, .int i_12, .int i_13, .int i_14, .int i_15, .int i_16, .int i_17, .ref a_19, .int i_18, .ref a_20])), (a_6, .inl (cy 1, 5, .inl (mm_g [i_19, i_20, i_21, i_22, i_23]))), (a_7, .inl (cy 1, 30, .inl (mm_g [i_24, i_25, i_26, i_27, i_28, i_29, i_30, i_31, i_32, i_33, i_34, i_35, i_36, i_37, i_38, i_39, i_40, i_41, i_42, i_43, i_44, i_45, i_46, i_47, i_48, i_49, i_50, i_51, i_52, i_53])))]) (fun (r : Int32) (u : Unit) => mm_rg r (-2) 7) 0 0 := by
  refine mm_begin (lv := [(0, .ref a_0), (1, .int i_0), (2, .int i_1)]) (by decide) (Nat.le_of_ble_eq_true rfl) rfl ?_
  intro p e s m below meth c A ls R args Q H locs hRe hQ hAe hx hb hr hlocks hml hown hnm hts hsz hA hS hP hK hD hZ hl
  have hRf : R.frames = 2 := by rw [hRe]
  have hRl : R.locals = 45 := by rw [hRe]
  have hRc : R.cells = 0 := by rw [hRe]
  have hRs : R.slots = 0 := by rw [hRe]
  refine lv_aload_n hx hb dX12_drawn_0 rfl (lv_at hl 0 rfl) ?_
  refine lv_iconst (v := 0) hx hb dX12_drawn_1 (by decide) ?_
  refine va_put (D := G) (ci := 12) (v := .int 0) (ty := tyX12 0) (C := RX12) (T := TX12) (N := 38) hx hb hts (mm_i inlX12) tyX12 tyX12_ok nmX12 hown hK.1 hP hD hS 0 rfl rfl 0 (by decide) (mm_h hts mm_w177) (fun _ h9 => h9) rfl (tyX12_ok 0 (by decide)) rfl rfl (Nat.le_of_ble_eq_true rfl) dX12_drawn_2 ?_
  clear hP hD hS
  clear H locs
  intro H locs (hP : va_P G vwCl [(a_0, .inr (12, [.int 0, .ref a_1, .ref a_2, .ref a_3, .ref a_4, .ref a_5, .int i_3, .int i_4, .int i_5, .int i_6, .int i_7, .long j_0, .int i_8, .int i_9, .int i_10, .int i_11, .ref a_6, .ref a_7, .ref a_8, .ref a_9, .ref a_10, .ref a_11, .ref a_12, .ref a_13, .ref a_14, .ref a_15, .ref a_16, .ref a_17, .ref a_18, .int i_12, .int i_13, .int i_14, .int i_15, .int i_16, .int i_17, .ref a_19, .int i_18, .ref a_20])), (a_6, .inl (cy 1, 5, .inl (mm_g [i_19, i_20, i_21, i_22, i_23]))), (a_7, .inl (cy 1, 30, .inl (mm_g [i_24, i_25, i_26, i_27, i_28, i_29, i_30, i_31, i_32, i_33, i_34, i_35, i_36, i_37, i_38, i_39, i_40, i_41, i_42, i_43, i_44, i_45, i_46, i_47, i_48, i_49, i_50, i_51, i_52, i_53])))] H) (hD : va_D A [(a_0, .inr (12, [.int 0, .ref a_1, .ref a_2, .ref a_3, .ref a_4, .ref a_5, .int i_3, .int i_4, .int i_5, .int i_6, .int i_7, .long j_0, .int i_8, .int i_9, .int i_10, .int i_11, .ref a_6, .ref a_7, .ref a_8, .ref a_9, .ref a_10, .ref a_11, .ref a_12, .ref a_13, .ref a_14, .ref a_15, .ref a_16, .ref a_17, .ref a_18, .int i_12, .int i_13, .int i_14, .int i_15, .int i_16, .int i_17, .ref a_19, .int i_18, .ref a_20])), (a_6, .inl (cy 1, 5, .inl (mm_g [i_19, i_20, i_21, i_22, i_23]))), (a_7, .inl (cy 1, 30, .inl (mm_g [i_24, i_25, i_26, i_27, i_28, i_29, i_30, i_31, i_32, i_33, i_34, i_35, i_36, i_37, i_38, i_39, i_40, i_41, i_42, i_43, i_44, i_45, i_46, i_47, i_48, i_49, i_50, i_51, i_52, i_53])))]) hS
  refine lv_aload_n hx hb dX12_drawn_5 rfl (lv_at hl 0 rfl) ?_
  refine mm_finir (va_runV (As := []) (rest := []) ⟨hx, hb, hml, hown, hts⟩ (M120_X12_isBook l G cy H.size a_0 0 a_1 a_2 a_3 a_4 a_5 i_3 i_4 i_5 i_6 i_7 j_0 i_8 i_9 i_10 i_11 a_6 a_7 a_8 a_9 a_10 a_11 a_12 a_13 a_14 a_15 a_16 a_17 a_18 i_12 i_13 i_14 i_15 i_16 i_17 a_19 i_18 a_20 i_19 i_20 i_21 i_22 i_23 h0 h1 h2 h3 h4) (cwV 0 hts (mm_gV mm_w653 mm_w654 mm_w655 mm_w5 mm_w656) rfl rfl rfl hd_X12_isBook ⟨by rw [hRf]; exact Nat.le_of_ble_eq_true rfl, by rw [hRl]; exact Nat.le_of_ble_eq_true rfl⟩) (mm_preV hK hZ hS hA hP hD [0, 1] rfl rfl 0 rfl rfl rfl) rfl rfl hl.1 rfl (lv_room (Nat.le_of_ble_eq_true rfl)) dX12_drawn_6 ⟨by rw [hRc]; exact Nat.le_of_ble_eq_true rfl, by rw [hRs]; exact Nat.le_of_ble_eq_true rfl⟩) hP hD hS hA [0, 1] rfl (fun _ => rfl) ?_
  clear hP hD hS
  clear H locs
  intro v1 _u H locs hw hP hD hS
  rcases hw with rfl | rfl
  · refine lv_if_eq (tgt := 41) hx hb dX12_drawn_9 (by decide) (fun c2 => ?_) (fun c2 => ?_)
    · refine lv_bipush (v := (-2)) hx hb dX12_drawn_41 (by decide) ?_
      subst hAe
      rw [hQ]
      exact W.iret (v := (-2)) hx hb hr (fun t ht hW => ⟨⟨(-2), (), rfl, (mm_wk mm_km2 (by decide)), by rw [ht]; exact hP, hK.warm hW, hD⟩, hS.F ht⟩) hS.2.2 dX12_drawn_43
    · exact absurd rfl (mm_ne c2)
  · refine lv_if_eq (tgt := 41) hx hb dX12_drawn_9 (by decide) (fun c3 => ?_) (fun c3 => ?_)
    · exact mm_eqN c3.symm mm_k0 mm_k1 (by decide)
    · refine lv_iload_n hx hb dX12_drawn_12 rfl (lv_at hl 1 rfl) ?_
      refine mm_finir (va_runS (As := [.int i_0]) (rest := []) ⟨hx, hb, hml, hown, hts⟩ (M305_X12_isSeed l G cy H.size i_0 ) (va_cwS 1 hts (mm_gS mm_w1608 mm_w1609 mm_w5 mm_w1610) rfl rfl rfl hs_X12_isSeed ⟨by rw [hRf]; exact Nat.le_of_ble_eq_true rfl, by rw [hRl]; exact Nat.le_of_ble_eq_true rfl⟩) (mm_preS hK hZ hS hA hP hD [] rfl rfl) rfl rfl hl.1 rfl (lv_room (Nat.le_of_ble_eq_true rfl)) dX12_drawn_13 ⟨by rw [hRc]; exact Nat.le_of_ble_eq_true rfl, by rw [hRs]; exact Nat.le_of_ble_eq_true rfl⟩) hP hD hS hA [] rfl (fun _ => rfl) ?_
      clear hP hD hS
      clear H locs
      intro v4 _u H locs hw hP hD hS
      rcases hw with rfl | ⟨rfl, w5⟩
      · refine lv_if_eq (tgt := 41) hx hb dX12_drawn_16 (by decide) (fun c6 => ?_) (fun c6 => ?_)
        · refine lv_bipush (v := (-2)) hx hb dX12_drawn_41 (by decide) ?_
          subst hAe
          rw [hQ]
          exact W.iret (v := (-2)) hx hb hr (fun t ht hW => ⟨⟨(-2), (), rfl, (mm_wk mm_km2 (by decide)), by rw [ht]; exact hP, hK.warm hW, hD⟩, hS.F ht⟩) hS.2.2 dX12_drawn_43
        · exact absurd rfl (mm_ne c6)
      · refine lv_if_eq (tgt := 41) hx hb dX12_drawn_16 (by decide) (fun c7 => ?_) (fun c7 => ?_)
        · exact mm_eqN c7.symm mm_k0 mm_k1 (by decide)
        · refine lv_iload_n hx hb dX12_drawn_19 rfl (lv_at hl 2 rfl) ?_
          obtain ⟨v8, ev8⟩ : ∃ y : Int64, y = i_1.toInt64 := ⟨_, rfl⟩
          refine lv_i2l hx hb dX12_drawn_20 ev8.symm ?_
          have rv8 : mm_rl v8 (-2147483648) 2147483647 := mm_i2l ev8 (mm_top i_1)
          refine lv_lconst (v := 0) hx hb dX12_drawn_21 (by decide) ?_
          refine lv_ldc2 (v := 7) hx hb hown (mm_h hts mm_w1399) dX12_drawn_22 ?_
          refine mm_finir (va_runS (As := [.long v8, .long 0, .long 7]) (rest := []) ⟨hx, hb, hml, hown, hts⟩ (M7_X12_in l G cy H.size v8 7 ) (va_cwS 3 hts (mm_gS mm_w191 mm_w192 mm_w5 mm_w193) rfl rfl rfl hs_X12_in ⟨by rw [hRf]; exact Nat.le_of_ble_eq_true rfl, by rw [hRl]; exact Nat.le_of_ble_eq_true rfl⟩) (mm_preS hK hZ hS hA hP hD [] rfl rfl) rfl rfl hl.1 rfl (lv_room (Nat.le_of_ble_eq_true rfl)) dX12_drawn_25 ⟨by rw [hRc]; exact Nat.le_of_ble_eq_true rfl, by rw [hRs]; exact Nat.le_of_ble_eq_true rfl⟩) hP hD hS hA [] rfl (fun _ => rfl) ?_
          clear hP hD hS
          clear H locs
          intro v9 _u H locs hw hP hD hS
          rcases hw with ⟨rfl, w10⟩ | ⟨rfl, w11, w12, w13, w14⟩
          · refine lv_if_eq (tgt := 41) hx hb dX12_drawn_28 (by decide) (fun c15 => ?_) (fun c15 => ?_)
            · refine lv_bipush (v := (-2)) hx hb dX12_drawn_41 (by decide) ?_
              subst hAe
              rw [hQ]
              exact W.iret (v := (-2)) hx hb hr (fun t ht hW => ⟨⟨(-2), (), rfl, (mm_wk mm_km2 (by decide)), by rw [ht]; exact hP, hK.warm hW, hD⟩, hS.F ht⟩) hS.2.2 dX12_drawn_43
            · exact absurd rfl (mm_ne c15)
          · have q16 := mm_meetl (lo := 0) (hi := 2147483647) w11 rv8 (by decide)
            have q17 := mm_meet (lo := 0) (hi := 2147483647) (mm_l2x ev8 q16) (mm_top i_1) (by decide)
            have q18 := mm_leLl w13 q16 mm_kl7
            have q19 := mm_meet (lo := 0) (hi := 7) (mm_l2x ev8 q18) q17 (by decide)
            refine lv_if_eq (tgt := 41) hx hb dX12_drawn_28 (by decide) (fun c20 => ?_) (fun c20 => ?_)
            · exact mm_eqN c20.symm mm_k0 mm_k1 (by decide)
            · refine lv_aload_n hx hb dX12_drawn_31 rfl (lv_at hl 0 rfl) ?_
              refine lv_iload_n hx hb dX12_drawn_32 rfl (lv_at hl 1 rfl) ?_
              obtain ⟨v21, ev21⟩ : ∃ y : Int64, y = i_0.toInt64 := ⟨_, rfl⟩
              refine lv_i2l hx hb dX12_drawn_33 ev21.symm ?_
              have rv21 : mm_rl v21 0 2000000000 := mm_i2l ev21 w5
              refine lv_iload_n hx hb dX12_drawn_34 rfl (lv_at hl 2 rfl) ?_
              refine mm_finir (va_runV (As := [.long v21, .int i_1]) (rest := []) ⟨hx, hb, hml, hown, hts⟩ (M306_X12_drawnOf l G cy H.size a_0 v21 i_1 0 a_1 a_2 a_3 a_4 a_5 i_3 i_4 i_5 i_6 i_7 j_0 i_8 i_9 i_10 i_11 a_6 a_7 a_8 a_9 a_10 a_11 a_12 a_13 a_14 a_15 a_16 a_17 a_18 i_12 i_13 i_14 i_15 i_16 i_17 a_19 i_18 a_20 i_24 i_25 i_26 i_27 i_28 i_29 i_30 i_31 i_32 i_33 i_34 i_35 i_36 i_37 i_38 i_39 i_40 i_41 i_42 i_43 i_44 i_45 i_46 i_47 i_48 i_49 i_50 i_51 i_52 i_53 rv21 q19 h5 h6 h7 h8 h9 h10 h11 h12 h13 h14 h15 h16 h17 h18 h19 h20 h21 h22 h23 h24 h25 h26 h27 h28 h29 h30 h31 h32 h33 h34) (cwV 2 hts (mm_gV mm_w1612 mm_w1613 mm_w1614 mm_w5 mm_w1615) rfl rfl rfl hd_X12_drawnOf ⟨by rw [hRf]; exact Nat.le_of_ble_eq_true rfl, by rw [hRl]; exact Nat.le_of_ble_eq_true rfl⟩) (mm_preV hK hZ hS hA hP hD [0, 2] rfl rfl 0 rfl rfl rfl) rfl rfl hl.1 rfl (lv_room (Nat.le_of_ble_eq_true rfl)) dX12_drawn_35 ⟨by rw [hRc]; exact Nat.le_of_ble_eq_true rfl, by rw [hRs]; exact Nat.le_of_ble_eq_true rfl⟩) hP hD hS hA [0, 2] rfl (fun _ => rfl) ?_
              clear hP hD hS
              clear H locs
              intro v22 _u H locs hw hP hD hS
              have w23 := hw
              refine lv_goto (tgt := 43) hx hb dX12_drawn_38 (by decide) ?_
              subst hAe
              rw [hQ]
              exact W.iret (v := v22) hx hb hr (fun t ht hW => ⟨⟨v22, (), rfl, (mm_wk w23 (by decide)), by rw [ht]; exact hP, hK.warm hW, hD⟩, hS.F ht⟩) hS.2.2 dX12_drawn_43

set_option maxHeartbeats 4000000 in
set_option maxRecDepth 100000 in
theorem M319_X12_drawnOf (l : Launch) (G : va_G) (cy : Nat → ClassId) (sz : Nat) (a_0 : Nat) (j_0 : Int64) (i_0 : Int32) (a_1 : Nat) (a_2 : Nat) (a_3 : Nat) (a_4 : Nat) (a_5 : Nat) (i_1 : Int32) (i_2 : Int32) (i_3 : Int32) (i_4 : Int32) (i_5 : Int32) (j_1 : Int64) (i_6 : Int32) (i_7 : Int32) (i_8 : Int32) (i_9 : Int32) (a_6 : Nat) (a_7 : Nat) (a_8 : Nat) (a_9 : Nat) (a_10 : Nat) (a_11 : Nat) (a_12 : Nat) (a_13 : Nat) (a_14 : Nat) (a_15 : Nat) (a_16 : Nat) (a_17 : Nat) (a_18 : Nat) (i_10 : Int32) (i_11 : Int32) (i_12 : Int32) (i_13 : Int32) (i_14 : Int32) (i_15 : Int32) (a_19 : Nat) (i_16 : Int32) (a_20 : Nat) (i_17 : Int32) (i_18 : Int32) (i_19 : Int32) (i_20 : Int32) (i_21 : Int32) (i_22 : Int32) (i_23 : Int32) (i_24 : Int32) (i_25 : Int32) (i_26 : Int32) (i_27 : Int32) (i_28 : Int32) (i_29 : Int32) (i_30 : Int32) (i_31 : Int32) (i_32 : Int32) (i_33 : Int32) (i_34 : Int32) (i_35 : Int32) (i_36 : Int32) (i_37 : Int32) (i_38 : Int32) (i_39 : Int32) (i_40 : Int32) (i_41 : Int32) (i_42 : Int32) (i_43 : Int32) (i_44 : Int32) (i_45 : Int32) (i_46 : Int32) (h0 : mm_rl j_0 0 2000000019) (h1 : mm_rg i_17 0 10) (h2 : mm_rg i_18 0 99) (h3 : mm_rg i_19 0 9) (h4 : mm_rg i_20 0 3) (h5 : mm_rg i_21 0 6) (h6 : mm_rg i_22 0 30) (h7 : mm_rg i_23 0 10) (h8 : mm_rg i_24 0 99) (h9 : mm_rg i_25 0 9) (h10 : mm_rg i_26 0 3) (h11 : mm_rg i_27 0 6) (h12 : mm_rg i_28 0 30) (h13 : mm_rg i_29 0 10) (h14 : mm_rg i_30 0 99) (h15 : mm_rg i_31 0 9) (h16 : mm_rg i_32 0 3) (h17 : mm_rg i_33 0 6) (h18 : mm_rg i_34 0 30) (h19 : mm_rg i_35 0 10) (h20 : mm_rg i_36 0 99) (h21 : mm_rg i_37 0 9) (h22 : mm_rg i_38 0 3) (h23 : mm_rg i_39 0 6) (h24 : mm_rg i_40 0 30) (h25 : mm_rg i_41 0 10) (h26 : mm_rg i_42 0 99) (h27 : mm_rg i_43 0 9) (h28 : mm_rg i_44 0 3) (h29 : mm_rg i_45 0 6) (h30 : mm_rg i_46 0 30)  : mm_CI l yX12_drawnOf (mm_ws yX12_drawnOf cX12_drawnOf 8 (some .int)) ({ frames := 0, cells := 0, slots := 0, locals := 0 } : Room) G cy sz [(a_0, .inr (12, [.int i_0, .ref a_1, .ref a_2, .ref a_3, .ref a_4, .ref a_5, .int i_1, .int i_2, .int i_3, .int i_4, .int i_5, .long j_1, .int i_6, .int i_7, .int i_8, .int i_9, .ref a_6, .ref a_7, .ref a_8, .ref a_9, .ref a_10, .ref a_11, .ref a_12, .ref a_13, .ref a_14, .ref a_15, .ref a_16, .ref a_17, .ref a_18, .int i_10, .int i_11, .int i_12, .int i_13, .int i_14, .int i_15, .ref a_19, .int i_16, .ref a_20])), (a_7, .inl (cy 1, 30, .inl (mm_g [i_17, i_18, i_19, i_20, i_21, i_22, i_23, i_24, i_25, i_26, i_27, i_28, i_29, i_30, i_31, i_32, i_33, i_34, i_35, i_36, i_37, i_38, i_39, i_40, i_41, i_42, i_43, i_44, i_45, i_46])))] [.ref a_0, .long j_0, .int 7] (fun u : Unit => [(a_0, .inr (12, [.int i_0, .ref a_1, .ref a_2, .ref a_3, .ref a_4, .ref a_5, .int i_1, .int i_2, .int i_3, .int i_4, .int i_5, .long j_1, .int i_6, .int i_7, .int i_8, .int i_9, .ref a_6, .ref a_7, .ref a_8, .ref a_9, .ref a_10, .ref a_11, .ref a_12, .ref a_13, .ref a_14, .ref a_15, .ref a_16, .ref a_17, .ref a_18, .int i_10, .int i_11, .int i_12, .int i_13, .int i_14, .int i_15, .ref a_19, .int i_16, .ref a_20])), (a_7, .inl (cy 1, 30, .inl (mm_g [i_17, i_18, i_19, i_20, i_21, i_22, i_23, i_24, i_25, i_26, i_27, i_28, i_29, i_30, i_31, i_32, i_33, i_34, i_35, i_36, i_37, i_38, i_39, i_40, i_41, i_42, i_43, i_44, i_45, i_46])))]) (fun (r : Int32) (u : Unit) => mm_rg r 0 7) 0 0 := by
  refine mm_begin (lv := [(0, .ref a_0), (1, .long j_0), (3, .int 7)]) (by decide) (Nat.le_of_ble_eq_true rfl) rfl ?_
  intro p e s m below meth c A ls R args Q H locs hRe hQ hAe hx hb hr hlocks hml hown hnm hts hsz hA hS hP hK hD hZ hl
  have hRf : R.frames = 0 := by rw [hRe]
  have hRl : R.locals = 0 := by rw [hRe]
  have hRc : R.cells = 0 := by rw [hRe]
  have hRs : R.slots = 0 := by rw [hRe]
  refine lv_lload_n hx hb dX12_drawnOf_0 rfl (lv_at hl 1 rfl) ?_
  refine lv_lstore (lv' := [(4, .long j_0), (0, .ref a_0), (1, .long j_0), (3, .int 7)]) hx hb dX12_drawnOf_1 hl (by decide) rfl ?_
  clear hl
  clear ls
  intro ls hl
  refine lv_iconst (v := 0) hx hb dX12_drawnOf_3 (by decide) ?_
  refine lv_istore (lv' := [(6, .int 0), (4, .long j_0), (0, .ref a_0), (1, .long j_0), (3, .int 7)]) hx hb dX12_drawnOf_4 hl (by decide) rfl ?_
  clear hl
  clear ls
  intro ls hl
  refine lv_iconst (v := 0) hx hb dX12_drawnOf_6 (by decide) ?_
  refine lv_istore (lv' := [(7, .int 0), (6, .int 0), (4, .long j_0), (0, .ref a_0), (1, .long j_0), (3, .int 7)]) hx hb dX12_drawnOf_7 hl (by decide) rfl ?_
  clear hl
  clear ls
  intro ls hl
  have L9_166 : ∀ (n : Nat) (x9_7_163 : Int32) (x9_6_164 : Int32) (x9_4_165 : Int64), mm_rg x9_7_163 0 7 → mm_rg x9_6_164 0 7 → mm_rl x9_4_165 0 2147483647 → (x9_6_164 : Int32).toInt ≤ (x9_7_163 : Int32).toInt → (7 - x9_7_163.toInt).toNat < n → ∀ (H : Heap) (locs : List Loc), va_P G vwCl [(a_0, .inr (12, [.int i_0, .ref a_1, .ref a_2, .ref a_3, .ref a_4, .ref a_5, .int i_1, .int i_2, .int i_3, .int i_4, .int i_5, .long j_1, .int i_6, .int i_7, .int i_8, .int i_9, .ref a_6, .ref a_7, .ref a_8, .ref a_9, .ref a_10, .ref a_11, .ref a_12, .ref a_13, .ref a_14, .ref a_15, .ref a_16, .ref a_17, .ref a_18, .int i_10, .int i_11, .int i_12, .int i_13, .int i_14, .int i_15, .ref a_19, .int i_16, .ref a_20])), (a_7, .inl (cy 1, 30, .inl (mm_g [i_17, i_18, i_19, i_20, i_21, i_22, i_23, i_24, i_25, i_26, i_27, i_28, i_29, i_30, i_31, i_32, i_33, i_34, i_35, i_36, i_37, i_38, i_39, i_40, i_41, i_42, i_43, i_44, i_45, i_46])))] H → va_D A [(a_0, .inr (12, [.int i_0, .ref a_1, .ref a_2, .ref a_3, .ref a_4, .ref a_5, .int i_1, .int i_2, .int i_3, .int i_4, .int i_5, .long j_1, .int i_6, .int i_7, .int i_8, .int i_9, .ref a_6, .ref a_7, .ref a_8, .ref a_9, .ref a_10, .ref a_11, .ref a_12, .ref a_13, .ref a_14, .ref a_15, .ref a_16, .ref a_17, .ref a_18, .int i_10, .int i_11, .int i_12, .int i_13, .int i_14, .int i_15, .ref a_19, .int i_16, .ref a_20])), (a_7, .inl (cy 1, 30, .inl (mm_g [i_17, i_18, i_19, i_20, i_21, i_22, i_23, i_24, i_25, i_26, i_27, i_28, i_29, i_30, i_31, i_32, i_33, i_34, i_35, i_36, i_37, i_38, i_39, i_40, i_41, i_42, i_43, i_44, i_45, i_46])))] → va_S A s.heap H locs → ∀ (ls : Array Slot), lv_has ls 8 [(7, .int x9_7_163), (6, .int x9_6_164), (4, .long x9_4_165), (0, .ref a_0), (1, .long j_0), (3, .int 7)] → W p l e R s m args below meth c H locs 0 0 Q (F0 m 9 ls []) := by
    intro n
    induction n with
    | zero => intro x9_7_163 x9_6_164 x9_4_165 rx9_7_163 rx9_6_164 rx9_4_165 w166 hm; exact absurd hm (Nat.not_lt_zero _)
    | succ n ih9 =>
      intro x9_7_163 x9_6_164 x9_4_165 rx9_7_163 rx9_6_164 rx9_4_165 w166 hm9 H locs hP hD hS ls hl
      refine lv_iload hx hb dX12_drawnOf_9 (lv_at hl 0 rfl) ?_
      refine lv_iload_n hx hb dX12_drawnOf_11 rfl (lv_at hl 5 rfl) ?_
      refine lv_icmp_ge (tgt := 68) hx hb dX12_drawnOf_12 (by decide) (fun c168 => ?_) (fun c168 => ?_)
      · have q169 := mm_leR (mm_le c168) mm_k7 rx9_7_163
        refine lv_iload hx hb dX12_drawnOf_68 (lv_at hl 1 rfl) ?_
        subst hAe
        rw [hQ]
        exact W.iret (v := x9_6_164) hx hb hr (fun t ht hW => ⟨⟨x9_6_164, (), rfl, rx9_6_164, by rw [ht]; exact hP, hK.warm hW, hD⟩, hS.F ht⟩) hS.2.2 dX12_drawnOf_70
      · have q170 := mm_ltL (h := 6) (mm_nle c168) rx9_7_163 mm_k7 (by decide)
        have q171 := mm_leL w166 rx9_6_164 q170
        refine lv_ldc2 (v := 1103515245) hx hb hown (mm_h hts mm_w1616) dX12_drawnOf_15 ?_
        refine lv_lload hx hb dX12_drawnOf_18 (lv_at hl 2 rfl) ?_
        refine lv_lmul hx hb dX12_drawnOf_20 ?_
        refine lv_topl (fun v172 ev172 => ?_)
        have rv172 : mm_rl v172 0 2369780942852698515 := mm_mull ev172 mm_kl1103515245 rx9_4_165 (by decide) (by decide)
        refine lv_ldc2 (v := 12345) hx hb hown (mm_h hts mm_w1617) dX12_drawnOf_21 ?_
        refine lv_ladd hx hb dX12_drawnOf_24 ?_
        refine lv_topl (fun v173 ev173 => ?_)
        have rv173 : mm_rl v173 12345 2369780942852710860 := mm_addl ev173 rv172 mm_kl12345 (by decide) (by decide)
        have tv173 := mm_addlEc ev173 rv172 mm_kl12345 (by decide) (k := 12345) (by decide)
        refine lv_ldc2 (v := 2147483648) hx hb hown (mm_h hts mm_w1618) dX12_drawnOf_25 ?_
        refine lv_lrem hx hb dX12_drawnOf_28 (mm_nzl mm_kl2147483648 (by decide)) ?_
        refine lv_topl (fun v174 ev174 => ?_)
        have rv174 : mm_rl v174 0 2147483647 := mm_reml ev174 rv173 mm_kl2147483648 (by decide) (by decide)
        refine lv_lstore (lv' := [(4, .long v174), (7, .int x9_7_163), (6, .int x9_6_164), (0, .ref a_0), (1, .long j_0), (3, .int 7)]) hx hb dX12_drawnOf_29 hl (by decide) rfl ?_
        clear hl
        clear ls
        intro ls hl
        refine lv_iload hx hb dX12_drawnOf_31 (lv_at hl 2 rfl) ?_
        refine lv_lload hx hb dX12_drawnOf_33 (lv_at hl 0 rfl) ?_
        refine lv_ldc2 (v := 65536) hx hb hown (mm_h hts mm_w1619) dX12_drawnOf_35 ?_
        refine lv_ldiv hx hb dX12_drawnOf_38 (mm_nzl mm_kl65536 (by decide)) ?_
        refine lv_topl (fun v175 ev175 => ?_)
        have rv175 : mm_rl v175 0 2147483647 := mm_divl ev175 rv174 mm_kl65536 (by decide) (by decide)
        refine lv_ldc2 (v := 10) hx hb hown (mm_h hts mm_w1511) dX12_drawnOf_39 ?_
        refine lv_lrem hx hb dX12_drawnOf_42 (mm_nzl mm_kl10 (by decide)) ?_
        refine lv_topl (fun v176 ev176 => ?_)
        have rv176 : mm_rl v176 0 9 := mm_reml ev176 rv175 mm_kl10 (by decide) (by decide)
        refine lv_aload_n hx hb dX12_drawnOf_43 rfl (lv_at hl 3 rfl) ?_
        refine va_get (D := G) (ci := 12) (v := .ref a_7) (C := RX12) (T := TX12) (N := 38) hx hb hts (mm_i inlX12) hown hK.1 hP 0 rfl rfl 17 (by decide) (mm_h hts mm_w149) (fun _ h9 => h9) rfl dX12_drawnOf_44 ?_
        refine lv_iconst (v := 0) hx hb dX12_drawnOf_47 (by decide) ?_
        refine va_iald hx hb hK.1 hP 1 1 rfl rfl (mm_in mm_k0 (by decide)) dX12_drawnOf_48 ?_
        rw [show (mm_g [i_17, i_18, i_19, i_20, i_21, i_22, i_23, i_24, i_25, i_26, i_27, i_28, i_29, i_30, i_31, i_32, i_33, i_34, i_35, i_36, i_37, i_38, i_39, i_40, i_41, i_42, i_43, i_44, i_45, i_46]) (0 : Int32).toNatClampNeg = i_17 from mm_ge 0 (by decide) rfl]
        obtain ⟨v177, ev177⟩ : ∃ y : Int64, y = i_17.toInt64 := ⟨_, rfl⟩
        refine lv_i2l hx hb dX12_drawnOf_49 ev177.symm ?_
        have rv177 : mm_rl v177 0 10 := mm_i2l ev177 h1
        refine W.lcmp hx hb dX12_drawnOf_50 ?_
        refine lv_topi (fun v178 ev178 => ?_)
        refine lv_if_ge (tgt := 58) hx hb dX12_drawnOf_51 (by decide) (fun c179 => ?_) (fun c179 => ?_)
        · have q180 := mm_leLl (mm_cmp_ge ev178 c179) rv177 rv176
          have q181 := mm_meet (lo := 0) (hi := 9) (mm_l2x ev177 q180) h1 (by decide)
          refine lv_iconst (v := 0) hx hb dX12_drawnOf_58 (by decide) ?_
          refine lv_iadd hx hb dX12_drawnOf_59 ?_
          refine lv_topi (fun v182 ev182 => ?_)
          have rv182 : mm_rg v182 0 6 := mm_add ev182 q171 mm_k0 (by decide) (by decide)
          have tv182 := mm_addEc ev182 q171 mm_k0 (by decide) (k := 0) (by decide)
          refine lv_istore (lv' := [(6, .int v182), (4, .long v174), (7, .int x9_7_163), (0, .ref a_0), (1, .long j_0), (3, .int 7)]) hx hb dX12_drawnOf_60 hl (by decide) rfl ?_
          clear hl
          clear ls
          intro ls hl
          obtain ⟨v183, ev183⟩ : ∃ y : Int32, y = x9_7_163 + 1 := ⟨_, rfl⟩
          refine lv_iinc (v := v183) (lv' := [(7, .int v183), (6, .int v182), (4, .long v174), (0, .ref a_0), (1, .long j_0), (3, .int 7)]) hx hb dX12_drawnOf_62 hl (k := 2) rfl (by rw [ev183]; rfl) (by decide) rfl ?_
          clear hl
          clear ls
          intro ls hl
          have rv183 : mm_rg v183 1 7 := mm_add ev183 q170 mm_k1 (by decide) (by decide)
          have tv183 := mm_addEc ev183 q170 mm_k1 (by decide) (k := 1) (by decide)
          refine lv_goto (tgt := 9) hx hb dX12_drawnOf_65 (by decide) ?_
          exact ih9 v183 v182 v174 (mm_wk rv183 (by decide)) (mm_wk rv182 (by decide)) rv174 (by have := tv182; have := tv183; have := w166; omega) (mm_mu hm9 tv183 (by decide) (rv183).2 (by decide)) H locs hP hD hS ls (lv_sub hl [0, 1, 2, 3, 4, 5] rfl)
        · have q184 := mm_ltRl (lo := 1) (mm_cmp_lt ev178 (mm_n_ge c179)) rv176 rv177 (by decide)
          have q185 := mm_meet (lo := 1) (hi := 10) (mm_l2x ev177 q184) h1 (by decide)
          refine lv_iconst (v := 1) hx hb dX12_drawnOf_54 (by decide) ?_
          refine lv_goto (tgt := 59) hx hb dX12_drawnOf_55 (by decide) ?_
          refine lv_iadd hx hb dX12_drawnOf_59 ?_
          refine lv_topi (fun v186 ev186 => ?_)
          have rv186 : mm_rg v186 1 7 := mm_add ev186 q171 mm_k1 (by decide) (by decide)
          have tv186 := mm_addEc ev186 q171 mm_k1 (by decide) (k := 1) (by decide)
          refine lv_istore (lv' := [(6, .int v186), (4, .long v174), (7, .int x9_7_163), (0, .ref a_0), (1, .long j_0), (3, .int 7)]) hx hb dX12_drawnOf_60 hl (by decide) rfl ?_
          clear hl
          clear ls
          intro ls hl
          obtain ⟨v187, ev187⟩ : ∃ y : Int32, y = x9_7_163 + 1 := ⟨_, rfl⟩
          refine lv_iinc (v := v187) (lv' := [(7, .int v187), (6, .int v186), (4, .long v174), (0, .ref a_0), (1, .long j_0), (3, .int 7)]) hx hb dX12_drawnOf_62 hl (k := 2) rfl (by rw [ev187]; rfl) (by decide) rfl ?_
          clear hl
          clear ls
          intro ls hl
          have rv187 : mm_rg v187 1 7 := mm_add ev187 q170 mm_k1 (by decide) (by decide)
          have tv187 := mm_addEc ev187 q170 mm_k1 (by decide) (k := 1) (by decide)
          refine lv_goto (tgt := 9) hx hb dX12_drawnOf_65 (by decide) ?_
          exact ih9 v187 v186 v174 (mm_wk rv187 (by decide)) (mm_wk rv186 (by decide)) rv174 (by have := tv186; have := tv187; have := w166; omega) (mm_mu hm9 tv187 (by decide) (rv187).2 (by decide)) H locs hP hD hS ls (lv_sub hl [0, 1, 2, 3, 4, 5] rfl)
  exact L9_166 _ 0 0 j_0 (mm_wk mm_k0 (by decide)) (mm_wk mm_k0 (by decide)) (mm_wkl h0 (by decide)) (Int.le_refl _) (Nat.lt_succ_self _) H locs hP hD hS ls (lv_sub hl [0, 1, 2, 3, 4, 5] rfl)

set_option maxHeartbeats 4000000 in
set_option maxRecDepth 100000 in
theorem M320_X12_luck (l : Launch) (G : va_G) (cy : Nat → ClassId) (sz : Nat) (a_0 : Nat) (i_0 : Int32) (i_1 : Int32) (i_2 : Int32) (i_3 : Int32) (i_4 : Int32) (i_5 : Int32) (a_1 : Nat) (a_2 : Nat) (a_3 : Nat) (a_4 : Nat) (a_5 : Nat) (i_6 : Int32) (i_7 : Int32) (i_8 : Int32) (i_9 : Int32) (i_10 : Int32) (j_0 : Int64) (i_11 : Int32) (i_12 : Int32) (i_13 : Int32) (i_14 : Int32) (a_6 : Nat) (a_7 : Nat) (a_8 : Nat) (a_9 : Nat) (a_10 : Nat) (a_11 : Nat) (a_12 : Nat) (a_13 : Nat) (a_14 : Nat) (a_15 : Nat) (a_16 : Nat) (a_17 : Nat) (a_18 : Nat) (i_15 : Int32) (i_16 : Int32) (i_17 : Int32) (i_18 : Int32) (i_19 : Int32) (i_20 : Int32) (a_19 : Nat) (i_21 : Int32) (a_20 : Nat) (i_22 : Int32) (i_23 : Int32) (i_24 : Int32) (i_25 : Int32) (i_26 : Int32) (i_27 : Int32) (i_28 : Int32) (i_29 : Int32) (i_30 : Int32) (i_31 : Int32) (i_32 : Int32) (i_33 : Int32) (i_34 : Int32) (i_35 : Int32) (i_36 : Int32) (i_37 : Int32) (i_38 : Int32) (i_39 : Int32) (i_40 : Int32) (i_41 : Int32) (i_42 : Int32) (i_43 : Int32) (i_44 : Int32) (i_45 : Int32) (i_46 : Int32) (i_47 : Int32) (i_48 : Int32) (i_49 : Int32) (i_50 : Int32) (i_51 : Int32) (i_52 : Int32) (i_53 : Int32) (i_54 : Int32) (i_55 : Int32) (i_56 : Int32) (f_0 : Nat → Int32) (f_1 : Nat → Int32) (f_2 : Nat → Int32) (f_3 : Nat → Int32) (f_4 : Nat → Int32) (f_5 : Nat → Int32) (f_6 : Nat → Int32) (f_7 : Nat → Int32) (f_8 : Nat → Int32) (f_9 : Nat → Int32) (h0 : mm_rg i_15 0 8) (h1 : mm_rg i_22 0 601) (h2 : mm_rg i_23 0 601) (h3 : mm_rg i_24 0 601) (h4 : mm_rg i_25 0 601) (h5 : mm_rg i_26 0 601) (h6 : mm_rg i_27 0 10) (h7 : mm_rg i_28 0 99) (h8 : mm_rg i_29 0 9) (h9 : mm_rg i_30 0 3) (h10 : mm_rg i_31 0 6) (h11 : mm_rg i_32 0 30) (h12 : mm_rg i_33 0 10) (h13 : mm_rg i_34 0 99) (h14 : mm_rg i_35 0 9) (h15 : mm_rg i_36 0 3) (h16 : mm_rg i_37 0 6) (h17 : mm_rg i_38 0 30) (h18 : mm_rg i_39 0 10) (h19 : mm_rg i_40 0 99) (h20 : mm_rg i_41 0 9) (h21 : mm_rg i_42 0 3) (h22 : mm_rg i_43 0 6) (h23 : mm_rg i_44 0 30) (h24 : mm_rg i_45 0 10) (h25 : mm_rg i_46 0 99) (h26 : mm_rg i_47 0 9) (h27 : mm_rg i_48 0 3) (h28 : mm_rg i_49 0 6) (h29 : mm_rg i_50 0 30) (h30 : mm_rg i_51 0 10) (h31 : mm_rg i_52 0 99) (h32 : mm_rg i_53 0 9) (h33 : mm_rg i_54 0 3) (h34 : mm_rg i_55 0 6) (h35 : mm_rg i_56 0 30) (h36 : mm_ar f_0 0 99) (h37 : mm_ar f_1 0 7) (h38 : mm_ar f_2 0 9) (h39 : mm_ar f_3 0 8) (h40 : mm_ar f_4 0 9) (h41 : mm_ar f_5 (-1) 99) (h42 : mm_ar f_6 0 9) (h43 : mm_ar f_7 0 210) (h44 : mm_ar f_8 0 210) (h45 : mm_ar f_9 0 9) (h46 : mm_rls f_1 f_2 0 i_29 i_30) (h47 : mm_txs f_3 f_4 0 i_29 i_31) (h48 : mm_acs f_5 0 i_29 i_30 i_32) (h49 : mm_tl i_22 i_30 i_31) (h50 : mm_rls f_1 f_2 1 i_35 i_36) (h51 : mm_txs f_3 f_4 1 i_35 i_37) (h52 : mm_acs f_5 1 i_35 i_36 i_38) (h53 : mm_tl i_23 i_36 i_37) (h54 : mm_rls f_1 f_2 2 i_41 i_42) (h55 : mm_txs f_3 f_4 2 i_41 i_43) (h56 : mm_acs f_5 2 i_41 i_42 i_44) (h57 : mm_tl i_24 i_42 i_43) (h58 : mm_rls f_1 f_2 3 i_47 i_48) (h59 : mm_txs f_3 f_4 3 i_47 i_49) (h60 : mm_acs f_5 3 i_47 i_48 i_50) (h61 : mm_tl i_25 i_48 i_49)  : mm_CI l yX12_luck (mm_ws yX12_luck cX12_luck 8 (some .int)) ({ frames := 14, cells := 0, slots := 0, locals := 300 } : Room) G cy sz [(a_0, .inr (12, [.int i_5, .ref a_1, .ref a_2, .ref a_3, .ref a_4, .ref a_5, .int i_6, .int i_7, .int i_8, .int i_9, .int i_10, .long j_0, .int i_11, .int i_12, .int i_13, .int i_14, .ref a_6, .ref a_7, .ref a_8, .ref a_9, .ref a_10, .ref a_11, .ref a_12, .ref a_13, .ref a_14, .ref a_15, .ref a_16, .ref a_17, .ref a_18, .int i_15, .int i_16, .int i_17, .int i_18, .int i_19, .int i_20, .ref a_19, .int i_21, .ref a_20])), (a_6, .inl (cy 1, 5, .inl (mm_g [i_22, i_23, i_24, i_25, i_26]))), (a_7, .inl (cy 1, 30, .inl (mm_g [i_27, i_28, i_29, i_30, i_31, i_32, i_33, i_34, i_35, i_36, i_37, i_38, i_39, i_40, i_41, i_42, i_43, i_44, i_45, i_46, i_47, i_48, i_49, i_50, i_51, i_52, i_53, i_54, i_55, i_56]))), (a_8, .inl (cy 1, 90, .inl f_0)), (a_9, .inl (cy 1, 15, .inl f_1)), (a_10, .inl (cy 1, 1050, .inl f_2)), (a_11, .inl (cy 1, 30, .inl f_3)), (a_12, .inl (cy 1, 240, .inl f_4)), (a_13, .inl (cy 1, 450, .inl f_5)), (a_15, .inl (cy 1, 7200, .inl f_6)), (a_16, .inl (cy 1, 3, .inl f_7)), (a_17, .inl (cy 1, 3, .inl f_8)), (a_18, .inl (cy 1, 8, .inl f_9))] [.ref a_0, .int i_0, .int i_1, .int i_2, .int i_3, .int i_4] (fun u : Int32 × Int32 × Int32 × (Nat → Int32) × (Nat → Int32) × (Nat → Int32) × (Nat → Int32) => [(a_0, .inr (12, [.int 0, .ref a_1, .ref a_2, .ref a_3, .ref a_4, .ref a_5, .int i_6, .int i_7, .int i_8, .int i_9, .int i_10, .long j_0, .int i_11, .int i_12, .int i_13, .int i_14, .ref a_6, .ref a_7, .ref a_8, .ref a_9, .ref a_10, .ref a_11, .ref a_12, .ref a_13, .ref a_14, .ref a_15, .ref a_16, .ref a_17, .ref a_18, .int u.1, .int u.2.1, .int u.2.2.1, .int i_18, .int i_19, .int i_20, .ref a_19, .int i_21, .ref a_20])), (a_6, .inl (cy 1, 5, .inl (mm_g [i_22, i_23, i_24, i_25, i_26]))), (a_7, .inl (cy 1, 30, .inl (mm_g [i_27, i_28, i_29, i_30, i_31, i_32, i_33, i_34, i_35, i_36, i_37, i_38, i_39, i_40, i_41, i_42, i_43, i_44, i_45, i_46, i_47, i_48, i_49, i_50, i_51, i_52, i_53, i_54, i_55, i_56]))), (a_8, .inl (cy 1, 90, .inl f_0)), (a_9, .inl (cy 1, 15, .inl f_1)), (a_10, .inl (cy 1, 1050, .inl f_2)), (a_11, .inl (cy 1, 30, .inl f_3)), (a_12, .inl (cy 1, 240, .inl f_4)), (a_13, .inl (cy 1, 450, .inl f_5)), (a_15, .inl (cy 1, 7200, .inl u.2.2.2.1)), (a_16, .inl (cy 1, 3, .inl u.2.2.2.2.1)), (a_17, .inl (cy 1, 3, .inl u.2.2.2.2.2.1)), (a_18, .inl (cy 1, 8, .inl u.2.2.2.2.2.2))]) (fun (r : Int32) (u : Int32 × Int32 × Int32 × (Nat → Int32) × (Nat → Int32) × (Nat → Int32) × (Nat → Int32)) => mm_rg u.1 0 8 ∧ mm_ar u.2.2.2.1 0 9 ∧ mm_ar u.2.2.2.2.1 0 210 ∧ mm_ar u.2.2.2.2.2.1 0 210 ∧ mm_ar u.2.2.2.2.2.2 0 9 ∧ True) 0 0 := by
  refine mm_begin (lv := [(0, .ref a_0), (1, .int i_0), (2, .int i_1), (3, .int i_2), (4, .int i_3), (5, .int i_4)]) (by decide) (Nat.le_of_ble_eq_true rfl) rfl ?_
  intro p e s m below meth c A ls R args Q H locs hRe hQ hAe hx hb hr hlocks hml hown hnm hts hsz hA hS hP hK hD hZ hl
  have hRf : R.frames = 14 := by rw [hRe]
  have hRl : R.locals = 300 := by rw [hRe]
  have hRc : R.cells = 0 := by rw [hRe]
  have hRs : R.slots = 0 := by rw [hRe]
  refine lv_aload_n hx hb dX12_luck_0 rfl (lv_at hl 0 rfl) ?_
  refine lv_iconst (v := 0) hx hb dX12_luck_1 (by decide) ?_
  refine va_put (D := G) (ci := 12) (v := .int 0) (ty := tyX12 0) (C := RX12) (T := TX12) (N := 38) hx hb hts (mm_i inlX12) tyX12 tyX12_ok nmX12 hown hK.1 hP hD hS 0 rfl rfl 0 (by decide) (mm_h hts mm_w177) (fun _ h9 => h9) rfl (tyX12_ok 0 (by decide)) rfl rfl (Nat.le_of_ble_eq_true rfl) dX12_luck_2 ?_
  clear hP hD hS
  clear H locs
  intro H locs (hP : va_P G vwCl [(a_0, .inr (12, [.int 0, .ref a_1, .ref a_2, .ref a_3, .ref a_4, .ref a_5, .int i_6, .int i_7, .int i_8, .int i_9, .int i_10, .long j_0, .int i_11, .int i_12, .int i_13, .int i_14, .ref a_6, .ref a_7, .ref a_8, .ref a_9, .ref a_10, .ref a_11, .ref a_12, .ref a_13, .ref a_14, .ref a_15, .ref a_16, .ref a_17, .ref a_18, .int i_15, .int i_16, .int i_17, .int i_18, .int i_19, .int i_20, .ref a_19, .int i_21, .ref a_20])), (a_6, .inl (cy 1, 5, .inl (mm_g [i_22, i_23, i_24, i_25, i_26]))), (a_7, .inl (cy 1, 30, .inl (mm_g [i_27, i_28, i_29, i_30, i_31, i_32, i_33, i_34, i_35, i_36, i_37, i_38, i_39, i_40, i_41, i_42, i_43, i_44, i_45, i_46, i_47, i_48, i_49, i_50, i_51, i_52, i_53, i_54, i_55, i_56]))), (a_8, .inl (cy 1, 90, .inl f_0)), (a_9, .inl (cy 1, 15, .inl f_1)), (a_10, .inl (cy 1, 1050, .inl f_2)), (a_11, .inl (cy 1, 30, .inl f_3)), (a_12, .inl (cy 1, 240, .inl f_4)), (a_13, .inl (cy 1, 450, .inl f_5)), (a_15, .inl (cy 1, 7200, .inl f_6)), (a_16, .inl (cy 1, 3, .inl f_7)), (a_17, .inl (cy 1, 3, .inl f_8)), (a_18, .inl (cy 1, 8, .inl f_9))] H) (hD : va_D A [(a_0, .inr (12, [.int 0, .ref a_1, .ref a_2, .ref a_3, .ref a_4, .ref a_5, .int i_6, .int i_7, .int i_8, .int i_9, .int i_10, .long j_0, .int i_11, .int i_12, .int i_13, .int i_14, .ref a_6, .ref a_7, .ref a_8, .ref a_9, .ref a_10, .ref a_11, .ref a_12, .ref a_13, .ref a_14, .ref a_15, .ref a_16, .ref a_17, .ref a_18, .int i_15, .int i_16, .int i_17, .int i_18, .int i_19, .int i_20, .ref a_19, .int i_21, .ref a_20])), (a_6, .inl (cy 1, 5, .inl (mm_g [i_22, i_23, i_24, i_25, i_26]))), (a_7, .inl (cy 1, 30, .inl (mm_g [i_27, i_28, i_29, i_30, i_31, i_32, i_33, i_34, i_35, i_36, i_37, i_38, i_39, i_40, i_41, i_42, i_43, i_44, i_45, i_46, i_47, i_48, i_49, i_50, i_51, i_52, i_53, i_54, i_55, i_56]))), (a_8, .inl (cy 1, 90, .inl f_0)), (a_9, .inl (cy 1, 15, .inl f_1)), (a_10, .inl (cy 1, 1050, .inl f_2)), (a_11, .inl (cy 1, 30, .inl f_3)), (a_12, .inl (cy 1, 240, .inl f_4)), (a_13, .inl (cy 1, 450, .inl f_5)), (a_15, .inl (cy 1, 7200, .inl f_6)), (a_16, .inl (cy 1, 3, .inl f_7)), (a_17, .inl (cy 1, 3, .inl f_8)), (a_18, .inl (cy 1, 8, .inl f_9))]) hS
  refine lv_iload_n hx hb dX12_luck_5 rfl (lv_at hl 1 rfl) ?_
  refine mm_finir (va_runS (As := [.int i_0]) (rest := []) ⟨hx, hb, hml, hown, hts⟩ (M305_X12_isSeed l G cy H.size i_0 ) (va_cwS 1 hts (mm_gS mm_w1608 mm_w1609 mm_w5 mm_w1610) rfl rfl rfl hs_X12_isSeed ⟨by rw [hRf]; exact Nat.le_of_ble_eq_true rfl, by rw [hRl]; exact Nat.le_of_ble_eq_true rfl⟩) (mm_preS hK hZ hS hA hP hD [] rfl rfl) rfl rfl hl.1 rfl (lv_room (Nat.le_of_ble_eq_true rfl)) dX12_luck_6 ⟨by rw [hRc]; exact Nat.le_of_ble_eq_true rfl, by rw [hRs]; exact Nat.le_of_ble_eq_true rfl⟩) hP hD hS hA [] rfl (fun _ => rfl) ?_
  clear hP hD hS
  clear H locs
  intro v1 _u H locs hw hP hD hS
  rcases hw with rfl | ⟨rfl, w2⟩
  · refine lv_if_eq (tgt := 44) hx hb dX12_luck_9 (by decide) (fun c3 => ?_) (fun c3 => ?_)
    · refine lv_bipush (v := (-2)) hx hb dX12_luck_44 (by decide) ?_
      subst hAe
      rw [hQ]
      exact W.iret (v := (-2)) hx hb hr (fun t ht hW => ⟨⟨(-2), (i_15, i_16, i_17, f_6, f_7, f_8, f_9), rfl, ⟨h0, h42, h43, h44, h45, trivial⟩, by rw [ht]; exact hP, hK.warm hW, hD⟩, hS.F ht⟩) hS.2.2 dX12_luck_46
    · exact absurd rfl (mm_ne c3)
  · refine lv_if_eq (tgt := 44) hx hb dX12_luck_9 (by decide) (fun c4 => ?_) (fun c4 => ?_)
    · exact mm_eqN c4.symm mm_k0 mm_k1 (by decide)
    · refine lv_iload_n hx hb dX12_luck_12 rfl (lv_at hl 2 rfl) ?_
      obtain ⟨v5, ev5⟩ : ∃ y : Int64, y = i_1.toInt64 := ⟨_, rfl⟩
      refine lv_i2l hx hb dX12_luck_13 ev5.symm ?_
      have rv5 : mm_rl v5 (-2147483648) 2147483647 := mm_i2l ev5 (mm_top i_1)
      refine lv_lconst (v := 1) hx hb dX12_luck_14 (by decide) ?_
      refine lv_ldc2 (v := 20) hx hb hown (mm_h hts mm_w1628) dX12_luck_15 ?_
      refine mm_finir (va_runS (As := [.long v5, .long 1, .long 20]) (rest := []) ⟨hx, hb, hml, hown, hts⟩ (M63_X12_in l G cy H.size v5 20 ) (va_cwS 3 hts (mm_gS mm_w191 mm_w192 mm_w5 mm_w193) rfl rfl rfl hs_X12_in ⟨by rw [hRf]; exact Nat.le_of_ble_eq_true rfl, by rw [hRl]; exact Nat.le_of_ble_eq_true rfl⟩) (mm_preS hK hZ hS hA hP hD [] rfl rfl) rfl rfl hl.1 rfl (lv_room (Nat.le_of_ble_eq_true rfl)) dX12_luck_18 ⟨by rw [hRc]; exact Nat.le_of_ble_eq_true rfl, by rw [hRs]; exact Nat.le_of_ble_eq_true rfl⟩) hP hD hS hA [] rfl (fun _ => rfl) ?_
      clear hP hD hS
      clear H locs
      intro v6 _u H locs hw hP hD hS
      rcases hw with ⟨rfl, w7⟩ | ⟨rfl, w8, w9, w10, w11⟩
      · refine lv_if_eq (tgt := 44) hx hb dX12_luck_21 (by decide) (fun c12 => ?_) (fun c12 => ?_)
        · refine lv_bipush (v := (-2)) hx hb dX12_luck_44 (by decide) ?_
          subst hAe
          rw [hQ]
          exact W.iret (v := (-2)) hx hb hr (fun t ht hW => ⟨⟨(-2), (i_15, i_16, i_17, f_6, f_7, f_8, f_9), rfl, ⟨h0, h42, h43, h44, h45, trivial⟩, by rw [ht]; exact hP, hK.warm hW, hD⟩, hS.F ht⟩) hS.2.2 dX12_luck_46
        · exact absurd rfl (mm_ne c12)
      · have q13 := mm_meetl (lo := 1) (hi := 2147483647) w8 rv5 (by decide)
        have q14 := mm_meet (lo := 1) (hi := 2147483647) (mm_l2x ev5 q13) (mm_top i_1) (by decide)
        have q15 := mm_leLl w10 q13 mm_kl20
        have q16 := mm_meet (lo := 1) (hi := 20) (mm_l2x ev5 q15) q14 (by decide)
        refine lv_if_eq (tgt := 44) hx hb dX12_luck_21 (by decide) (fun c17 => ?_) (fun c17 => ?_)
        · exact mm_eqN c17.symm mm_k0 mm_k1 (by decide)
        · refine lv_aload_n hx hb dX12_luck_24 rfl (lv_at hl 0 rfl) ?_
          refine lv_iload_n hx hb dX12_luck_25 rfl (lv_at hl 3 rfl) ?_
          refine lv_iload hx hb dX12_luck_26 (lv_at hl 4 rfl) ?_
          refine mm_finir (va_runV (As := [.int i_2, .int i_3]) (rest := []) ⟨hx, hb, hml, hown, hts⟩ (M104_X12_isThen l G cy H.size a_0 i_2 i_3 0 a_1 a_2 a_3 a_4 a_5 i_6 i_7 i_8 i_9 i_10 j_0 i_11 i_12 i_13 i_14 a_6 a_7 a_8 a_9 a_10 a_11 a_12 a_13 a_14 a_15 a_16 a_17 a_18 i_15 i_16 i_17 i_18 i_19 i_20 a_19 i_21 a_20 i_27 i_28 i_29 i_30 i_31 i_32 i_33 i_34 i_35 i_36 i_37 i_38 i_39 i_40 i_41 i_42 i_43 i_44 i_45 i_46 i_47 i_48 i_49 i_50 i_51 i_52 i_53 i_54 i_55 i_56 h6 h7 h8 h9 h10 h11 h12 h13 h14 h15 h16 h17 h18 h19 h20 h21 h22 h23 h24 h25 h26 h27 h28 h29 h30 h31 h32 h33 h34 h35) (cwV 2 hts (mm_gV mm_w678 mm_w679 mm_w680 mm_w5 mm_w681) rfl rfl rfl hd_X12_isThen ⟨by rw [hRf]; exact Nat.le_of_ble_eq_true rfl, by rw [hRl]; exact Nat.le_of_ble_eq_true rfl⟩) (mm_preV hK hZ hS hA hP hD [0, 2] rfl rfl 0 rfl rfl rfl) rfl rfl hl.1 rfl (lv_room (Nat.le_of_ble_eq_true rfl)) dX12_luck_28 ⟨by rw [hRc]; exact Nat.le_of_ble_eq_true rfl, by rw [hRs]; exact Nat.le_of_ble_eq_true rfl⟩) hP hD hS hA [0, 2] rfl (fun _ => rfl) ?_
          clear hP hD hS
          clear H locs
          intro v18 _u H locs hw hP hD hS
          rcases hw with rfl | ⟨rfl, w19, w20, w21⟩
          · refine lv_if_eq (tgt := 44) hx hb dX12_luck_31 (by decide) (fun c22 => ?_) (fun c22 => ?_)
            · refine lv_bipush (v := (-2)) hx hb dX12_luck_44 (by decide) ?_
              subst hAe
              rw [hQ]
              exact W.iret (v := (-2)) hx hb hr (fun t ht hW => ⟨⟨(-2), (i_15, i_16, i_17, f_6, f_7, f_8, f_9), rfl, ⟨h0, h42, h43, h44, h45, trivial⟩, by rw [ht]; exact hP, hK.warm hW, hD⟩, hS.F ht⟩) hS.2.2 dX12_luck_46
            · exact absurd rfl (mm_ne c22)
          · have q23 := mm_ltR (lo := 1) w21 w19 h9 (by decide)
            have q24 : mm_rg i_22 1 601 := mm_tl_3 h49 q23 h1 (by decide)
            refine lv_if_eq (tgt := 44) hx hb dX12_luck_31 (by decide) (fun c25 => ?_) (fun c25 => ?_)
            · exact mm_eqN c25.symm mm_k0 mm_k1 (by decide)
            · refine lv_aload_n hx hb dX12_luck_34 rfl (lv_at hl 0 rfl) ?_
              refine lv_iload hx hb dX12_luck_35 (lv_at hl 5 rfl) ?_
              obtain ⟨v26, ev26⟩ : ∃ y : Int64, y = i_4.toInt64 := ⟨_, rfl⟩
              refine lv_i2l hx hb dX12_luck_37 ev26.symm ?_
              have rv26 : mm_rl v26 (-2147483648) 2147483647 := mm_i2l ev26 (mm_top i_4)
              refine mm_finir (va_runV (As := [.long v26]) (rest := []) ⟨hx, hb, hml, hown, hts⟩ (M96_X12_isText l G cy H.size a_0 v26 0 a_1 a_2 a_3 a_4 a_5 i_6 i_7 i_8 i_9 i_10 j_0 i_11 i_12 i_13 i_14 a_6 a_7 a_8 a_9 a_10 a_11 a_12 a_13 a_14 a_15 a_16 a_17 a_18 i_15 i_16 i_17 i_18 i_19 i_20 a_19 i_21 a_20 i_27 i_28 i_29 i_30 i_31 i_32 i_33 i_34 i_35 i_36 i_37 i_38 i_39 i_40 i_41 i_42 i_43 i_44 i_45 i_46 i_47 i_48 i_49 i_50 i_51 i_52 i_53 i_54 i_55 i_56 h6 h7 h8 (mm_wk q23 (by decide)) h10 h11 h12 h13 h14 h15 h16 h17 h18 h19 h20 h21 h22 h23 h24 h25 h26 h27 h28 h29 h30 h31 h32 h33 h34 h35) (cwV 1 hts (mm_gV mm_w613 mm_w614 mm_w615 mm_w5 mm_w616) rfl rfl rfl hd_X12_isText ⟨by rw [hRf]; exact Nat.le_of_ble_eq_true rfl, by rw [hRl]; exact Nat.le_of_ble_eq_true rfl⟩) (mm_preV hK hZ hS hA hP hD [0, 2] rfl rfl 0 rfl rfl rfl) rfl rfl hl.1 rfl (lv_room (Nat.le_of_ble_eq_true rfl)) dX12_luck_38 ⟨by rw [hRc]; exact Nat.le_of_ble_eq_true rfl, by rw [hRs]; exact Nat.le_of_ble_eq_true rfl⟩) hP hD hS hA [0, 2] rfl (fun _ => rfl) ?_
              clear hP hD hS
              clear H locs
              intro v27 _u H locs hw hP hD hS
              rcases hw with rfl | ⟨rfl, w28, w29⟩
              · refine lv_if_ne (tgt := 47) hx hb dX12_luck_41 (by decide) (fun c30 => ?_) (fun c30 => ?_)
                · exact absurd rfl (mm_ne c30)
                · refine lv_bipush (v := (-2)) hx hb dX12_luck_44 (by decide) ?_
                  subst hAe
                  rw [hQ]
                  exact W.iret (v := (-2)) hx hb hr (fun t ht hW => ⟨⟨(-2), (i_15, i_16, i_17, f_6, f_7, f_8, f_9), rfl, ⟨h0, h42, h43, h44, h45, trivial⟩, by rw [ht]; exact hP, hK.warm hW, hD⟩, hS.F ht⟩) hS.2.2 dX12_luck_46
              · have q31 := mm_meet (lo := 0) (hi := 5) (mm_l2x ev26 w28) (mm_top i_4) (by decide)
                have w32 := mm_tx_lt w29 (mm_i2lE ev26)
                have q33 := mm_ltR (lo := 1) w32 q31 h10 (by decide)
                refine lv_if_ne (tgt := 47) hx hb dX12_luck_41 (by decide) (fun c34 => ?_) (fun c34 => ?_)
                · refine lv_aload_n hx hb dX12_luck_47 rfl (lv_at hl 0 rfl) ?_
                  refine mm_finv (va_runV (As := []) (rest := []) ⟨hx, hb, hml, hown, hts⟩ (M125_X12_lays l G cy H.size a_0 0 a_1 a_2 a_3 a_4 a_5 i_6 i_7 i_8 i_9 i_10 j_0 i_11 i_12 i_13 i_14 a_6 a_7 a_8 a_9 a_10 a_11 a_12 a_13 a_14 a_15 a_16 a_17 a_18 i_15 i_16 i_17 i_18 i_19 i_20 a_19 i_21 a_20 i_22 i_23 i_24 i_25 i_26 i_27 i_28 i_29 i_30 i_31 i_32 i_33 i_34 i_35 i_36 i_37 i_38 i_39 i_40 i_41 i_42 i_43 i_44 i_45 i_46 i_47 i_48 i_49 i_50 i_51 i_52 i_53 i_54 i_55 i_56 f_1 f_2 f_5 f_6 f_7 f_8 (mm_wk q24 (by decide)) h2 h3 h4 h5 h6 h7 h8 (mm_wk q23 (by decide)) (mm_wk q33 (by decide)) h11 h12 h13 h14 h15 h16 h17 h18 h19 h20 h21 h22 h23 h24 h25 h26 h27 h28 h29 h30 h31 h32 h33 h34 h35 h37 h38 h41 h42 h43 h44 h46 h48 h49 h50 h52 h53 h54 h56 h57 h58 h60 h61) (cwV 0 hts (mm_gV mm_w686 mm_w687 mm_w688 mm_w5 mm_w689) rfl rfl rfl hd_X12_lays ⟨by rw [hRf]; exact Nat.le_of_ble_eq_true rfl, by rw [hRl]; exact Nat.le_of_ble_eq_true rfl⟩) (mm_preV hK hZ hS hA hP hD [0, 1, 2, 4, 5, 8, 9, 10, 11] rfl rfl 0 rfl rfl rfl) rfl rfl hl.1 rfl (lv_room (Nat.le_of_ble_eq_true rfl)) dX12_luck_48 ⟨by rw [hRc]; exact Nat.le_of_ble_eq_true rfl, by rw [hRs]; exact Nat.le_of_ble_eq_true rfl⟩) hP hD hS hA (fun u : (Nat → Int32) × (Nat → Int32) × (Nat → Int32) => [(a_0, .inr (12, [.int 0, .ref a_1, .ref a_2, .ref a_3, .ref a_4, .ref a_5, .int i_6, .int i_7, .int i_8, .int i_9, .int i_10, .long j_0, .int i_11, .int i_12, .int i_13, .int i_14, .ref a_6, .ref a_7, .ref a_8, .ref a_9, .ref a_10, .ref a_11, .ref a_12, .ref a_13, .ref a_14, .ref a_15, .ref a_16, .ref a_17, .ref a_18, .int i_15, .int i_16, .int i_17, .int i_18, .int i_19, .int i_20, .ref a_19, .int i_21, .ref a_20])), (a_6, .inl (cy 1, 5, .inl (mm_g [i_22, i_23, i_24, i_25, i_26]))), (a_7, .inl (cy 1, 30, .inl (mm_g [i_27, i_28, i_29, i_30, i_31, i_32, i_33, i_34, i_35, i_36, i_37, i_38, i_39, i_40, i_41, i_42, i_43, i_44, i_45, i_46, i_47, i_48, i_49, i_50, i_51, i_52, i_53, i_54, i_55, i_56]))), (a_8, .inl (cy 1, 90, .inl f_0)), (a_9, .inl (cy 1, 15, .inl f_1)), (a_10, .inl (cy 1, 1050, .inl f_2)), (a_11, .inl (cy 1, 30, .inl f_3)), (a_12, .inl (cy 1, 240, .inl f_4)), (a_13, .inl (cy 1, 450, .inl f_5)), (a_15, .inl (cy 1, 7200, .inl u.1)), (a_16, .inl (cy 1, 3, .inl u.2.1)), (a_17, .inl (cy 1, 3, .inl u.2.2)), (a_18, .inl (cy 1, 8, .inl f_9))]) [0, 1, 2, 4, 5, 8, 9, 10, 11] [3, 6, 7, 12] (n := 13) (fun _ => rfl) (by decide +kernel) (by decide +kernel) rfl (fun _ => rfl) (wr := [(a_8, .inl (cy 1, 90, .inl f_0)), (a_11, .inl (cy 1, 30, .inl f_3)), (a_12, .inl (cy 1, 240, .inl f_4)), (a_18, .inl (cy 1, 8, .inl f_9))]) rfl (fun _ => rfl) (fun _ => @rfl _ ([a_0, a_6, a_7, a_9, a_10, a_13, a_15, a_16, a_17] : List Nat)) ?_
                  clear hP hD hS
                  clear H locs
                  intro u
                  obtain ⟨n35, n36, n37⟩ := u
                  intro H locs hw (hP : va_P G vwCl [(a_0, .inr (12, [.int 0, .ref a_1, .ref a_2, .ref a_3, .ref a_4, .ref a_5, .int i_6, .int i_7, .int i_8, .int i_9, .int i_10, .long j_0, .int i_11, .int i_12, .int i_13, .int i_14, .ref a_6, .ref a_7, .ref a_8, .ref a_9, .ref a_10, .ref a_11, .ref a_12, .ref a_13, .ref a_14, .ref a_15, .ref a_16, .ref a_17, .ref a_18, .int i_15, .int i_16, .int i_17, .int i_18, .int i_19, .int i_20, .ref a_19, .int i_21, .ref a_20])), (a_6, .inl (cy 1, 5, .inl (mm_g [i_22, i_23, i_24, i_25, i_26]))), (a_7, .inl (cy 1, 30, .inl (mm_g [i_27, i_28, i_29, i_30, i_31, i_32, i_33, i_34, i_35, i_36, i_37, i_38, i_39, i_40, i_41, i_42, i_43, i_44, i_45, i_46, i_47, i_48, i_49, i_50, i_51, i_52, i_53, i_54, i_55, i_56]))), (a_8, .inl (cy 1, 90, .inl f_0)), (a_9, .inl (cy 1, 15, .inl f_1)), (a_10, .inl (cy 1, 1050, .inl f_2)), (a_11, .inl (cy 1, 30, .inl f_3)), (a_12, .inl (cy 1, 240, .inl f_4)), (a_13, .inl (cy 1, 450, .inl f_5)), (a_15, .inl (cy 1, 7200, .inl n35)), (a_16, .inl (cy 1, 3, .inl n36)), (a_17, .inl (cy 1, 3, .inl n37)), (a_18, .inl (cy 1, 8, .inl f_9))] H) (hD : va_D A [(a_0, .inr (12, [.int 0, .ref a_1, .ref a_2, .ref a_3, .ref a_4, .ref a_5, .int i_6, .int i_7, .int i_8, .int i_9, .int i_10, .long j_0, .int i_11, .int i_12, .int i_13, .int i_14, .ref a_6, .ref a_7, .ref a_8, .ref a_9, .ref a_10, .ref a_11, .ref a_12, .ref a_13, .ref a_14, .ref a_15, .ref a_16, .ref a_17, .ref a_18, .int i_15, .int i_16, .int i_17, .int i_18, .int i_19, .int i_20, .ref a_19, .int i_21, .ref a_20])), (a_6, .inl (cy 1, 5, .inl (mm_g [i_22, i_23, i_24, i_25, i_26]))), (a_7, .inl (cy 1, 30, .inl (mm_g [i_27, i_28, i_29, i_30, i_31, i_32, i_33, i_34, i_35, i_36, i_37, i_38, i_39, i_40, i_41, i_42, i_43, i_44, i_45, i_46, i_47, i_48, i_49, i_50, i_51, i_52, i_53, i_54, i_55, i_56]))), (a_8, .inl (cy 1, 90, .inl f_0)), (a_9, .inl (cy 1, 15, .inl f_1)), (a_10, .inl (cy 1, 1050, .inl f_2)), (a_11, .inl (cy 1, 30, .inl f_3)), (a_12, .inl (cy 1, 240, .inl f_4)), (a_13, .inl (cy 1, 450, .inl f_5)), (a_15, .inl (cy 1, 7200, .inl n35)), (a_16, .inl (cy 1, 3, .inl n36)), (a_17, .inl (cy 1, 3, .inl n37)), (a_18, .inl (cy 1, 8, .inl f_9))]) hS
                  obtain ⟨w38, w39, w40, w41, w42⟩ := hw
                  replace w41 : mm_laid n36 n37 i_30 := w41
                  replace w42 : mm_tab n35 n36 i_29 i_30 := w42
                  refine lv_iconst (v := 0) hx hb dX12_luck_51 (by decide) ?_
                  refine lv_istore (lv' := [(6, .int 0), (0, .ref a_0), (1, .int i_0), (2, .int i_1), (3, .int i_2), (4, .int i_3), (5, .int i_4)]) hx hb dX12_luck_52 hl (by decide) rfl ?_
                  clear hl
                  clear ls
                  intro ls hl
                  refine lv_iconst (v := 0) hx hb dX12_luck_54 (by decide) ?_
                  refine lv_istore (lv' := [(7, .int 0), (6, .int 0), (0, .ref a_0), (1, .int i_0), (2, .int i_1), (3, .int i_2), (4, .int i_3), (5, .int i_4)]) hx hb dX12_luck_55 hl (by decide) rfl ?_
                  clear hl
                  clear ls
                  intro ls hl
                  have L57_715 : ∀ (n : Nat) (x57_7_710 : Int32) (x57_6_711 : Int32) (y57_0_29_712 : Int32) (y57_0_30_713 : Int32) (y57_0_31_714 : Int32) (z57_12_715 : Nat → Int32), mm_rg x57_7_710 0 20 → mm_rg y57_0_29_712 0 8 → mm_ar z57_12_715 0 9 → (20 - x57_7_710.toInt).toNat < n → ∀ (H : Heap) (locs : List Loc), va_P G vwCl [(a_0, .inr (12, [.int 0, .ref a_1, .ref a_2, .ref a_3, .ref a_4, .ref a_5, .int i_6, .int i_7, .int i_8, .int i_9, .int i_10, .long j_0, .int i_11, .int i_12, .int i_13, .int i_14, .ref a_6, .ref a_7, .ref a_8, .ref a_9, .ref a_10, .ref a_11, .ref a_12, .ref a_13, .ref a_14, .ref a_15, .ref a_16, .ref a_17, .ref a_18, .int y57_0_29_712, .int y57_0_30_713, .int y57_0_31_714, .int i_18, .int i_19, .int i_20, .ref a_19, .int i_21, .ref a_20])), (a_6, .inl (cy 1, 5, .inl (mm_g [i_22, i_23, i_24, i_25, i_26]))), (a_7, .inl (cy 1, 30, .inl (mm_g [i_27, i_28, i_29, i_30, i_31, i_32, i_33, i_34, i_35, i_36, i_37, i_38, i_39, i_40, i_41, i_42, i_43, i_44, i_45, i_46, i_47, i_48, i_49, i_50, i_51, i_52, i_53, i_54, i_55, i_56]))), (a_8, .inl (cy 1, 90, .inl f_0)), (a_9, .inl (cy 1, 15, .inl f_1)), (a_10, .inl (cy 1, 1050, .inl f_2)), (a_11, .inl (cy 1, 30, .inl f_3)), (a_12, .inl (cy 1, 240, .inl f_4)), (a_13, .inl (cy 1, 450, .inl f_5)), (a_15, .inl (cy 1, 7200, .inl n35)), (a_16, .inl (cy 1, 3, .inl n36)), (a_17, .inl (cy 1, 3, .inl n37)), (a_18, .inl (cy 1, 8, .inl z57_12_715))] H → va_D A [(a_0, .inr (12, [.int 0, .ref a_1, .ref a_2, .ref a_3, .ref a_4, .ref a_5, .int i_6, .int i_7, .int i_8, .int i_9, .int i_10, .long j_0, .int i_11, .int i_12, .int i_13, .int i_14, .ref a_6, .ref a_7, .ref a_8, .ref a_9, .ref a_10, .ref a_11, .ref a_12, .ref a_13, .ref a_14, .ref a_15, .ref a_16, .ref a_17, .ref a_18, .int y57_0_29_712, .int y57_0_30_713, .int y57_0_31_714, .int i_18, .int i_19, .int i_20, .ref a_19, .int i_21, .ref a_20])), (a_6, .inl (cy 1, 5, .inl (mm_g [i_22, i_23, i_24, i_25, i_26]))), (a_7, .inl (cy 1, 30, .inl (mm_g [i_27, i_28, i_29, i_30, i_31, i_32, i_33, i_34, i_35, i_36, i_37, i_38, i_39, i_40, i_41, i_42, i_43, i_44, i_45, i_46, i_47, i_48, i_49, i_50, i_51, i_52, i_53, i_54, i_55, i_56]))), (a_8, .inl (cy 1, 90, .inl f_0)), (a_9, .inl (cy 1, 15, .inl f_1)), (a_10, .inl (cy 1, 1050, .inl f_2)), (a_11, .inl (cy 1, 30, .inl f_3)), (a_12, .inl (cy 1, 240, .inl f_4)), (a_13, .inl (cy 1, 450, .inl f_5)), (a_15, .inl (cy 1, 7200, .inl n35)), (a_16, .inl (cy 1, 3, .inl n36)), (a_17, .inl (cy 1, 3, .inl n37)), (a_18, .inl (cy 1, 8, .inl z57_12_715))] → va_S A s.heap H locs → ∀ (ls : Array Slot), lv_has ls 8 [(7, .int x57_7_710), (6, .int x57_6_711), (0, .ref a_0), (1, .int i_0), (2, .int i_1), (3, .int i_2), (4, .int i_3), (5, .int i_4)] → W p l e R s m args below meth c H locs 0 0 Q (F0 m 57 ls []) := by
                    intro n
                    induction n with
                    | zero => intro x57_7_710 x57_6_711 y57_0_29_712 y57_0_30_713 y57_0_31_714 z57_12_715 rx57_7_710 ry57_0_29_712 rz57_12_715 hm; exact absurd hm (Nat.not_lt_zero _)
                    | succ n ih57 =>
                      intro x57_7_710 x57_6_711 y57_0_29_712 y57_0_30_713 y57_0_31_714 z57_12_715 rx57_7_710 ry57_0_29_712 rz57_12_715 hm57 H locs hP hD hS ls hl
                      refine lv_iload hx hb dX12_luck_57 (lv_at hl 0 rfl) ?_
                      refine lv_iload_n hx hb dX12_luck_59 rfl (lv_at hl 4 rfl) ?_
                      refine lv_icmp_ge (tgt := 108) hx hb dX12_luck_60 (by decide) (fun c717 => ?_) (fun c717 => ?_)
                      · have q718 := mm_leR (mm_le c717) q16 rx57_7_710
                        refine lv_iload hx hb dX12_luck_108 (lv_at hl 1 rfl) ?_
                        subst hAe
                        rw [hQ]
                        exact W.iret (v := x57_6_711) hx hb hr (fun t ht hW => ⟨⟨x57_6_711, (y57_0_29_712, y57_0_30_713, y57_0_31_714, n35, n36, n37, z57_12_715), rfl, ⟨ry57_0_29_712, w38, w39, w40, rz57_12_715, trivial⟩, by rw [ht]; exact hP, hK.warm hW, hD⟩, hS.F ht⟩) hS.2.2 dX12_luck_110
                      · have q719 := mm_ltL (h := 19) (mm_nle c717) rx57_7_710 q16 (by decide)
                        refine lv_iload hx hb dX12_luck_63 (lv_at hl 1 rfl) ?_
                        refine lv_aload_n hx hb dX12_luck_65 rfl (lv_at hl 2 rfl) ?_
                        refine lv_iload_n hx hb dX12_luck_66 rfl (lv_at hl 5 rfl) ?_
                        refine lv_iload hx hb dX12_luck_67 (lv_at hl 6 rfl) ?_
                        refine lv_aload_n hx hb dX12_luck_69 rfl (lv_at hl 2 rfl) ?_
                        refine lv_iload_n hx hb dX12_luck_70 rfl (lv_at hl 3 rfl) ?_
                        obtain ⟨v720, ev720⟩ : ∃ y : Int64, y = i_0.toInt64 := ⟨_, rfl⟩
                        refine lv_i2l hx hb dX12_luck_71 ev720.symm ?_
                        have rv720 : mm_rl v720 0 2000000000 := mm_i2l ev720 w2
                        refine lv_iload hx hb dX12_luck_72 (lv_at hl 0 rfl) ?_
                        obtain ⟨v721, ev721⟩ : ∃ y : Int64, y = x57_7_710.toInt64 := ⟨_, rfl⟩
                        refine lv_i2l hx hb dX12_luck_74 ev721.symm ?_
                        have rv721 : mm_rl v721 0 19 := mm_i2l ev721 q719
                        refine lv_ladd hx hb dX12_luck_75 ?_
                        refine lv_topl (fun v722 ev722 => ?_)
                        have rv722 : mm_rl v722 0 2000000019 := mm_addl ev722 rv720 rv721 (by decide) (by decide)
                        have tv722 := mm_addlE ev722 rv720 rv721 (by decide)
                        refine lv_bipush (v := 7) hx hb dX12_luck_76 (by decide) ?_
                        refine mm_finir (va_runV (As := [.long v722, .int 7]) (rest := [.int i_3, .int i_2, .ref a_0, .int x57_6_711]) ⟨hx, hb, hml, hown, hts⟩ (M319_X12_drawnOf l G cy H.size a_0 v722 0 a_1 a_2 a_3 a_4 a_5 i_6 i_7 i_8 i_9 i_10 j_0 i_11 i_12 i_13 i_14 a_6 a_7 a_8 a_9 a_10 a_11 a_12 a_13 a_14 a_15 a_16 a_17 a_18 y57_0_29_712 y57_0_30_713 y57_0_31_714 i_18 i_19 i_20 a_19 i_21 a_20 i_27 i_28 i_29 i_30 i_31 i_32 i_33 i_34 i_35 i_36 i_37 i_38 i_39 i_40 i_41 i_42 i_43 i_44 i_45 i_46 i_47 i_48 i_49 i_50 i_51 i_52 i_53 i_54 i_55 i_56 rv722 h6 h7 h8 (mm_wk q23 (by decide)) (mm_wk q33 (by decide)) h11 h12 h13 h14 h15 h16 h17 h18 h19 h20 h21 h22 h23 h24 h25 h26 h27 h28 h29 h30 h31 h32 h33 h34 h35) (cwV 2 hts (mm_gV mm_w1612 mm_w1613 mm_w1614 mm_w5 mm_w1615) rfl rfl rfl hd_X12_drawnOf ⟨by rw [hRf]; exact Nat.le_of_ble_eq_true rfl, by rw [hRl]; exact Nat.le_of_ble_eq_true rfl⟩) (mm_preV hK hZ hS hA hP hD [0, 2] rfl rfl 0 rfl rfl rfl) rfl rfl hl.1 rfl (lv_room (Nat.le_of_ble_eq_true rfl)) dX12_luck_78 ⟨by rw [hRc]; exact Nat.le_of_ble_eq_true rfl, by rw [hRs]; exact Nat.le_of_ble_eq_true rfl⟩) hP hD hS hA [0, 2] rfl (fun _ => rfl) ?_
                        clear hP hD hS
                        clear H locs
                        intro v723 _u H locs hw hP hD hS
                        have w724 := hw
                        refine lv_iadd hx hb dX12_luck_81 ?_
                        refine lv_topi (fun v725 ev725 => ?_)
                        have rv725 : mm_rg v725 0 1000000007 := mm_add ev725 w20 w724 (by decide) (by decide)
                        have tv725 := mm_addE ev725 w20 w724 (by decide)
                        refine lv_iload hx hb dX12_luck_82 (lv_at hl 7 rfl) ?_
                        refine mm_fini (va_runV (As := [.int i_2, .int v725, .int i_4]) (rest := [.int x57_6_711]) ⟨hx, hb, hml, hown, hts⟩ (M141_X12_reads l G cy H.size a_0 i_2 v725 i_4 0 a_1 a_2 a_3 a_4 a_5 i_6 i_7 i_8 i_9 i_10 j_0 i_11 i_12 i_13 i_14 a_6 a_7 a_8 a_9 a_10 a_11 a_12 a_13 a_14 a_15 a_16 a_17 a_18 y57_0_29_712 y57_0_30_713 y57_0_31_714 i_18 i_19 i_20 a_19 i_21 a_20 i_27 i_28 i_29 i_30 i_31 i_32 i_33 i_34 i_35 i_36 i_37 i_38 i_39 i_40 i_41 i_42 i_43 i_44 i_45 i_46 i_47 i_48 i_49 i_50 i_51 i_52 i_53 i_54 i_55 i_56 f_0 f_3 f_4 f_5 n35 n36 z57_12_715 w19 (mm_wk rv725 (by decide)) q31 ry57_0_29_712 h6 h7 h8 (mm_wk q23 (by decide)) (mm_wk q33 (by decide)) h11 h12 h13 h14 h15 h16 h17 h18 h19 h20 h21 h22 h23 h24 h25 h26 h27 h28 h29 h30 h31 h32 h33 h34 h35 h36 h39 h40 h41 w38 w39 rz57_12_715 h47 h48 h51 h52 h55 h56 h59 h60 (mm_f1_l w41 w21 w19 (by decide))) (cwV 3 hts (mm_gV mm_w852 mm_w853 mm_w854 mm_w5 mm_w855) rfl rfl rfl hd_X12_reads ⟨by rw [hRf]; exact Nat.le_of_ble_eq_true rfl, by rw [hRl]; exact Nat.le_of_ble_eq_true rfl⟩) (mm_preV hK hZ hS hA hP hD [0, 2, 3, 6, 7, 8, 9, 10, 12] rfl rfl 0 rfl rfl rfl) rfl rfl hl.1 rfl (lv_room (Nat.le_of_ble_eq_true rfl)) dX12_luck_84 ⟨by rw [hRc]; exact Nat.le_of_ble_eq_true rfl, by rw [hRs]; exact Nat.le_of_ble_eq_true rfl⟩) hP hD hS hA (fun u : Int32 × Int32 × Int32 × (Nat → Int32) => [(a_0, .inr (12, [.int 0, .ref a_1, .ref a_2, .ref a_3, .ref a_4, .ref a_5, .int i_6, .int i_7, .int i_8, .int i_9, .int i_10, .long j_0, .int i_11, .int i_12, .int i_13, .int i_14, .ref a_6, .ref a_7, .ref a_8, .ref a_9, .ref a_10, .ref a_11, .ref a_12, .ref a_13, .ref a_14, .ref a_15, .ref a_16, .ref a_17, .ref a_18, .int u.1, .int u.2.1, .int u.2.2.1, .int i_18, .int i_19, .int i_20, .ref a_19, .int i_21, .ref a_20])), (a_6, .inl (cy 1, 5, .inl (mm_g [i_22, i_23, i_24, i_25, i_26]))), (a_7, .inl (cy 1, 30, .inl (mm_g [i_27, i_28, i_29, i_30, i_31, i_32, i_33, i_34, i_35, i_36, i_37, i_38, i_39, i_40, i_41, i_42, i_43, i_44, i_45, i_46, i_47, i_48, i_49, i_50, i_51, i_52, i_53, i_54, i_55, i_56]))), (a_8, .inl (cy 1, 90, .inl f_0)), (a_9, .inl (cy 1, 15, .inl f_1)), (a_10, .inl (cy 1, 1050, .inl f_2)), (a_11, .inl (cy 1, 30, .inl f_3)), (a_12, .inl (cy 1, 240, .inl f_4)), (a_13, .inl (cy 1, 450, .inl f_5)), (a_15, .inl (cy 1, 7200, .inl n35)), (a_16, .inl (cy 1, 3, .inl n36)), (a_17, .inl (cy 1, 3, .inl n37)), (a_18, .inl (cy 1, 8, .inl u.2.2.2))]) [0, 2, 3, 6, 7, 8, 9, 10, 12] [1, 4, 5, 11] (n := 13) (fun _ => rfl) (by decide +kernel) (by decide +kernel) rfl (fun _ => rfl) (wr := [(a_6, .inl (cy 1, 5, .inl (mm_g [i_22, i_23, i_24, i_25, i_26]))), (a_9, .inl (cy 1, 15, .inl f_1)), (a_10, .inl (cy 1, 1050, .inl f_2)), (a_17, .inl (cy 1, 3, .inl n37))]) rfl (fun _ => rfl) (fun _ => @rfl _ ([a_0, a_7, a_8, a_11, a_12, a_13, a_15, a_16, a_18] : List Nat)) ?_
                        clear hP hD hS
                        clear H locs
                        intro v730 u
                        obtain ⟨n726, n727, n728, n729⟩ := u
                        intro H locs hw (hP : va_P G vwCl [(a_0, .inr (12, [.int 0, .ref a_1, .ref a_2, .ref a_3, .ref a_4, .ref a_5, .int i_6, .int i_7, .int i_8, .int i_9, .int i_10, .long j_0, .int i_11, .int i_12, .int i_13, .int i_14, .ref a_6, .ref a_7, .ref a_8, .ref a_9, .ref a_10, .ref a_11, .ref a_12, .ref a_13, .ref a_14, .ref a_15, .ref a_16, .ref a_17, .ref a_18, .int n726, .int n727, .int n728, .int i_18, .int i_19, .int i_20, .ref a_19, .int i_21, .ref a_20])), (a_6, .inl (cy 1, 5, .inl (mm_g [i_22, i_23, i_24, i_25, i_26]))), (a_7, .inl (cy 1, 30, .inl (mm_g [i_27, i_28, i_29, i_30, i_31, i_32, i_33, i_34, i_35, i_36, i_37, i_38, i_39, i_40, i_41, i_42, i_43, i_44, i_45, i_46, i_47, i_48, i_49, i_50, i_51, i_52, i_53, i_54, i_55, i_56]))), (a_8, .inl (cy 1, 90, .inl f_0)), (a_9, .inl (cy 1, 15, .inl f_1)), (a_10, .inl (cy 1, 1050, .inl f_2)), (a_11, .inl (cy 1, 30, .inl f_3)), (a_12, .inl (cy 1, 240, .inl f_4)), (a_13, .inl (cy 1, 450, .inl f_5)), (a_15, .inl (cy 1, 7200, .inl n35)), (a_16, .inl (cy 1, 3, .inl n36)), (a_17, .inl (cy 1, 3, .inl n37)), (a_18, .inl (cy 1, 8, .inl n729))] H) (hD : va_D A [(a_0, .inr (12, [.int 0, .ref a_1, .ref a_2, .ref a_3, .ref a_4, .ref a_5, .int i_6, .int i_7, .int i_8, .int i_9, .int i_10, .long j_0, .int i_11, .int i_12, .int i_13, .int i_14, .ref a_6, .ref a_7, .ref a_8, .ref a_9, .ref a_10, .ref a_11, .ref a_12, .ref a_13, .ref a_14, .ref a_15, .ref a_16, .ref a_17, .ref a_18, .int n726, .int n727, .int n728, .int i_18, .int i_19, .int i_20, .ref a_19, .int i_21, .ref a_20])), (a_6, .inl (cy 1, 5, .inl (mm_g [i_22, i_23, i_24, i_25, i_26]))), (a_7, .inl (cy 1, 30, .inl (mm_g [i_27, i_28, i_29, i_30, i_31, i_32, i_33, i_34, i_35, i_36, i_37, i_38, i_39, i_40, i_41, i_42, i_43, i_44, i_45, i_46, i_47, i_48, i_49, i_50, i_51, i_52, i_53, i_54, i_55, i_56]))), (a_8, .inl (cy 1, 90, .inl f_0)), (a_9, .inl (cy 1, 15, .inl f_1)), (a_10, .inl (cy 1, 1050, .inl f_2)), (a_11, .inl (cy 1, 30, .inl f_3)), (a_12, .inl (cy 1, 240, .inl f_4)), (a_13, .inl (cy 1, 450, .inl f_5)), (a_15, .inl (cy 1, 7200, .inl n35)), (a_16, .inl (cy 1, 3, .inl n36)), (a_17, .inl (cy 1, 3, .inl n37)), (a_18, .inl (cy 1, 8, .inl n729))]) hS
                        obtain ⟨w731, w732, hw⟩ := hw
                        obtain ⟨w733, w734⟩ := hw
                        replace w734 : mm_rd n35 n36 f_0 f_3 f_4 f_5 i_2 v725 i_4 i_28 i_29 i_32 v730 := w734
                        refine lv_aload_n hx hb dX12_luck_87 rfl (lv_at hl 2 rfl) ?_
                        refine mm_finir (va_runV (As := []) (rest := [.int v730, .int x57_6_711]) ⟨hx, hb, hml, hown, hts⟩ (M139_X12_stockNow l G cy H.size a_0 0 a_1 a_2 a_3 a_4 a_5 i_6 i_7 i_8 i_9 i_10 j_0 i_11 i_12 i_13 i_14 a_6 a_7 a_8 a_9 a_10 a_11 a_12 a_13 a_14 a_15 a_16 a_17 a_18 n726 n727 n728 i_18 i_19 i_20 a_19 i_21 a_20 i_27 i_28 i_29 i_30 i_31 i_32 i_33 i_34 i_35 i_36 i_37 i_38 i_39 i_40 i_41 i_42 i_43 i_44 i_45 i_46 i_47 i_48 i_49 i_50 i_51 i_52 i_53 i_54 i_55 i_56 f_5 h6 h7 h8 (mm_wk q23 (by decide)) (mm_wk q33 (by decide)) h11 h12 h13 h14 h15 h16 h17 h18 h19 h20 h21 h22 h23 h24 h25 h26 h27 h28 h29 h30 h31 h32 h33 h34 h35 h41 h48 h52 h56 h60) (cwV 0 hts (mm_gV mm_w861 mm_w862 mm_w863 mm_w5 mm_w864) rfl rfl rfl hd_X12_stockNow ⟨by rw [hRf]; exact Nat.le_of_ble_eq_true rfl, by rw [hRl]; exact Nat.le_of_ble_eq_true rfl⟩) (mm_preV hK hZ hS hA hP hD [0, 2, 8] rfl rfl 0 rfl rfl rfl) rfl rfl hl.1 rfl (lv_room (Nat.le_of_ble_eq_true rfl)) dX12_luck_88 ⟨by rw [hRc]; exact Nat.le_of_ble_eq_true rfl, by rw [hRs]; exact Nat.le_of_ble_eq_true rfl⟩) hP hD hS hA [0, 2, 8] rfl (fun _ => rfl) ?_
                        clear hP hD hS
                        clear H locs
                        intro v735 _u H locs hw hP hD hS
                        obtain ⟨w736, w737⟩ := hw
                        refine lv_icmp_le (tgt := 98) hx hb dX12_luck_91 (by decide) (fun c738 => ?_) (fun c738 => ?_)
                        · have q739 := mm_leL (mm_le c738) w733 w736
                          refine lv_iconst (v := 0) hx hb dX12_luck_98 (by decide) ?_
                          refine lv_iadd hx hb dX12_luck_99 ?_
                          refine lv_topi (fun v740 ev740 => ?_)
                          have rv740 : mm_rg v740 (-2147483648) 2147483647 := mm_add ev740 (mm_top x57_6_711) mm_k0 (by decide) (by decide)
                          have tv740 := mm_addEc ev740 (mm_top x57_6_711) mm_k0 (by decide) (k := 0) (by decide)
                          refine lv_istore (lv' := [(6, .int v740), (7, .int x57_7_710), (0, .ref a_0), (1, .int i_0), (2, .int i_1), (3, .int i_2), (4, .int i_3), (5, .int i_4)]) hx hb dX12_luck_100 hl (by decide) rfl ?_
                          clear hl
                          clear ls
                          intro ls hl
                          obtain ⟨v741, ev741⟩ : ∃ y : Int32, y = x57_7_710 + 1 := ⟨_, rfl⟩
                          refine lv_iinc (v := v741) (lv' := [(7, .int v741), (6, .int v740), (0, .ref a_0), (1, .int i_0), (2, .int i_1), (3, .int i_2), (4, .int i_3), (5, .int i_4)]) hx hb dX12_luck_102 hl (k := 1) rfl (by rw [ev741]; rfl) (by decide) rfl ?_
                          clear hl
                          clear ls
                          intro ls hl
                          have rv741 : mm_rg v741 1 20 := mm_add ev741 q719 mm_k1 (by decide) (by decide)
                          have tv741 := mm_addEc ev741 q719 mm_k1 (by decide) (k := 1) (by decide)
                          refine lv_goto (tgt := 57) hx hb dX12_luck_105 (by decide) ?_
                          exact ih57 v741 v740 n726 n727 n728 n729 (mm_wk rv741 (by decide)) w731 w732 (mm_mu hm57 tv741 (by decide) (rv741).2 (by decide)) H locs hP hD hS ls (lv_sub hl [0, 1, 2, 3, 4, 5, 6, 7] rfl)
                        · have q742 := mm_ltR (lo := 1) (mm_nle c738) w736 w733 (by decide)
                          refine lv_iconst (v := 1) hx hb dX12_luck_94 (by decide) ?_
                          refine lv_goto (tgt := 99) hx hb dX12_luck_95 (by decide) ?_
                          refine lv_iadd hx hb dX12_luck_99 ?_
                          refine lv_topi (fun v743 ev743 => ?_)
                          refine lv_istore (lv' := [(6, .int v743), (7, .int x57_7_710), (0, .ref a_0), (1, .int i_0), (2, .int i_1), (3, .int i_2), (4, .int i_3), (5, .int i_4)]) hx hb dX12_luck_100 hl (by decide) rfl ?_
                          clear hl
                          clear ls
                          intro ls hl
                          obtain ⟨v744, ev744⟩ : ∃ y : Int32, y = x57_7_710 + 1 := ⟨_, rfl⟩
                          refine lv_iinc (v := v744) (lv' := [(7, .int v744), (6, .int v743), (0, .ref a_0), (1, .int i_0), (2, .int i_1), (3, .int i_2), (4, .int i_3), (5, .int i_4)]) hx hb dX12_luck_102 hl (k := 1) rfl (by rw [ev744]; rfl) (by decide) rfl ?_
                          clear hl
                          clear ls
                          intro ls hl
                          have rv744 : mm_rg v744 1 20 := mm_add ev744 q719 mm_k1 (by decide) (by decide)
                          have tv744 := mm_addEc ev744 q719 mm_k1 (by decide) (k := 1) (by decide)
                          refine lv_goto (tgt := 57) hx hb dX12_luck_105 (by decide) ?_
                          exact ih57 v744 v743 n726 n727 n728 n729 (mm_wk rv744 (by decide)) w731 w732 (mm_mu hm57 tv744 (by decide) (rv744).2 (by decide)) H locs hP hD hS ls (lv_sub hl [0, 1, 2, 3, 4, 5, 6, 7] rfl)
                  exact L57_715 _ 0 0 i_15 i_16 i_17 f_9 (mm_wk mm_k0 (by decide)) h0 h45 (Nat.lt_succ_self _) H locs hP hD hS ls (lv_sub hl [0, 1, 2, 3, 4, 5, 6, 7] rfl)
                · exact mm_eqN c34.symm mm_k0 mm_k1 (by decide)

