theorem dX12_agree_0 : decode cX12_agree 0 = .ok (.aload_n 0, 1) := by decide +kernel
theorem dX12_agree_1 : decode cX12_agree 1 = .ok (.iconst 0, 1) := by decide +kernel
theorem dX12_agree_2 : decode cX12_agree 2 = .ok (.putfield 77, 3) := by decide +kernel
theorem dX12_agree_5 : decode cX12_agree 5 = .ok (.aload_n 0, 1) := by decide +kernel
theorem dX12_agree_6 : decode cX12_agree 6 = .ok (.iload_n 1, 1) := by decide +kernel
theorem dX12_agree_7 : decode cX12_agree 7 = .ok (.invokevirtual 265, 3) := by decide +kernel
theorem dX12_agree_10 : decode cX12_agree 10 = .ok (.ifCond .eq 21, 3) := by decide +kernel
theorem dX12_agree_13 : decode cX12_agree 13 = .ok (.aload_n 0, 1) := by decide +kernel
theorem dX12_agree_14 : decode cX12_agree 14 = .ok (.iload_n 2, 1) := by decide +kernel
theorem dX12_agree_15 : decode cX12_agree 15 = .ok (.i2l, 1) := by decide +kernel
theorem dX12_agree_16 : decode cX12_agree 16 = .ok (.invokevirtual 317, 3) := by decide +kernel
theorem dX12_agree_19 : decode cX12_agree 19 = .ok (.ifCond .eq 12, 3) := by decide +kernel
theorem dX12_agree_22 : decode cX12_agree 22 = .ok (.aload_n 0, 1) := by decide +kernel
theorem dX12_agree_23 : decode cX12_agree 23 = .ok (.iload_n 3, 1) := by decide +kernel
theorem dX12_agree_24 : decode cX12_agree 24 = .ok (.i2l, 1) := by decide +kernel
theorem dX12_agree_25 : decode cX12_agree 25 = .ok (.invokevirtual 317, 3) := by decide +kernel
theorem dX12_agree_28 : decode cX12_agree 28 = .ok (.ifCond .ne 6, 3) := by decide +kernel
theorem dX12_agree_31 : decode cX12_agree 31 = .ok (.bipush (-2), 2) := by decide +kernel
theorem dX12_agree_33 : decode cX12_agree 33 = .ok (.ireturn, 1) := by decide +kernel
theorem dX12_agree_34 : decode cX12_agree 34 = .ok (.aload_n 0, 1) := by decide +kernel
theorem dX12_agree_35 : decode cX12_agree 35 = .ok (.invokevirtual 326, 3) := by decide +kernel
theorem dX12_agree_38 : decode cX12_agree 38 = .ok (.iconst 0, 1) := by decide +kernel
theorem dX12_agree_39 : decode cX12_agree 39 = .ok (.istore 4, 2) := by decide +kernel
theorem dX12_agree_41 : decode cX12_agree 41 = .ok (.iload 4, 2) := by decide +kernel
theorem dX12_agree_43 : decode cX12_agree 43 = .ok (.aload_n 0, 1) := by decide +kernel
theorem dX12_agree_44 : decode cX12_agree 44 = .ok (.getfield 62, 3) := by decide +kernel
theorem dX12_agree_47 : decode cX12_agree 47 = .ok (.iload_n 1, 1) := by decide +kernel
theorem dX12_agree_48 : decode cX12_agree 48 = .ok (.iaload, 1) := by decide +kernel
theorem dX12_agree_49 : decode cX12_agree 49 = .ok (.if_icmp .ge 31, 3) := by decide +kernel
theorem dX12_agree_52 : decode cX12_agree 52 = .ok (.aload_n 0, 1) := by decide +kernel
theorem dX12_agree_53 : decode cX12_agree 53 = .ok (.iload_n 1, 1) := by decide +kernel
theorem dX12_agree_54 : decode cX12_agree 54 = .ok (.iload 4, 2) := by decide +kernel
theorem dX12_agree_56 : decode cX12_agree 56 = .ok (.iload_n 2, 1) := by decide +kernel
theorem dX12_agree_57 : decode cX12_agree 57 = .ok (.invokevirtual 338, 3) := by decide +kernel
theorem dX12_agree_60 : decode cX12_agree 60 = .ok (.aload_n 0, 1) := by decide +kernel
theorem dX12_agree_61 : decode cX12_agree 61 = .ok (.iload_n 1, 1) := by decide +kernel
theorem dX12_agree_62 : decode cX12_agree 62 = .ok (.iload 4, 2) := by decide +kernel
theorem dX12_agree_64 : decode cX12_agree 64 = .ok (.iload_n 3, 1) := by decide +kernel
theorem dX12_agree_65 : decode cX12_agree 65 = .ok (.invokevirtual 338, 3) := by decide +kernel
theorem dX12_agree_68 : decode cX12_agree 68 = .ok (.if_icmp .ne 6, 3) := by decide +kernel
theorem dX12_agree_71 : decode cX12_agree 71 = .ok (.iload 4, 2) := by decide +kernel
theorem dX12_agree_73 : decode cX12_agree 73 = .ok (.ireturn, 1) := by decide +kernel
theorem dX12_agree_74 : decode cX12_agree 74 = .ok (.iinc 4 1, 3) := by decide +kernel
theorem dX12_agree_77 : decode cX12_agree 77 = .ok (.goto (-36), 3) := by decide +kernel
theorem dX12_agree_80 : decode cX12_agree 80 = .ok (.iconst (-1), 1) := by decide +kernel
theorem dX12_agree_81 : decode cX12_agree 81 = .ok (.ireturn, 1) := by decide +kernel
theorem dX12_average_0 : decode cX12_average 0 = .ok (.aload_n 0, 1) := by decide +kernel
theorem dX12_average_1 : decode cX12_average 1 = .ok (.iconst 0, 1) := by decide +kernel
theorem dX12_average_2 : decode cX12_average 2 = .ok (.putfield 77, 3) := by decide +kernel
theorem dX12_average_5 : decode cX12_average 5 = .ok (.aload_n 0, 1) := by decide +kernel
theorem dX12_average_6 : decode cX12_average 6 = .ok (.iload_n 1, 1) := by decide +kernel
theorem dX12_average_7 : decode cX12_average 7 = .ok (.invokevirtual 265, 3) := by decide +kernel
theorem dX12_average_10 : decode cX12_average 10 = .ok (.ifCond .eq 19, 3) := by decide +kernel
theorem dX12_average_13 : decode cX12_average 13 = .ok (.aload_n 0, 1) := by decide +kernel
theorem dX12_average_14 : decode cX12_average 14 = .ok (.iload_n 2, 1) := by decide +kernel
theorem dX12_average_15 : decode cX12_average 15 = .ok (.i2l, 1) := by decide +kernel
theorem dX12_average_16 : decode cX12_average 16 = .ok (.invokevirtual 317, 3) := by decide +kernel
theorem dX12_average_19 : decode cX12_average 19 = .ok (.ifCond .eq 10, 3) := by decide +kernel
theorem dX12_average_22 : decode cX12_average 22 = .ok (.iload_n 3, 1) := by decide +kernel
theorem dX12_average_23 : decode cX12_average 23 = .ok (.invokestatic 314, 3) := by decide +kernel
theorem dX12_average_26 : decode cX12_average 26 = .ok (.ifCond .ne 6, 3) := by decide +kernel
theorem dX12_average_29 : decode cX12_average 29 = .ok (.bipush (-2), 2) := by decide +kernel
theorem dX12_average_31 : decode cX12_average 31 = .ok (.ireturn, 1) := by decide +kernel
theorem dX12_average_32 : decode cX12_average 32 = .ok (.aload_n 0, 1) := by decide +kernel
theorem dX12_average_33 : decode cX12_average 33 = .ok (.invokevirtual 326, 3) := by decide +kernel
theorem dX12_average_36 : decode cX12_average 36 = .ok (.lconst 0, 1) := by decide +kernel
theorem dX12_average_37 : decode cX12_average 37 = .ok (.lstore 4, 2) := by decide +kernel
theorem dX12_average_39 : decode cX12_average 39 = .ok (.iconst 0, 1) := by decide +kernel
theorem dX12_average_40 : decode cX12_average 40 = .ok (.istore 6, 2) := by decide +kernel
theorem dX12_average_42 : decode cX12_average 42 = .ok (.iload 6, 2) := by decide +kernel
theorem dX12_average_44 : decode cX12_average 44 = .ok (.aload_n 0, 1) := by decide +kernel
theorem dX12_average_45 : decode cX12_average 45 = .ok (.getfield 65, 3) := by decide +kernel
theorem dX12_average_48 : decode cX12_average 48 = .ok (.iload_n 1, 1) := by decide +kernel
theorem dX12_average_49 : decode cX12_average 49 = .ok (.iaload, 1) := by decide +kernel
theorem dX12_average_50 : decode cX12_average 50 = .ok (.if_icmp .ge 23, 3) := by decide +kernel
theorem dX12_average_53 : decode cX12_average 53 = .ok (.lload 4, 2) := by decide +kernel
theorem dX12_average_55 : decode cX12_average 55 = .ok (.aload_n 0, 1) := by decide +kernel
theorem dX12_average_56 : decode cX12_average 56 = .ok (.iload_n 1, 1) := by decide +kernel
theorem dX12_average_57 : decode cX12_average 57 = .ok (.iload 6, 2) := by decide +kernel
theorem dX12_average_59 : decode cX12_average 59 = .ok (.iload_n 2, 1) := by decide +kernel
theorem dX12_average_60 : decode cX12_average 60 = .ok (.invokevirtual 338, 3) := by decide +kernel
theorem dX12_average_63 : decode cX12_average 63 = .ok (.i2l, 1) := by decide +kernel
theorem dX12_average_64 : decode cX12_average 64 = .ok (.ladd, 1) := by decide +kernel
theorem dX12_average_65 : decode cX12_average 65 = .ok (.lstore 4, 2) := by decide +kernel
theorem dX12_average_67 : decode cX12_average 67 = .ok (.iinc 6 1, 3) := by decide +kernel
theorem dX12_average_70 : decode cX12_average 70 = .ok (.goto (-28), 3) := by decide +kernel
theorem dX12_average_73 : decode cX12_average 73 = .ok (.lload 4, 2) := by decide +kernel
theorem dX12_average_75 : decode cX12_average 75 = .ok (.aload_n 0, 1) := by decide +kernel
theorem dX12_average_76 : decode cX12_average 76 = .ok (.getfield 65, 3) := by decide +kernel
theorem dX12_average_79 : decode cX12_average 79 = .ok (.iload_n 1, 1) := by decide +kernel
theorem dX12_average_80 : decode cX12_average 80 = .ok (.iaload, 1) := by decide +kernel
theorem dX12_average_81 : decode cX12_average 81 = .ok (.i2l, 1) := by decide +kernel
theorem dX12_average_82 : decode cX12_average 82 = .ok (.iload_n 3, 1) := by decide +kernel
theorem dX12_average_83 : decode cX12_average 83 = .ok (.invokestatic 359, 3) := by decide +kernel
theorem dX12_average_86 : decode cX12_average 86 = .ok (.l2i, 1) := by decide +kernel
theorem dX12_average_87 : decode cX12_average 87 = .ok (.ireturn, 1) := by decide +kernel
theorem dX12_clear_0 : decode cX12_clear 0 = .ok (.aload_n 0, 1) := by decide +kernel
theorem dX12_clear_1 : decode cX12_clear 1 = .ok (.iconst 0, 1) := by decide +kernel
theorem dX12_clear_2 : decode cX12_clear 2 = .ok (.putfield 77, 3) := by decide +kernel
theorem dX12_clear_5 : decode cX12_clear 5 = .ok (.aload_n 0, 1) := by decide +kernel
theorem dX12_clear_6 : decode cX12_clear 6 = .ok (.iload_n 1, 1) := by decide +kernel
theorem dX12_clear_7 : decode cX12_clear 7 = .ok (.invokevirtual 265, 3) := by decide +kernel
theorem dX12_clear_10 : decode cX12_clear 10 = .ok (.ifCond .eq 12, 3) := by decide +kernel
theorem dX12_clear_13 : decode cX12_clear 13 = .ok (.aload_n 0, 1) := by decide +kernel
theorem dX12_clear_14 : decode cX12_clear 14 = .ok (.iload_n 2, 1) := by decide +kernel
theorem dX12_clear_15 : decode cX12_clear 15 = .ok (.i2l, 1) := by decide +kernel
theorem dX12_clear_16 : decode cX12_clear 16 = .ok (.invokevirtual 317, 3) := by decide +kernel
theorem dX12_clear_19 : decode cX12_clear 19 = .ok (.ifCond .ne 6, 3) := by decide +kernel
theorem dX12_clear_22 : decode cX12_clear 22 = .ok (.bipush (-2), 2) := by decide +kernel
theorem dX12_clear_24 : decode cX12_clear 24 = .ok (.ireturn, 1) := by decide +kernel
theorem dX12_clear_25 : decode cX12_clear 25 = .ok (.aload_n 0, 1) := by decide +kernel
theorem dX12_clear_26 : decode cX12_clear 26 = .ok (.invokevirtual 326, 3) := by decide +kernel
theorem dX12_clear_29 : decode cX12_clear 29 = .ok (.aload_n 0, 1) := by decide +kernel
theorem dX12_clear_30 : decode cX12_clear 30 = .ok (.iload_n 2, 1) := by decide +kernel
theorem dX12_clear_31 : decode cX12_clear 31 = .ok (.invokevirtual 305, 3) := by decide +kernel
theorem dX12_clear_34 : decode cX12_clear 34 = .ok (.iconst 0, 1) := by decide +kernel
theorem dX12_clear_35 : decode cX12_clear 35 = .ok (.istore_n 3, 1) := by decide +kernel
theorem dX12_clear_36 : decode cX12_clear 36 = .ok (.iload_n 3, 1) := by decide +kernel
theorem dX12_clear_37 : decode cX12_clear 37 = .ok (.aload_n 0, 1) := by decide +kernel
theorem dX12_clear_38 : decode cX12_clear 38 = .ok (.getfield 62, 3) := by decide +kernel
theorem dX12_clear_41 : decode cX12_clear 41 = .ok (.iload_n 1, 1) := by decide +kernel
theorem dX12_clear_42 : decode cX12_clear 42 = .ok (.iaload, 1) := by decide +kernel
theorem dX12_clear_43 : decode cX12_clear 43 = .ok (.if_icmp .ge 20, 3) := by decide +kernel
theorem dX12_clear_46 : decode cX12_clear 46 = .ok (.aload_n 0, 1) := by decide +kernel
theorem dX12_clear_47 : decode cX12_clear 47 = .ok (.iload_n 1, 1) := by decide +kernel
theorem dX12_clear_48 : decode cX12_clear 48 = .ok (.iload_n 3, 1) := by decide +kernel
theorem dX12_clear_49 : decode cX12_clear 49 = .ok (.invokevirtual 353, 3) := by decide +kernel
theorem dX12_clear_52 : decode cX12_clear 52 = .ok (.ifCond .eq 5, 3) := by decide +kernel
theorem dX12_clear_55 : decode cX12_clear 55 = .ok (.iload_n 3, 1) := by decide +kernel
theorem dX12_clear_56 : decode cX12_clear 56 = .ok (.ireturn, 1) := by decide +kernel
theorem dX12_clear_57 : decode cX12_clear 57 = .ok (.iinc 3 1, 3) := by decide +kernel
theorem dX12_clear_60 : decode cX12_clear 60 = .ok (.goto (-24), 3) := by decide +kernel
theorem dX12_clear_63 : decode cX12_clear 63 = .ok (.iconst (-1), 1) := by decide +kernel
theorem dX12_clear_64 : decode cX12_clear 64 = .ok (.ireturn, 1) := by decide +kernel
theorem dX12_common__0 : decode cX12_common_ 0 = .ok (.lload_n 2, 1) := by decide +kernel
theorem dX12_common__1 : decode cX12_common_ 1 = .ok (.lconst 0, 1) := by decide +kernel
theorem dX12_common__2 : decode cX12_common_ 2 = .ok (.lcmp, 1) := by decide +kernel
theorem dX12_common__3 : decode cX12_common_ 3 = .ok (.ifCond .ne 7, 3) := by decide +kernel
theorem dX12_common__6 : decode cX12_common_ 6 = .ok (.lload_n 0, 1) := by decide +kernel
theorem dX12_common__7 : decode cX12_common_ 7 = .ok (.goto 10, 3) := by decide +kernel
theorem dX12_common__10 : decode cX12_common_ 10 = .ok (.lload_n 2, 1) := by decide +kernel
theorem dX12_common__11 : decode cX12_common_ 11 = .ok (.lload_n 0, 1) := by decide +kernel
theorem dX12_common__12 : decode cX12_common_ 12 = .ok (.lload_n 2, 1) := by decide +kernel
theorem dX12_common__13 : decode cX12_common_ 13 = .ok (.lrem, 1) := by decide +kernel
theorem dX12_common__14 : decode cX12_common_ 14 = .ok (.invokestatic 356, 3) := by decide +kernel
theorem dX12_common__17 : decode cX12_common_ 17 = .ok (.lreturn, 1) := by decide +kernel
theorem dX12_days_0 : decode cX12_days 0 = .ok (.aload_n 0, 1) := by decide +kernel
theorem dX12_days_1 : decode cX12_days 1 = .ok (.iconst 0, 1) := by decide +kernel
theorem dX12_days_2 : decode cX12_days 2 = .ok (.putfield 77, 3) := by decide +kernel
theorem dX12_days_5 : decode cX12_days 5 = .ok (.aload_n 0, 1) := by decide +kernel
theorem dX12_days_6 : decode cX12_days 6 = .ok (.iload_n 1, 1) := by decide +kernel
theorem dX12_days_7 : decode cX12_days 7 = .ok (.invokevirtual 265, 3) := by decide +kernel
theorem dX12_days_10 : decode cX12_days 10 = .ok (.ifCond .eq 20, 3) := by decide +kernel
theorem dX12_days_13 : decode cX12_days 13 = .ok (.aload_n 0, 1) := by decide +kernel
theorem dX12_days_14 : decode cX12_days 14 = .ok (.iload_n 2, 1) := by decide +kernel
theorem dX12_days_15 : decode cX12_days 15 = .ok (.i2l, 1) := by decide +kernel
theorem dX12_days_16 : decode cX12_days 16 = .ok (.invokevirtual 317, 3) := by decide +kernel
theorem dX12_days_19 : decode cX12_days 19 = .ok (.ifCond .eq 11, 3) := by decide +kernel
theorem dX12_days_22 : decode cX12_days 22 = .ok (.iload_n 3, 1) := by decide +kernel
theorem dX12_days_23 : decode cX12_days 23 = .ok (.i2l, 1) := by decide +kernel
theorem dX12_days_24 : decode cX12_days 24 = .ok (.invokestatic 341, 3) := by decide +kernel
theorem dX12_days_27 : decode cX12_days 27 = .ok (.ifCond .ne 6, 3) := by decide +kernel
theorem dX12_days_30 : decode cX12_days 30 = .ok (.bipush (-2), 2) := by decide +kernel
theorem dX12_days_32 : decode cX12_days 32 = .ok (.ireturn, 1) := by decide +kernel
theorem dX12_days_33 : decode cX12_days 33 = .ok (.aload_n 0, 1) := by decide +kernel
theorem dX12_days_34 : decode cX12_days 34 = .ok (.invokevirtual 326, 3) := by decide +kernel
theorem dX12_days_37 : decode cX12_days 37 = .ok (.iconst 0, 1) := by decide +kernel
theorem dX12_days_38 : decode cX12_days 38 = .ok (.istore 4, 2) := by decide +kernel
theorem dX12_days_40 : decode cX12_days 40 = .ok (.iconst 0, 1) := by decide +kernel
theorem dX12_days_41 : decode cX12_days 41 = .ok (.istore 5, 2) := by decide +kernel
theorem dX12_days_43 : decode cX12_days 43 = .ok (.iload 5, 2) := by decide +kernel
theorem dX12_days_45 : decode cX12_days 45 = .ok (.aload_n 0, 1) := by decide +kernel
theorem dX12_days_46 : decode cX12_days 46 = .ok (.getfield 65, 3) := by decide +kernel
theorem dX12_days_49 : decode cX12_days 49 = .ok (.iload_n 1, 1) := by decide +kernel
theorem dX12_days_50 : decode cX12_days 50 = .ok (.iaload, 1) := by decide +kernel
theorem dX12_days_51 : decode cX12_days 51 = .ok (.if_icmp .ge 31, 3) := by decide +kernel
theorem dX12_days_54 : decode cX12_days 54 = .ok (.iload 4, 2) := by decide +kernel
theorem dX12_days_56 : decode cX12_days 56 = .ok (.aload_n 0, 1) := by decide +kernel
theorem dX12_days_57 : decode cX12_days 57 = .ok (.iload_n 1, 1) := by decide +kernel
theorem dX12_days_58 : decode cX12_days 58 = .ok (.iload 5, 2) := by decide +kernel
theorem dX12_days_60 : decode cX12_days 60 = .ok (.iload_n 2, 1) := by decide +kernel
theorem dX12_days_61 : decode cX12_days 61 = .ok (.invokevirtual 338, 3) := by decide +kernel
theorem dX12_days_64 : decode cX12_days 64 = .ok (.iload_n 3, 1) := by decide +kernel
theorem dX12_days_65 : decode cX12_days 65 = .ok (.if_icmp .lt 7, 3) := by decide +kernel
theorem dX12_days_68 : decode cX12_days 68 = .ok (.iconst 1, 1) := by decide +kernel
theorem dX12_days_69 : decode cX12_days 69 = .ok (.goto 4, 3) := by decide +kernel
theorem dX12_days_72 : decode cX12_days 72 = .ok (.iconst 0, 1) := by decide +kernel
theorem dX12_days_73 : decode cX12_days 73 = .ok (.iadd, 1) := by decide +kernel
theorem dX12_days_74 : decode cX12_days 74 = .ok (.istore 4, 2) := by decide +kernel
theorem dX12_days_76 : decode cX12_days 76 = .ok (.iinc 5 1, 3) := by decide +kernel
theorem dX12_days_79 : decode cX12_days 79 = .ok (.goto (-36), 3) := by decide +kernel
theorem dX12_days_82 : decode cX12_days 82 = .ok (.iload 4, 2) := by decide +kernel
theorem dX12_days_84 : decode cX12_days 84 = .ok (.ireturn, 1) := by decide +kernel
theorem dX12_isClear_0 : decode cX12_isClear 0 = .ok (.iconst 0, 1) := by decide +kernel
theorem dX12_isClear_1 : decode cX12_isClear 1 = .ok (.istore_n 3, 1) := by decide +kernel
theorem dX12_isClear_2 : decode cX12_isClear 2 = .ok (.iload_n 3, 1) := by decide +kernel
theorem dX12_isClear_3 : decode cX12_isClear 3 = .ok (.aload_n 0, 1) := by decide +kernel
theorem dX12_isClear_4 : decode cX12_isClear 4 = .ok (.getfield 296, 3) := by decide +kernel
theorem dX12_isClear_7 : decode cX12_isClear 7 = .ok (.if_icmp .ge 63, 3) := by decide +kernel
theorem dX12_isClear_10 : decode cX12_isClear 10 = .ok (.aload_n 0, 1) := by decide +kernel
theorem dX12_isClear_11 : decode cX12_isClear 11 = .ok (.iload_n 1, 1) := by decide +kernel
theorem dX12_isClear_12 : decode cX12_isClear 12 = .ok (.iload_n 2, 1) := by decide +kernel
theorem dX12_isClear_13 : decode cX12_isClear 13 = .ok (.aload_n 0, 1) := by decide +kernel
theorem dX12_isClear_14 : decode cX12_isClear 14 = .ok (.getfield 68, 3) := by decide +kernel
theorem dX12_isClear_17 : decode cX12_isClear 17 = .ok (.iload_n 3, 1) := by decide +kernel
theorem dX12_isClear_18 : decode cX12_isClear 18 = .ok (.iaload, 1) := by decide +kernel
theorem dX12_isClear_19 : decode cX12_isClear 19 = .ok (.invokevirtual 289, 3) := by decide +kernel
theorem dX12_isClear_22 : decode cX12_isClear 22 = .ok (.aload_n 0, 1) := by decide +kernel
theorem dX12_isClear_23 : decode cX12_isClear 23 = .ok (.invokevirtual 254, 3) := by decide +kernel
theorem dX12_isClear_26 : decode cX12_isClear 26 = .ok (.if_icmp .ne 5, 3) := by decide +kernel
theorem dX12_isClear_29 : decode cX12_isClear 29 = .ok (.iconst 0, 1) := by decide +kernel
theorem dX12_isClear_30 : decode cX12_isClear 30 = .ok (.ireturn, 1) := by decide +kernel
theorem dX12_isClear_31 : decode cX12_isClear 31 = .ok (.iconst 0, 1) := by decide +kernel
theorem dX12_isClear_32 : decode cX12_isClear 32 = .ok (.istore 4, 2) := by decide +kernel
theorem dX12_isClear_34 : decode cX12_isClear 34 = .ok (.iload 4, 2) := by decide +kernel
theorem dX12_isClear_36 : decode cX12_isClear 36 = .ok (.iload_n 3, 1) := by decide +kernel
theorem dX12_isClear_37 : decode cX12_isClear 37 = .ok (.if_icmp .ge 27, 3) := by decide +kernel
theorem dX12_isClear_40 : decode cX12_isClear 40 = .ok (.aload_n 0, 1) := by decide +kernel
theorem dX12_isClear_41 : decode cX12_isClear 41 = .ok (.getfield 68, 3) := by decide +kernel
theorem dX12_isClear_44 : decode cX12_isClear 44 = .ok (.iload_n 3, 1) := by decide +kernel
theorem dX12_isClear_45 : decode cX12_isClear 45 = .ok (.iaload, 1) := by decide +kernel
theorem dX12_isClear_46 : decode cX12_isClear 46 = .ok (.aload_n 0, 1) := by decide +kernel
theorem dX12_isClear_47 : decode cX12_isClear 47 = .ok (.getfield 68, 3) := by decide +kernel
theorem dX12_isClear_50 : decode cX12_isClear 50 = .ok (.iload 4, 2) := by decide +kernel
theorem dX12_isClear_52 : decode cX12_isClear 52 = .ok (.iaload, 1) := by decide +kernel
theorem dX12_isClear_53 : decode cX12_isClear 53 = .ok (.if_icmp .ne 5, 3) := by decide +kernel
theorem dX12_isClear_56 : decode cX12_isClear 56 = .ok (.iconst 0, 1) := by decide +kernel
theorem dX12_isClear_57 : decode cX12_isClear 57 = .ok (.ireturn, 1) := by decide +kernel
theorem dX12_isClear_58 : decode cX12_isClear 58 = .ok (.iinc 4 1, 3) := by decide +kernel
theorem dX12_isClear_61 : decode cX12_isClear 61 = .ok (.goto (-27), 3) := by decide +kernel
theorem dX12_isClear_64 : decode cX12_isClear 64 = .ok (.iinc 3 1, 3) := by decide +kernel
theorem dX12_isClear_67 : decode cX12_isClear 67 = .ok (.goto (-65), 3) := by decide +kernel
theorem dX12_isClear_70 : decode cX12_isClear 70 = .ok (.iconst 1, 1) := by decide +kernel
theorem dX12_isClear_71 : decode cX12_isClear 71 = .ok (.ireturn, 1) := by decide +kernel
theorem dX12_isNew_0 : decode cX12_isNew 0 = .ok (.aload_n 0, 1) := by decide +kernel
theorem dX12_isNew_1 : decode cX12_isNew 1 = .ok (.iload_n 1, 1) := by decide +kernel
theorem dX12_isNew_2 : decode cX12_isNew 2 = .ok (.iload_n 2, 1) := by decide +kernel
theorem dX12_isNew_3 : decode cX12_isNew 3 = .ok (.iload_n 3, 1) := by decide +kernel
theorem dX12_isNew_4 : decode cX12_isNew 4 = .ok (.invokevirtual 338, 3) := by decide +kernel
theorem dX12_isNew_7 : decode cX12_isNew 7 = .ok (.istore 4, 2) := by decide +kernel
theorem dX12_isNew_9 : decode cX12_isNew 9 = .ok (.iconst 0, 1) := by decide +kernel
theorem dX12_isNew_10 : decode cX12_isNew 10 = .ok (.istore 5, 2) := by decide +kernel
theorem dX12_isNew_12 : decode cX12_isNew 12 = .ok (.iload 5, 2) := by decide +kernel
theorem dX12_isNew_14 : decode cX12_isNew 14 = .ok (.iload_n 2, 1) := by decide +kernel
theorem dX12_isNew_15 : decode cX12_isNew 15 = .ok (.if_icmp .ge 24, 3) := by decide +kernel
theorem dX12_isNew_18 : decode cX12_isNew 18 = .ok (.aload_n 0, 1) := by decide +kernel
theorem dX12_isNew_19 : decode cX12_isNew 19 = .ok (.iload_n 1, 1) := by decide +kernel
theorem dX12_isNew_20 : decode cX12_isNew 20 = .ok (.iload 5, 2) := by decide +kernel
theorem dX12_isNew_22 : decode cX12_isNew 22 = .ok (.iload_n 3, 1) := by decide +kernel
theorem dX12_isNew_23 : decode cX12_isNew 23 = .ok (.invokevirtual 338, 3) := by decide +kernel
theorem dX12_isNew_26 : decode cX12_isNew 26 = .ok (.iload 4, 2) := by decide +kernel
theorem dX12_isNew_28 : decode cX12_isNew 28 = .ok (.if_icmp .ne 5, 3) := by decide +kernel
theorem dX12_isNew_31 : decode cX12_isNew 31 = .ok (.iconst 0, 1) := by decide +kernel
theorem dX12_isNew_32 : decode cX12_isNew 32 = .ok (.ireturn, 1) := by decide +kernel
theorem dX12_isNew_33 : decode cX12_isNew 33 = .ok (.iinc 5 1, 3) := by decide +kernel
theorem dX12_isNew_36 : decode cX12_isNew 36 = .ok (.goto (-24), 3) := by decide +kernel
theorem dX12_isNew_39 : decode cX12_isNew 39 = .ok (.iconst 1, 1) := by decide +kernel
theorem dX12_isNew_40 : decode cX12_isNew 40 = .ok (.ireturn, 1) := by decide +kernel
theorem dX12_kinds_0 : decode cX12_kinds 0 = .ok (.aload_n 0, 1) := by decide +kernel
theorem dX12_kinds_1 : decode cX12_kinds 1 = .ok (.iconst 0, 1) := by decide +kernel
theorem dX12_kinds_2 : decode cX12_kinds 2 = .ok (.putfield 77, 3) := by decide +kernel
theorem dX12_kinds_5 : decode cX12_kinds 5 = .ok (.aload_n 0, 1) := by decide +kernel
theorem dX12_kinds_6 : decode cX12_kinds 6 = .ok (.iload_n 1, 1) := by decide +kernel
theorem dX12_kinds_7 : decode cX12_kinds 7 = .ok (.iload_n 2, 1) := by decide +kernel
theorem dX12_kinds_8 : decode cX12_kinds 8 = .ok (.invokevirtual 323, 3) := by decide +kernel
theorem dX12_kinds_11 : decode cX12_kinds 11 = .ok (.ifCond .eq 12, 3) := by decide +kernel
theorem dX12_kinds_14 : decode cX12_kinds 14 = .ok (.aload_n 0, 1) := by decide +kernel
theorem dX12_kinds_15 : decode cX12_kinds 15 = .ok (.iload_n 3, 1) := by decide +kernel
theorem dX12_kinds_16 : decode cX12_kinds 16 = .ok (.i2l, 1) := by decide +kernel
theorem dX12_kinds_17 : decode cX12_kinds 17 = .ok (.invokevirtual 317, 3) := by decide +kernel
theorem dX12_kinds_20 : decode cX12_kinds 20 = .ok (.ifCond .ne 6, 3) := by decide +kernel
theorem dX12_kinds_23 : decode cX12_kinds 23 = .ok (.bipush (-2), 2) := by decide +kernel
theorem dX12_kinds_25 : decode cX12_kinds 25 = .ok (.ireturn, 1) := by decide +kernel
theorem dX12_kinds_26 : decode cX12_kinds 26 = .ok (.aload_n 0, 1) := by decide +kernel
theorem dX12_kinds_27 : decode cX12_kinds 27 = .ok (.invokevirtual 326, 3) := by decide +kernel
theorem dX12_kinds_30 : decode cX12_kinds 30 = .ok (.aload_n 0, 1) := by decide +kernel
theorem dX12_kinds_31 : decode cX12_kinds 31 = .ok (.iload_n 1, 1) := by decide +kernel
theorem dX12_kinds_32 : decode cX12_kinds 32 = .ok (.iload_n 2, 1) := by decide +kernel
theorem dX12_kinds_33 : decode cX12_kinds 33 = .ok (.iload_n 3, 1) := by decide +kernel
theorem dX12_kinds_34 : decode cX12_kinds 34 = .ok (.invokevirtual 338, 3) := by decide +kernel
theorem dX12_kinds_37 : decode cX12_kinds 37 = .ok (.pop, 1) := by decide +kernel
theorem dX12_kinds_38 : decode cX12_kinds 38 = .ok (.aload_n 0, 1) := by decide +kernel
theorem dX12_kinds_39 : decode cX12_kinds 39 = .ok (.getfield 302, 3) := by decide +kernel
theorem dX12_kinds_42 : decode cX12_kinds 42 = .ok (.ireturn, 1) := by decide +kernel
theorem dX12_lost_0 : decode cX12_lost 0 = .ok (.aload_n 0, 1) := by decide +kernel
theorem dX12_lost_1 : decode cX12_lost 1 = .ok (.iconst 0, 1) := by decide +kernel
theorem dX12_lost_2 : decode cX12_lost 2 = .ok (.putfield 77, 3) := by decide +kernel
theorem dX12_lost_5 : decode cX12_lost 5 = .ok (.aload_n 0, 1) := by decide +kernel
theorem dX12_lost_6 : decode cX12_lost 6 = .ok (.iload_n 1, 1) := by decide +kernel
theorem dX12_lost_7 : decode cX12_lost 7 = .ok (.iload_n 2, 1) := by decide +kernel
theorem dX12_lost_8 : decode cX12_lost 8 = .ok (.invokevirtual 323, 3) := by decide +kernel
theorem dX12_lost_11 : decode cX12_lost 11 = .ok (.ifCond .eq 12, 3) := by decide +kernel
theorem dX12_lost_14 : decode cX12_lost 14 = .ok (.aload_n 0, 1) := by decide +kernel
theorem dX12_lost_15 : decode cX12_lost 15 = .ok (.iload_n 3, 1) := by decide +kernel
theorem dX12_lost_16 : decode cX12_lost 16 = .ok (.i2l, 1) := by decide +kernel
theorem dX12_lost_17 : decode cX12_lost 17 = .ok (.invokevirtual 317, 3) := by decide +kernel
theorem dX12_lost_20 : decode cX12_lost 20 = .ok (.ifCond .ne 6, 3) := by decide +kernel
theorem dX12_lost_23 : decode cX12_lost 23 = .ok (.bipush (-2), 2) := by decide +kernel
theorem dX12_lost_25 : decode cX12_lost 25 = .ok (.ireturn, 1) := by decide +kernel
theorem dX12_lost_26 : decode cX12_lost 26 = .ok (.aload_n 0, 1) := by decide +kernel
theorem dX12_lost_27 : decode cX12_lost 27 = .ok (.invokevirtual 326, 3) := by decide +kernel
theorem dX12_lost_30 : decode cX12_lost 30 = .ok (.aload_n 0, 1) := by decide +kernel
theorem dX12_lost_31 : decode cX12_lost 31 = .ok (.iload_n 1, 1) := by decide +kernel
theorem dX12_lost_32 : decode cX12_lost 32 = .ok (.iload_n 2, 1) := by decide +kernel
theorem dX12_lost_33 : decode cX12_lost 33 = .ok (.iload_n 3, 1) := by decide +kernel
theorem dX12_lost_34 : decode cX12_lost 34 = .ok (.invokevirtual 338, 3) := by decide +kernel
theorem dX12_lost_37 : decode cX12_lost 37 = .ok (.pop, 1) := by decide +kernel
theorem dX12_lost_38 : decode cX12_lost 38 = .ok (.aload_n 0, 1) := by decide +kernel
theorem dX12_lost_39 : decode cX12_lost 39 = .ok (.getfield 296, 3) := by decide +kernel
theorem dX12_lost_42 : decode cX12_lost 42 = .ok (.aload_n 0, 1) := by decide +kernel
theorem dX12_lost_43 : decode cX12_lost 43 = .ok (.getfield 299, 3) := by decide +kernel
theorem dX12_lost_46 : decode cX12_lost 46 = .ok (.isub, 1) := by decide +kernel
theorem dX12_lost_47 : decode cX12_lost 47 = .ok (.ireturn, 1) := by decide +kernel
theorem dX12_part_0 : decode cX12_part 0 = .ok (.iload 4, 2) := by decide +kernel
theorem dX12_part_2 : decode cX12_part 2 = .ok (.ifCond .ne 7, 3) := by decide +kernel
theorem dX12_part_5 : decode cX12_part 5 = .ok (.lload_n 0, 1) := by decide +kernel
theorem dX12_part_6 : decode cX12_part 6 = .ok (.goto 4, 3) := by decide +kernel
theorem dX12_part_9 : decode cX12_part 9 = .ok (.lload_n 2, 1) := by decide +kernel
theorem dX12_part_10 : decode cX12_part 10 = .ok (.lload_n 0, 1) := by decide +kernel
theorem dX12_part_11 : decode cX12_part 11 = .ok (.lload_n 2, 1) := by decide +kernel
theorem dX12_part_12 : decode cX12_part 12 = .ok (.invokestatic 356, 3) := by decide +kernel
theorem dX12_part_15 : decode cX12_part 15 = .ok (.ldiv, 1) := by decide +kernel
theorem dX12_part_16 : decode cX12_part 16 = .ok (.lreturn, 1) := by decide +kernel
theorem dX12_run_0 : decode cX12_run 0 = .ok (.aload_n 0, 1) := by decide +kernel
theorem dX12_run_1 : decode cX12_run 1 = .ok (.iconst 0, 1) := by decide +kernel
theorem dX12_run_2 : decode cX12_run 2 = .ok (.putfield 77, 3) := by decide +kernel
theorem dX12_run_5 : decode cX12_run 5 = .ok (.aload_n 0, 1) := by decide +kernel
theorem dX12_run_6 : decode cX12_run 6 = .ok (.iload_n 1, 1) := by decide +kernel
theorem dX12_run_7 : decode cX12_run 7 = .ok (.invokevirtual 265, 3) := by decide +kernel
theorem dX12_run_10 : decode cX12_run 10 = .ok (.ifCond .eq 12, 3) := by decide +kernel
theorem dX12_run_13 : decode cX12_run 13 = .ok (.aload_n 0, 1) := by decide +kernel
theorem dX12_run_14 : decode cX12_run 14 = .ok (.iload_n 2, 1) := by decide +kernel
theorem dX12_run_15 : decode cX12_run 15 = .ok (.i2l, 1) := by decide +kernel
theorem dX12_run_16 : decode cX12_run 16 = .ok (.invokevirtual 317, 3) := by decide +kernel
theorem dX12_run_19 : decode cX12_run 19 = .ok (.ifCond .ne 6, 3) := by decide +kernel
theorem dX12_run_22 : decode cX12_run 22 = .ok (.bipush (-2), 2) := by decide +kernel
theorem dX12_run_24 : decode cX12_run 24 = .ok (.ireturn, 1) := by decide +kernel
theorem dX12_run_25 : decode cX12_run 25 = .ok (.aload_n 0, 1) := by decide +kernel
theorem dX12_run_26 : decode cX12_run 26 = .ok (.invokevirtual 326, 3) := by decide +kernel
theorem dX12_run_29 : decode cX12_run 29 = .ok (.iconst 0, 1) := by decide +kernel
theorem dX12_run_30 : decode cX12_run 30 = .ok (.istore_n 3, 1) := by decide +kernel
theorem dX12_run_31 : decode cX12_run 31 = .ok (.iconst 0, 1) := by decide +kernel
theorem dX12_run_32 : decode cX12_run 32 = .ok (.istore 4, 2) := by decide +kernel
theorem dX12_run_34 : decode cX12_run 34 = .ok (.iconst 0, 1) := by decide +kernel
theorem dX12_run_35 : decode cX12_run 35 = .ok (.istore 5, 2) := by decide +kernel
theorem dX12_run_37 : decode cX12_run 37 = .ok (.iload 5, 2) := by decide +kernel
theorem dX12_run_39 : decode cX12_run 39 = .ok (.aload_n 0, 1) := by decide +kernel
theorem dX12_run_40 : decode cX12_run 40 = .ok (.getfield 65, 3) := by decide +kernel
theorem dX12_run_43 : decode cX12_run 43 = .ok (.iload_n 1, 1) := by decide +kernel
theorem dX12_run_44 : decode cX12_run 44 = .ok (.iaload, 1) := by decide +kernel
theorem dX12_run_45 : decode cX12_run 45 = .ok (.if_icmp .ge 47, 3) := by decide +kernel
theorem dX12_run_48 : decode cX12_run 48 = .ok (.aload_n 0, 1) := by decide +kernel
theorem dX12_run_49 : decode cX12_run 49 = .ok (.iload_n 1, 1) := by decide +kernel
theorem dX12_run_50 : decode cX12_run 50 = .ok (.iload 5, 2) := by decide +kernel
theorem dX12_run_52 : decode cX12_run 52 = .ok (.iload_n 2, 1) := by decide +kernel
theorem dX12_run_53 : decode cX12_run 53 = .ok (.invokevirtual 338, 3) := by decide +kernel
theorem dX12_run_56 : decode cX12_run 56 = .ok (.aload_n 0, 1) := by decide +kernel
theorem dX12_run_57 : decode cX12_run 57 = .ok (.invokevirtual 308, 3) := by decide +kernel
theorem dX12_run_60 : decode cX12_run 60 = .ok (.if_icmp .le 10, 3) := by decide +kernel
theorem dX12_run_63 : decode cX12_run 63 = .ok (.iload 4, 2) := by decide +kernel
theorem dX12_run_65 : decode cX12_run 65 = .ok (.iconst 1, 1) := by decide +kernel
theorem dX12_run_66 : decode cX12_run 66 = .ok (.iadd, 1) := by decide +kernel
theorem dX12_run_67 : decode cX12_run 67 = .ok (.goto 4, 3) := by decide +kernel
theorem dX12_run_70 : decode cX12_run 70 = .ok (.iconst 0, 1) := by decide +kernel
theorem dX12_run_71 : decode cX12_run 71 = .ok (.istore 4, 2) := by decide +kernel
theorem dX12_run_73 : decode cX12_run 73 = .ok (.iload 4, 2) := by decide +kernel
theorem dX12_run_75 : decode cX12_run 75 = .ok (.iload_n 3, 1) := by decide +kernel
theorem dX12_run_76 : decode cX12_run 76 = .ok (.if_icmp .le 8, 3) := by decide +kernel
theorem dX12_run_79 : decode cX12_run 79 = .ok (.iload 4, 2) := by decide +kernel
theorem dX12_run_81 : decode cX12_run 81 = .ok (.goto 4, 3) := by decide +kernel
theorem dX12_run_84 : decode cX12_run 84 = .ok (.iload_n 3, 1) := by decide +kernel
theorem dX12_run_85 : decode cX12_run 85 = .ok (.istore_n 3, 1) := by decide +kernel
theorem dX12_run_86 : decode cX12_run 86 = .ok (.iinc 5 1, 3) := by decide +kernel
theorem dX12_run_89 : decode cX12_run 89 = .ok (.goto (-52), 3) := by decide +kernel
theorem dX12_run_92 : decode cX12_run 92 = .ok (.iload_n 3, 1) := by decide +kernel
theorem dX12_run_93 : decode cX12_run 93 = .ok (.ireturn, 1) := by decide +kernel
theorem dX12_sorts_0 : decode cX12_sorts 0 = .ok (.aload_n 0, 1) := by decide +kernel
theorem dX12_sorts_1 : decode cX12_sorts 1 = .ok (.iconst 0, 1) := by decide +kernel
theorem dX12_sorts_2 : decode cX12_sorts 2 = .ok (.putfield 77, 3) := by decide +kernel
theorem dX12_sorts_5 : decode cX12_sorts 5 = .ok (.aload_n 0, 1) := by decide +kernel
theorem dX12_sorts_6 : decode cX12_sorts 6 = .ok (.iload_n 1, 1) := by decide +kernel
theorem dX12_sorts_7 : decode cX12_sorts 7 = .ok (.invokevirtual 265, 3) := by decide +kernel
theorem dX12_sorts_10 : decode cX12_sorts 10 = .ok (.ifCond .eq 12, 3) := by decide +kernel
theorem dX12_sorts_13 : decode cX12_sorts 13 = .ok (.aload_n 0, 1) := by decide +kernel
theorem dX12_sorts_14 : decode cX12_sorts 14 = .ok (.iload_n 2, 1) := by decide +kernel
theorem dX12_sorts_15 : decode cX12_sorts 15 = .ok (.i2l, 1) := by decide +kernel
theorem dX12_sorts_16 : decode cX12_sorts 16 = .ok (.invokevirtual 317, 3) := by decide +kernel
theorem dX12_sorts_19 : decode cX12_sorts 19 = .ok (.ifCond .ne 6, 3) := by decide +kernel
theorem dX12_sorts_22 : decode cX12_sorts 22 = .ok (.bipush (-2), 2) := by decide +kernel
theorem dX12_sorts_24 : decode cX12_sorts 24 = .ok (.ireturn, 1) := by decide +kernel
theorem dX12_sorts_25 : decode cX12_sorts 25 = .ok (.aload_n 0, 1) := by decide +kernel
theorem dX12_sorts_26 : decode cX12_sorts 26 = .ok (.invokevirtual 326, 3) := by decide +kernel
theorem dX12_sorts_29 : decode cX12_sorts 29 = .ok (.iconst 0, 1) := by decide +kernel
theorem dX12_sorts_30 : decode cX12_sorts 30 = .ok (.istore_n 3, 1) := by decide +kernel
theorem dX12_sorts_31 : decode cX12_sorts 31 = .ok (.iconst 0, 1) := by decide +kernel
theorem dX12_sorts_32 : decode cX12_sorts 32 = .ok (.istore 4, 2) := by decide +kernel
theorem dX12_sorts_34 : decode cX12_sorts 34 = .ok (.iload 4, 2) := by decide +kernel
theorem dX12_sorts_36 : decode cX12_sorts 36 = .ok (.aload_n 0, 1) := by decide +kernel
theorem dX12_sorts_37 : decode cX12_sorts 37 = .ok (.getfield 62, 3) := by decide +kernel
theorem dX12_sorts_40 : decode cX12_sorts 40 = .ok (.iload_n 1, 1) := by decide +kernel
theorem dX12_sorts_41 : decode cX12_sorts 41 = .ok (.iaload, 1) := by decide +kernel
theorem dX12_sorts_42 : decode cX12_sorts 42 = .ok (.if_icmp .ge 28, 3) := by decide +kernel
theorem dX12_sorts_45 : decode cX12_sorts 45 = .ok (.iload_n 3, 1) := by decide +kernel
theorem dX12_sorts_46 : decode cX12_sorts 46 = .ok (.aload_n 0, 1) := by decide +kernel
theorem dX12_sorts_47 : decode cX12_sorts 47 = .ok (.iload_n 1, 1) := by decide +kernel
theorem dX12_sorts_48 : decode cX12_sorts 48 = .ok (.iload 4, 2) := by decide +kernel
theorem dX12_sorts_50 : decode cX12_sorts 50 = .ok (.iload_n 2, 1) := by decide +kernel
theorem dX12_sorts_51 : decode cX12_sorts 51 = .ok (.invokevirtual 350, 3) := by decide +kernel
theorem dX12_sorts_54 : decode cX12_sorts 54 = .ok (.ifCond .eq 7, 3) := by decide +kernel
theorem dX12_sorts_57 : decode cX12_sorts 57 = .ok (.iconst 1, 1) := by decide +kernel
theorem dX12_sorts_58 : decode cX12_sorts 58 = .ok (.goto 4, 3) := by decide +kernel
theorem dX12_sorts_61 : decode cX12_sorts 61 = .ok (.iconst 0, 1) := by decide +kernel
theorem dX12_sorts_62 : decode cX12_sorts 62 = .ok (.iadd, 1) := by decide +kernel
theorem dX12_sorts_63 : decode cX12_sorts 63 = .ok (.istore_n 3, 1) := by decide +kernel
theorem dX12_sorts_64 : decode cX12_sorts 64 = .ok (.iinc 4 1, 3) := by decide +kernel
theorem dX12_sorts_67 : decode cX12_sorts 67 = .ok (.goto (-33), 3) := by decide +kernel
theorem dX12_sorts_70 : decode cX12_sorts 70 = .ok (.iload_n 3, 1) := by decide +kernel
theorem dX12_sorts_71 : decode cX12_sorts 71 = .ok (.ireturn, 1) := by decide +kernel
theorem dX12_worst_0 : decode cX12_worst 0 = .ok (.aload_n 0, 1) := by decide +kernel
theorem dX12_worst_1 : decode cX12_worst 1 = .ok (.iconst 0, 1) := by decide +kernel
theorem dX12_worst_2 : decode cX12_worst 2 = .ok (.putfield 77, 3) := by decide +kernel
theorem dX12_worst_5 : decode cX12_worst 5 = .ok (.aload_n 0, 1) := by decide +kernel
theorem dX12_worst_6 : decode cX12_worst 6 = .ok (.iload_n 1, 1) := by decide +kernel
theorem dX12_worst_7 : decode cX12_worst 7 = .ok (.iload_n 2, 1) := by decide +kernel
theorem dX12_worst_8 : decode cX12_worst 8 = .ok (.invokevirtual 323, 3) := by decide +kernel
theorem dX12_worst_11 : decode cX12_worst 11 = .ok (.ifCond .eq 38, 3) := by decide +kernel
theorem dX12_worst_14 : decode cX12_worst 14 = .ok (.iload_n 3, 1) := by decide +kernel
theorem dX12_worst_15 : decode cX12_worst 15 = .ok (.i2l, 1) := by decide +kernel
theorem dX12_worst_16 : decode cX12_worst 16 = .ok (.lconst 1, 1) := by decide +kernel
theorem dX12_worst_17 : decode cX12_worst 17 = .ok (.ldc2_w 344, 3) := by decide +kernel
theorem dX12_worst_20 : decode cX12_worst 20 = .ok (.invokestatic 82, 3) := by decide +kernel
theorem dX12_worst_23 : decode cX12_worst 23 = .ok (.ifCond .eq 26, 3) := by decide +kernel
theorem dX12_worst_26 : decode cX12_worst 26 = .ok (.aload_n 0, 1) := by decide +kernel
theorem dX12_worst_27 : decode cX12_worst 27 = .ok (.iload 4, 2) := by decide +kernel
theorem dX12_worst_29 : decode cX12_worst 29 = .ok (.i2l, 1) := by decide +kernel
theorem dX12_worst_30 : decode cX12_worst 30 = .ok (.invokevirtual 317, 3) := by decide +kernel
theorem dX12_worst_33 : decode cX12_worst 33 = .ok (.ifCond .eq 16, 3) := by decide +kernel
theorem dX12_worst_36 : decode cX12_worst 36 = .ok (.aload_n 0, 1) := by decide +kernel
theorem dX12_worst_37 : decode cX12_worst 37 = .ok (.iload_n 1, 1) := by decide +kernel
theorem dX12_worst_38 : decode cX12_worst 38 = .ok (.iload_n 2, 1) := by decide +kernel
theorem dX12_worst_39 : decode cX12_worst 39 = .ok (.iload_n 3, 1) := by decide +kernel
theorem dX12_worst_40 : decode cX12_worst 40 = .ok (.iload 4, 2) := by decide +kernel
theorem dX12_worst_42 : decode cX12_worst 42 = .ok (.iconst (-1), 1) := by decide +kernel
theorem dX12_worst_43 : decode cX12_worst 43 = .ok (.invokevirtual 346, 3) := by decide +kernel
theorem dX12_worst_46 : decode cX12_worst 46 = .ok (.goto 5, 3) := by decide +kernel
theorem dX12_worst_49 : decode cX12_worst 49 = .ok (.bipush (-2), 2) := by decide +kernel
theorem dX12_worst_51 : decode cX12_worst 51 = .ok (.ireturn, 1) := by decide +kernel
theorem hd_X12_isClear : yX12_isClear.cls = RX12 ∧ yX12_isClear.cls ≠ "java/lang/invoke/MethodHandle" ∧ yX12_isClear.cls ≠ "java/lang/invoke/VarHandle" ∧ (parseMethodDescriptor yX12_isClear.desc).map (fun d => d.parameters.length) = some 2 := by decide +kernel
theorem hd_X12_isNew : yX12_isNew.cls = RX12 ∧ yX12_isNew.cls ≠ "java/lang/invoke/MethodHandle" ∧ yX12_isNew.cls ≠ "java/lang/invoke/VarHandle" ∧ (parseMethodDescriptor yX12_isNew.desc).map (fun d => d.parameters.length) = some 3 := by decide +kernel
theorem hs_X12_common_ : yX12_common_.cls ≠ "java/lang/invoke/MethodHandle" ∧ yX12_common_.cls ≠ "java/lang/invoke/VarHandle" ∧ (parseMethodDescriptor yX12_common_.desc).map (fun d => d.parameters.length) = some 2 := by decide +kernel
theorem hs_X12_part : yX12_part.cls ≠ "java/lang/invoke/MethodHandle" ∧ yX12_part.cls ≠ "java/lang/invoke/VarHandle" ∧ (parseMethodDescriptor yX12_part.desc).map (fun d => d.parameters.length) = some 3 := by decide +kernel
set_option maxHeartbeats 4000000 in
set_option maxRecDepth 100000 in
theorem M151_X12_worst (l : Launch) (G : va_G) (cy : Nat → ClassId) (sz : Nat) (a_0 : Nat) (i_0 : Int32) (i_1 : Int32) (i_2 : Int32) (i_3 : Int32) (i_4 : Int32) (a_1 : Nat) (a_2 : Nat) (a_3 : Nat) (a_4 : Nat) (a_5 : Nat) (i_5 : Int32) (i_6 : Int32) (i_7 : Int32) (i_8 : Int32) (i_9 : Int32) (j_0 : Int64) (i_10 : Int32) (i_11 : Int32) (i_12 : Int32) (i_13 : Int32) (a_6 : Nat) (a_7 : Nat) (a_8 : Nat) (a_9 : Nat) (a_10 : Nat) (a_11 : Nat) (a_12 : Nat) (a_13 : Nat) (a_14 : Nat) (a_15 : Nat) (a_16 : Nat) (a_17 : Nat) (a_18 : Nat) (i_14 : Int32) (i_15 : Int32) (i_16 : Int32) (i_17 : Int32) (i_18 : Int32) (i_19 : Int32) (a_19 : Nat) (i_20 : Int32) (a_20 : Nat) (i_21 : Int32) (i_22 : Int32) (i_23 : Int32) (i_24 : Int32) (i_25 : Int32) (i_26 : Int32) (i_27 : Int32) (i_28 : Int32) (i_29 : Int32) (i_30 : Int32) (i_31 : Int32) (i_32 : Int32) (i_33 : Int32) (i_34 : Int32) (i_35 : Int32) (i_36 : Int32) (i_37 : Int32) (i_38 : Int32) (i_39 : Int32) (i_40 : Int32) (i_41 : Int32) (i_42 : Int32) (i_43 : Int32) (i_44 : Int32) (i_45 : Int32) (i_46 : Int32) (i_47 : Int32) (i_48 : Int32) (i_49 : Int32) (i_50 : Int32) (i_51 : Int32) (i_52 : Int32) (i_53 : Int32) (i_54 : Int32) (i_55 : Int32) (f_0 : Nat → Int32) (f_1 : Nat → Int32) (f_2 : Nat → Int32) (f_3 : Nat → Int32) (f_4 : Nat → Int32) (f_5 : Nat → Int32) (f_6 : Nat → Int32) (f_7 : Nat → Int32) (f_8 : Nat → Int32) (f_9 : Nat → Int32) (h0 : mm_rg i_14 0 8) (h1 : mm_rg i_21 0 601) (h2 : mm_rg i_22 0 601) (h3 : mm_rg i_23 0 601) (h4 : mm_rg i_24 0 601) (h5 : mm_rg i_25 0 601) (h6 : mm_rg i_26 0 10) (h7 : mm_rg i_27 0 99) (h8 : mm_rg i_28 0 9) (h9 : mm_rg i_29 0 3) (h10 : mm_rg i_30 0 6) (h11 : mm_rg i_31 0 30) (h12 : mm_rg i_32 0 10) (h13 : mm_rg i_33 0 99) (h14 : mm_rg i_34 0 9) (h15 : mm_rg i_35 0 3) (h16 : mm_rg i_36 0 6) (h17 : mm_rg i_37 0 30) (h18 : mm_rg i_38 0 10) (h19 : mm_rg i_39 0 99) (h20 : mm_rg i_40 0 9) (h21 : mm_rg i_41 0 3) (h22 : mm_rg i_42 0 6) (h23 : mm_rg i_43 0 30) (h24 : mm_rg i_44 0 10) (h25 : mm_rg i_45 0 99) (h26 : mm_rg i_46 0 9) (h27 : mm_rg i_47 0 3) (h28 : mm_rg i_48 0 6) (h29 : mm_rg i_49 0 30) (h30 : mm_rg i_50 0 10) (h31 : mm_rg i_51 0 99) (h32 : mm_rg i_52 0 9) (h33 : mm_rg i_53 0 3) (h34 : mm_rg i_54 0 6) (h35 : mm_rg i_55 0 30) (h36 : mm_ar f_0 0 99) (h37 : mm_ar f_1 0 7) (h38 : mm_ar f_2 0 9) (h39 : mm_ar f_3 0 8) (h40 : mm_ar f_4 0 9) (h41 : mm_ar f_5 (-1) 99) (h42 : mm_ar f_6 0 9) (h43 : mm_ar f_7 0 210) (h44 : mm_ar f_8 0 210) (h45 : mm_ar f_9 0 9) (h46 : mm_rls f_1 f_2 0 i_28 i_29) (h47 : mm_txs f_3 f_4 0 i_28 i_30) (h48 : mm_acs f_5 0 i_28 i_29 i_31) (h49 : mm_tl i_21 i_29 i_30) (h50 : mm_rls f_1 f_2 1 i_34 i_35) (h51 : mm_txs f_3 f_4 1 i_34 i_36) (h52 : mm_acs f_5 1 i_34 i_35 i_37) (h53 : mm_tl i_22 i_35 i_36) (h54 : mm_rls f_1 f_2 2 i_40 i_41) (h55 : mm_txs f_3 f_4 2 i_40 i_42) (h56 : mm_acs f_5 2 i_40 i_41 i_43) (h57 : mm_tl i_23 i_41 i_42) (h58 : mm_rls f_1 f_2 3 i_46 i_47) (h59 : mm_txs f_3 f_4 3 i_46 i_48) (h60 : mm_acs f_5 3 i_46 i_47 i_49) (h61 : mm_tl i_24 i_47 i_48)  : mm_CI l yX12_worst (mm_ws yX12_worst cX12_worst 5 (some .int)) ({ frames := 15, cells := 0, slots := 0, locals := 329 } : Room) G cy sz [(a_0, .inr (12, [.int i_4, .ref a_1, .ref a_2, .ref a_3, .ref a_4, .ref a_5, .int i_5, .int i_6, .int i_7, .int i_8, .int i_9, .long j_0, .int i_10, .int i_11, .int i_12, .int i_13, .ref a_6, .ref a_7, .ref a_8, .ref a_9, .ref a_10, .ref a_11, .ref a_12, .ref a_13, .ref a_14, .ref a_15, .ref a_16, .ref a_17, .ref a_18, .int i_14, .int i_15, .int i_16, .int i_17, .int i_18, .int i_19, .ref a_19, .int i_20, .ref a_20])), (a_6, .inl (cy 1, 5, .inl (mm_g [i_21, i_22, i_23, i_24, i_25]))), (a_7, .inl (cy 1, 30, .inl (mm_g [i_26, i_27, i_28, i_29, i_30, i_31, i_32, i_33, i_34, i_35, i_36, i_37, i_38, i_39, i_40, i_41, i_42, i_43, i_44, i_45, i_46, i_47, i_48, i_49, i_50, i_51, i_52, i_53, i_54, i_55]))), (a_8, .inl (cy 1, 90, .inl f_0)), (a_9, .inl (cy 1, 15, .inl f_1)), (a_10, .inl (cy 1, 1050, .inl f_2)), (a_11, .inl (cy 1, 30, .inl f_3)), (a_12, .inl (cy 1, 240, .inl f_4)), (a_13, .inl (cy 1, 450, .inl f_5)), (a_15, .inl (cy 1, 7200, .inl f_6)), (a_16, .inl (cy 1, 3, .inl f_7)), (a_17, .inl (cy 1, 3, .inl f_8)), (a_18, .inl (cy 1, 8, .inl f_9))] [.ref a_0, .int i_0, .int i_1, .int i_2, .int i_3] (fun u : Int32 × Int32 × Int32 × (Nat → Int32) × (Nat → Int32) × (Nat → Int32) × (Nat → Int32) => [(a_0, .inr (12, [.int 0, .ref a_1, .ref a_2, .ref a_3, .ref a_4, .ref a_5, .int i_5, .int i_6, .int i_7, .int i_8, .int i_9, .long j_0, .int i_10, .int i_11, .int i_12, .int i_13, .ref a_6, .ref a_7, .ref a_8, .ref a_9, .ref a_10, .ref a_11, .ref a_12, .ref a_13, .ref a_14, .ref a_15, .ref a_16, .ref a_17, .ref a_18, .int u.1, .int u.2.1, .int u.2.2.1, .int i_17, .int i_18, .int i_19, .ref a_19, .int i_20, .ref a_20])), (a_6, .inl (cy 1, 5, .inl (mm_g [i_21, i_22, i_23, i_24, i_25]))), (a_7, .inl (cy 1, 30, .inl (mm_g [i_26, i_27, i_28, i_29, i_30, i_31, i_32, i_33, i_34, i_35, i_36, i_37, i_38, i_39, i_40, i_41, i_42, i_43, i_44, i_45, i_46, i_47, i_48, i_49, i_50, i_51, i_52, i_53, i_54, i_55]))), (a_8, .inl (cy 1, 90, .inl f_0)), (a_9, .inl (cy 1, 15, .inl f_1)), (a_10, .inl (cy 1, 1050, .inl f_2)), (a_11, .inl (cy 1, 30, .inl f_3)), (a_12, .inl (cy 1, 240, .inl f_4)), (a_13, .inl (cy 1, 450, .inl f_5)), (a_15, .inl (cy 1, 7200, .inl u.2.2.2.1)), (a_16, .inl (cy 1, 3, .inl u.2.2.2.2.1)), (a_17, .inl (cy 1, 3, .inl u.2.2.2.2.2.1)), (a_18, .inl (cy 1, 8, .inl u.2.2.2.2.2.2))]) (fun (r : Int32) (u : Int32 × Int32 × Int32 × (Nat → Int32) × (Nat → Int32) × (Nat → Int32) × (Nat → Int32)) => mm_rg u.1 0 8 ∧ mm_ar u.2.2.2.1 0 9 ∧ mm_ar u.2.2.2.2.1 0 210 ∧ mm_ar u.2.2.2.2.2.1 0 210 ∧ mm_ar u.2.2.2.2.2.2 0 9 ∧ mm_rg r (-2) 1200000000) 0 0 := by
  refine mm_begin (lv := [(0, .ref a_0), (1, .int i_0), (2, .int i_1), (3, .int i_2), (4, .int i_3)]) (by decide) (Nat.le_of_ble_eq_true rfl) rfl ?_
  intro p e s m below meth c A ls R args Q H locs hRe hQ hAe hx hb hr hlocks hml hown hnm hts hsz hA hS hP hK hD hZ hl
  have hRf : R.frames = 15 := by rw [hRe]
  have hRl : R.locals = 329 := by rw [hRe]
  have hRc : R.cells = 0 := by rw [hRe]
  have hRs : R.slots = 0 := by rw [hRe]
  refine lv_aload_n hx hb dX12_worst_0 rfl (lv_at hl 0 rfl) ?_
  refine lv_iconst (v := 0) hx hb dX12_worst_1 (by decide) ?_
  refine va_put (D := G) (ci := 12) (v := .int 0) (ty := tyX12 0) (C := RX12) (T := TX12) (N := 38) hx hb hts (mm_i inlX12) tyX12 tyX12_ok nmX12 hown hK.1 hP hD hS 0 rfl rfl 0 (by decide) (mm_h hts mm_w177) (fun _ h9 => h9) rfl (tyX12_ok 0 (by decide)) rfl rfl (Nat.le_of_ble_eq_true rfl) dX12_worst_2 ?_
  clear hP hD hS
  clear H locs
  intro H locs (hP : va_P G vwCl [(a_0, .inr (12, [.int 0, .ref a_1, .ref a_2, .ref a_3, .ref a_4, .ref a_5, .int i_5, .int i_6, .int i_7, .int i_8, .int i_9, .long j_0, .int i_10, .int i_11, .int i_12, .int i_13, .ref a_6, .ref a_7, .ref a_8, .ref a_9, .ref a_10, .ref a_11, .ref a_12, .ref a_13, .ref a_14, .ref a_15, .ref a_16, .ref a_17, .ref a_18, .int i_14, .int i_15, .int i_16, .int i_17, .int i_18, .int i_19, .ref a_19, .int i_20, .ref a_20])), (a_6, .inl (cy 1, 5, .inl (mm_g [i_21, i_22, i_23, i_24, i_25]))), (a_7, .inl (cy 1, 30, .inl (mm_g [i_26, i_27, i_28, i_29, i_30, i_31, i_32, i_33, i_34, i_35, i_36, i_37, i_38, i_39, i_40, i_41, i_42, i_43, i_44, i_45, i_46, i_47, i_48, i_49, i_50, i_51, i_52, i_53, i_54, i_55]))), (a_8, .inl (cy 1, 90, .inl f_0)), (a_9, .inl (cy 1, 15, .inl f_1)), (a_10, .inl (cy 1, 1050, .inl f_2)), (a_11, .inl (cy 1, 30, .inl f_3)), (a_12, .inl (cy 1, 240, .inl f_4)), (a_13, .inl (cy 1, 450, .inl f_5)), (a_15, .inl (cy 1, 7200, .inl f_6)), (a_16, .inl (cy 1, 3, .inl f_7)), (a_17, .inl (cy 1, 3, .inl f_8)), (a_18, .inl (cy 1, 8, .inl f_9))] H) (hD : va_D A [(a_0, .inr (12, [.int 0, .ref a_1, .ref a_2, .ref a_3, .ref a_4, .ref a_5, .int i_5, .int i_6, .int i_7, .int i_8, .int i_9, .long j_0, .int i_10, .int i_11, .int i_12, .int i_13, .ref a_6, .ref a_7, .ref a_8, .ref a_9, .ref a_10, .ref a_11, .ref a_12, .ref a_13, .ref a_14, .ref a_15, .ref a_16, .ref a_17, .ref a_18, .int i_14, .int i_15, .int i_16, .int i_17, .int i_18, .int i_19, .ref a_19, .int i_20, .ref a_20])), (a_6, .inl (cy 1, 5, .inl (mm_g [i_21, i_22, i_23, i_24, i_25]))), (a_7, .inl (cy 1, 30, .inl (mm_g [i_26, i_27, i_28, i_29, i_30, i_31, i_32, i_33, i_34, i_35, i_36, i_37, i_38, i_39, i_40, i_41, i_42, i_43, i_44, i_45, i_46, i_47, i_48, i_49, i_50, i_51, i_52, i_53, i_54, i_55]))), (a_8, .inl (cy 1, 90, .inl f_0)), (a_9, .inl (cy 1, 15, .inl f_1)), (a_10, .inl (cy 1, 1050, .inl f_2)), (a_11, .inl (cy 1, 30, .inl f_3)), (a_12, .inl (cy 1, 240, .inl f_4)), (a_13, .inl (cy 1, 450, .inl f_5)), (a_15, .inl (cy 1, 7200, .inl f_6)), (a_16, .inl (cy 1, 3, .inl f_7)), (a_17, .inl (cy 1, 3, .inl f_8)), (a_18, .inl (cy 1, 8, .inl f_9))]) hS
  refine lv_aload_n hx hb dX12_worst_5 rfl (lv_at hl 0 rfl) ?_
  refine lv_iload_n hx hb dX12_worst_6 rfl (lv_at hl 1 rfl) ?_
  refine lv_iload_n hx hb dX12_worst_7 rfl (lv_at hl 2 rfl) ?_
  refine mm_finir (va_runV (As := [.int i_0, .int i_1]) (rest := []) ⟨hx, hb, hml, hown, hts⟩ (M104_X12_isThen l G cy H.size a_0 i_0 i_1 0 a_1 a_2 a_3 a_4 a_5 i_5 i_6 i_7 i_8 i_9 j_0 i_10 i_11 i_12 i_13 a_6 a_7 a_8 a_9 a_10 a_11 a_12 a_13 a_14 a_15 a_16 a_17 a_18 i_14 i_15 i_16 i_17 i_18 i_19 a_19 i_20 a_20 i_26 i_27 i_28 i_29 i_30 i_31 i_32 i_33 i_34 i_35 i_36 i_37 i_38 i_39 i_40 i_41 i_42 i_43 i_44 i_45 i_46 i_47 i_48 i_49 i_50 i_51 i_52 i_53 i_54 i_55 h6 h7 h8 h9 h10 h11 h12 h13 h14 h15 h16 h17 h18 h19 h20 h21 h22 h23 h24 h25 h26 h27 h28 h29 h30 h31 h32 h33 h34 h35) (cwV 2 hts (mm_gV mm_w678 mm_w679 mm_w680 mm_w5 mm_w681) rfl rfl rfl hd_X12_isThen ⟨by rw [hRf]; exact Nat.le_of_ble_eq_true rfl, by rw [hRl]; exact Nat.le_of_ble_eq_true rfl⟩) (mm_preV hK hZ hS hA hP hD [0, 2] rfl rfl 0 rfl rfl rfl) rfl rfl hl.1 rfl (lv_room (Nat.le_of_ble_eq_true rfl)) dX12_worst_8 ⟨by rw [hRc]; exact Nat.le_of_ble_eq_true rfl, by rw [hRs]; exact Nat.le_of_ble_eq_true rfl⟩) hP hD hS hA [0, 2] rfl (fun _ => rfl) ?_
  clear hP hD hS
  clear H locs
  intro v1 _u H locs hw hP hD hS
  rcases hw with rfl | ⟨rfl, w2, w3, w4⟩
  · refine lv_if_eq (tgt := 49) hx hb dX12_worst_11 (by decide) (fun c5 => ?_) (fun c5 => ?_)
    · refine lv_bipush (v := (-2)) hx hb dX12_worst_49 (by decide) ?_
      subst hAe
      rw [hQ]
      exact W.iret (v := (-2)) hx hb hr (fun t ht hW => ⟨⟨(-2), (i_14, i_15, i_16, f_6, f_7, f_8, f_9), rfl, ⟨h0, h42, h43, h44, h45, (mm_wk mm_km2 (by decide))⟩, by rw [ht]; exact hP, hK.warm hW, hD⟩, hS.F ht⟩) hS.2.2 dX12_worst_51
    · exact absurd rfl (mm_ne c5)
  · have q6 := mm_ltR (lo := 1) w4 w2 h9 (by decide)
    have q7 : mm_rg i_21 1 601 := mm_tl_3 h49 q6 h1 (by decide)
    refine lv_if_eq (tgt := 49) hx hb dX12_worst_11 (by decide) (fun c8 => ?_) (fun c8 => ?_)
    · exact mm_eqN c8.symm mm_k0 mm_k1 (by decide)
    · refine lv_iload_n hx hb dX12_worst_14 rfl (lv_at hl 3 rfl) ?_
      obtain ⟨v9, ev9⟩ : ∃ y : Int64, y = i_2.toInt64 := ⟨_, rfl⟩
      refine lv_i2l hx hb dX12_worst_15 ev9.symm ?_
      have rv9 : mm_rl v9 (-2147483648) 2147483647 := mm_i2l ev9 (mm_top i_2)
      refine lv_lconst (v := 1) hx hb dX12_worst_16 (by decide) ?_
      refine lv_ldc2 (v := 1000) hx hb hown (mm_h hts mm_w938) dX12_worst_17 ?_
      refine mm_finir (va_runS (As := [.long v9, .long 1, .long 1000]) (rest := []) ⟨hx, hb, hml, hown, hts⟩ (M63_X12_in l G cy H.size v9 1000 ) (va_cwS 3 hts (mm_gS mm_w191 mm_w192 mm_w5 mm_w193) rfl rfl rfl hs_X12_in ⟨by rw [hRf]; exact Nat.le_of_ble_eq_true rfl, by rw [hRl]; exact Nat.le_of_ble_eq_true rfl⟩) (mm_preS hK hZ hS hA hP hD [] rfl rfl) rfl rfl hl.1 rfl (lv_room (Nat.le_of_ble_eq_true rfl)) dX12_worst_20 ⟨by rw [hRc]; exact Nat.le_of_ble_eq_true rfl, by rw [hRs]; exact Nat.le_of_ble_eq_true rfl⟩) hP hD hS hA [] rfl (fun _ => rfl) ?_
      clear hP hD hS
      clear H locs
      intro v10 _u H locs hw hP hD hS
      rcases hw with ⟨rfl, w11⟩ | ⟨rfl, w12, w13, w14, w15⟩
      · refine lv_if_eq (tgt := 49) hx hb dX12_worst_23 (by decide) (fun c16 => ?_) (fun c16 => ?_)
        · refine lv_bipush (v := (-2)) hx hb dX12_worst_49 (by decide) ?_
          subst hAe
          rw [hQ]
          exact W.iret (v := (-2)) hx hb hr (fun t ht hW => ⟨⟨(-2), (i_14, i_15, i_16, f_6, f_7, f_8, f_9), rfl, ⟨h0, h42, h43, h44, h45, (mm_wk mm_km2 (by decide))⟩, by rw [ht]; exact hP, hK.warm hW, hD⟩, hS.F ht⟩) hS.2.2 dX12_worst_51
        · exact absurd rfl (mm_ne c16)
      · have q17 := mm_meetl (lo := 1) (hi := 2147483647) w12 rv9 (by decide)
        have q18 := mm_meet (lo := 1) (hi := 2147483647) (mm_l2x ev9 q17) (mm_top i_2) (by decide)
        have q19 := mm_leLl w14 q17 mm_kl1000
        have q20 := mm_meet (lo := 1) (hi := 1000) (mm_l2x ev9 q19) q18 (by decide)
        refine lv_if_eq (tgt := 49) hx hb dX12_worst_23 (by decide) (fun c21 => ?_) (fun c21 => ?_)
        · exact mm_eqN c21.symm mm_k0 mm_k1 (by decide)
        · refine lv_aload_n hx hb dX12_worst_26 rfl (lv_at hl 0 rfl) ?_
          refine lv_iload hx hb dX12_worst_27 (lv_at hl 4 rfl) ?_
          obtain ⟨v22, ev22⟩ : ∃ y : Int64, y = i_3.toInt64 := ⟨_, rfl⟩
          refine lv_i2l hx hb dX12_worst_29 ev22.symm ?_
          have rv22 : mm_rl v22 (-2147483648) 2147483647 := mm_i2l ev22 (mm_top i_3)
          refine mm_finir (va_runV (As := [.long v22]) (rest := []) ⟨hx, hb, hml, hown, hts⟩ (M96_X12_isText l G cy H.size a_0 v22 0 a_1 a_2 a_3 a_4 a_5 i_5 i_6 i_7 i_8 i_9 j_0 i_10 i_11 i_12 i_13 a_6 a_7 a_8 a_9 a_10 a_11 a_12 a_13 a_14 a_15 a_16 a_17 a_18 i_14 i_15 i_16 i_17 i_18 i_19 a_19 i_20 a_20 i_26 i_27 i_28 i_29 i_30 i_31 i_32 i_33 i_34 i_35 i_36 i_37 i_38 i_39 i_40 i_41 i_42 i_43 i_44 i_45 i_46 i_47 i_48 i_49 i_50 i_51 i_52 i_53 i_54 i_55 h6 h7 h8 (mm_wk q6 (by decide)) h10 h11 h12 h13 h14 h15 h16 h17 h18 h19 h20 h21 h22 h23 h24 h25 h26 h27 h28 h29 h30 h31 h32 h33 h34 h35) (cwV 1 hts (mm_gV mm_w613 mm_w614 mm_w615 mm_w5 mm_w616) rfl rfl rfl hd_X12_isText ⟨by rw [hRf]; exact Nat.le_of_ble_eq_true rfl, by rw [hRl]; exact Nat.le_of_ble_eq_true rfl⟩) (mm_preV hK hZ hS hA hP hD [0, 2] rfl rfl 0 rfl rfl rfl) rfl rfl hl.1 rfl (lv_room (Nat.le_of_ble_eq_true rfl)) dX12_worst_30 ⟨by rw [hRc]; exact Nat.le_of_ble_eq_true rfl, by rw [hRs]; exact Nat.le_of_ble_eq_true rfl⟩) hP hD hS hA [0, 2] rfl (fun _ => rfl) ?_
          clear hP hD hS
          clear H locs
          intro v23 _u H locs hw hP hD hS
          rcases hw with rfl | ⟨rfl, w24, w25⟩
          · refine lv_if_eq (tgt := 49) hx hb dX12_worst_33 (by decide) (fun c26 => ?_) (fun c26 => ?_)
            · refine lv_bipush (v := (-2)) hx hb dX12_worst_49 (by decide) ?_
              subst hAe
              rw [hQ]
              exact W.iret (v := (-2)) hx hb hr (fun t ht hW => ⟨⟨(-2), (i_14, i_15, i_16, f_6, f_7, f_8, f_9), rfl, ⟨h0, h42, h43, h44, h45, (mm_wk mm_km2 (by decide))⟩, by rw [ht]; exact hP, hK.warm hW, hD⟩, hS.F ht⟩) hS.2.2 dX12_worst_51
            · exact absurd rfl (mm_ne c26)
          · have q27 := mm_meet (lo := 0) (hi := 5) (mm_l2x ev22 w24) (mm_top i_3) (by decide)
            have w28 := mm_tx_lt w25 (mm_i2lE ev22)
            have q29 := mm_ltR (lo := 1) w28 q27 h10 (by decide)
            refine lv_if_eq (tgt := 49) hx hb dX12_worst_33 (by decide) (fun c30 => ?_) (fun c30 => ?_)
            · exact mm_eqN c30.symm mm_k0 mm_k1 (by decide)
            · refine lv_aload_n hx hb dX12_worst_36 rfl (lv_at hl 0 rfl) ?_
              refine lv_iload_n hx hb dX12_worst_37 rfl (lv_at hl 1 rfl) ?_
              refine lv_iload_n hx hb dX12_worst_38 rfl (lv_at hl 2 rfl) ?_
              refine lv_iload_n hx hb dX12_worst_39 rfl (lv_at hl 3 rfl) ?_
              refine lv_iload hx hb dX12_worst_40 (lv_at hl 4 rfl) ?_
              refine lv_iconst (v := (-1)) hx hb dX12_worst_42 (by decide) ?_
              refine mm_fini (va_runV (As := [.int i_0, .int i_1, .int i_2, .int i_3, .int (-1)]) (rest := []) ⟨hx, hb, hml, hown, hts⟩ (M150_X12_mostOf l G cy H.size a_0 i_0 i_1 i_2 i_3 0 a_1 a_2 a_3 a_4 a_5 i_5 i_6 i_7 i_8 i_9 j_0 i_10 i_11 i_12 i_13 a_6 a_7 a_8 a_9 a_10 a_11 a_12 a_13 a_14 a_15 a_16 a_17 a_18 i_14 i_15 i_16 i_17 i_18 i_19 a_19 i_20 a_20 i_21 i_22 i_23 i_24 i_25 i_26 i_27 i_28 i_29 i_30 i_31 i_32 i_33 i_34 i_35 i_36 i_37 i_38 i_39 i_40 i_41 i_42 i_43 i_44 i_45 i_46 i_47 i_48 i_49 i_50 i_51 i_52 i_53 i_54 i_55 f_0 f_1 f_2 f_3 f_4 f_5 f_6 f_7 f_8 f_9 w2 w3 q20 q27 h0 (mm_wk q7 (by decide)) h2 h3 h4 h5 h6 h7 h8 (mm_wk q6 (by decide)) (mm_wk q29 (by decide)) h11 h12 h13 h14 h15 h16 h17 h18 h19 h20 h21 h22 h23 h24 h25 h26 h27 h28 h29 h30 h31 h32 h33 h34 h35 h36 h37 h38 h39 h40 h41 h42 h43 h44 h45 h46 h47 h48 h49 h50 h51 h52 h53 h54 h55 h56 h57 h58 h59 h60 h61 w4) (cwV 5 hts (mm_gV mm_w939 mm_w940 mm_w941 mm_w5 mm_w942) rfl rfl rfl hd_X12_mostOf ⟨by rw [hRf]; exact Nat.le_of_ble_eq_true rfl, by rw [hRl]; exact Nat.le_of_ble_eq_true rfl⟩) (mm_preV hK hZ hS hA hP hD [0, 1, 2, 3, 4, 5, 6, 7, 8, 9, 10, 11, 12] rfl rfl 0 rfl rfl rfl) rfl rfl hl.1 rfl (lv_room (Nat.le_of_ble_eq_true rfl)) dX12_worst_43 ⟨by rw [hRc]; exact Nat.le_of_ble_eq_true rfl, by rw [hRs]; exact Nat.le_of_ble_eq_true rfl⟩) hP hD hS hA (fun u : Int32 × Int32 × Int32 × (Nat → Int32) × (Nat → Int32) × (Nat → Int32) × (Nat → Int32) => [(a_0, .inr (12, [.int 0, .ref a_1, .ref a_2, .ref a_3, .ref a_4, .ref a_5, .int i_5, .int i_6, .int i_7, .int i_8, .int i_9, .long j_0, .int i_10, .int i_11, .int i_12, .int i_13, .ref a_6, .ref a_7, .ref a_8, .ref a_9, .ref a_10, .ref a_11, .ref a_12, .ref a_13, .ref a_14, .ref a_15, .ref a_16, .ref a_17, .ref a_18, .int u.1, .int u.2.1, .int u.2.2.1, .int i_17, .int i_18, .int i_19, .ref a_19, .int i_20, .ref a_20])), (a_6, .inl (cy 1, 5, .inl (mm_g [i_21, i_22, i_23, i_24, i_25]))), (a_7, .inl (cy 1, 30, .inl (mm_g [i_26, i_27, i_28, i_29, i_30, i_31, i_32, i_33, i_34, i_35, i_36, i_37, i_38, i_39, i_40, i_41, i_42, i_43, i_44, i_45, i_46, i_47, i_48, i_49, i_50, i_51, i_52, i_53, i_54, i_55]))), (a_8, .inl (cy 1, 90, .inl f_0)), (a_9, .inl (cy 1, 15, .inl f_1)), (a_10, .inl (cy 1, 1050, .inl f_2)), (a_11, .inl (cy 1, 30, .inl f_3)), (a_12, .inl (cy 1, 240, .inl f_4)), (a_13, .inl (cy 1, 450, .inl f_5)), (a_15, .inl (cy 1, 7200, .inl u.2.2.2.1)), (a_16, .inl (cy 1, 3, .inl u.2.2.2.2.1)), (a_17, .inl (cy 1, 3, .inl u.2.2.2.2.2.1)), (a_18, .inl (cy 1, 8, .inl u.2.2.2.2.2.2))]) [0, 1, 2, 3, 4, 5, 6, 7, 8, 9, 10, 11, 12] [] (n := 13) (fun _ => rfl) (by decide +kernel) (by decide +kernel) rfl (fun _ => rfl) (wr := []) rfl (fun _ => rfl) (fun _ => @rfl _ ([a_0, a_6, a_7, a_8, a_9, a_10, a_11, a_12, a_13, a_15, a_16, a_17, a_18] : List Nat)) ?_
              clear hP hD hS
              clear H locs
              intro v38 u
              obtain ⟨n31, n32, n33, n34, n35, n36, n37⟩ := u
              intro H locs hw (hP : va_P G vwCl [(a_0, .inr (12, [.int 0, .ref a_1, .ref a_2, .ref a_3, .ref a_4, .ref a_5, .int i_5, .int i_6, .int i_7, .int i_8, .int i_9, .long j_0, .int i_10, .int i_11, .int i_12, .int i_13, .ref a_6, .ref a_7, .ref a_8, .ref a_9, .ref a_10, .ref a_11, .ref a_12, .ref a_13, .ref a_14, .ref a_15, .ref a_16, .ref a_17, .ref a_18, .int n31, .int n32, .int n33, .int i_17, .int i_18, .int i_19, .ref a_19, .int i_20, .ref a_20])), (a_6, .inl (cy 1, 5, .inl (mm_g [i_21, i_22, i_23, i_24, i_25]))), (a_7, .inl (cy 1, 30, .inl (mm_g [i_26, i_27, i_28, i_29, i_30, i_31, i_32, i_33, i_34, i_35, i_36, i_37, i_38, i_39, i_40, i_41, i_42, i_43, i_44, i_45, i_46, i_47, i_48, i_49, i_50, i_51, i_52, i_53, i_54, i_55]))), (a_8, .inl (cy 1, 90, .inl f_0)), (a_9, .inl (cy 1, 15, .inl f_1)), (a_10, .inl (cy 1, 1050, .inl f_2)), (a_11, .inl (cy 1, 30, .inl f_3)), (a_12, .inl (cy 1, 240, .inl f_4)), (a_13, .inl (cy 1, 450, .inl f_5)), (a_15, .inl (cy 1, 7200, .inl n34)), (a_16, .inl (cy 1, 3, .inl n35)), (a_17, .inl (cy 1, 3, .inl n36)), (a_18, .inl (cy 1, 8, .inl n37))] H) (hD : va_D A [(a_0, .inr (12, [.int 0, .ref a_1, .ref a_2, .ref a_3, .ref a_4, .ref a_5, .int i_5, .int i_6, .int i_7, .int i_8, .int i_9, .long j_0, .int i_10, .int i_11, .int i_12, .int i_13, .ref a_6, .ref a_7, .ref a_8, .ref a_9, .ref a_10, .ref a_11, .ref a_12, .ref a_13, .ref a_14, .ref a_15, .ref a_16, .ref a_17, .ref a_18, .int n31, .int n32, .int n33, .int i_17, .int i_18, .int i_19, .ref a_19, .int i_20, .ref a_20])), (a_6, .inl (cy 1, 5, .inl (mm_g [i_21, i_22, i_23, i_24, i_25]))), (a_7, .inl (cy 1, 30, .inl (mm_g [i_26, i_27, i_28, i_29, i_30, i_31, i_32, i_33, i_34, i_35, i_36, i_37, i_38, i_39, i_40, i_41, i_42, i_43, i_44, i_45, i_46, i_47, i_48, i_49, i_50, i_51, i_52, i_53, i_54, i_55]))), (a_8, .inl (cy 1, 90, .inl f_0)), (a_9, .inl (cy 1, 15, .inl f_1)), (a_10, .inl (cy 1, 1050, .inl f_2)), (a_11, .inl (cy 1, 30, .inl f_3)), (a_12, .inl (cy 1, 240, .inl f_4)), (a_13, .inl (cy 1, 450, .inl f_5)), (a_15, .inl (cy 1, 7200, .inl n34)), (a_16, .inl (cy 1, 3, .inl n35)), (a_17, .inl (cy 1, 3, .inl n36)), (a_18, .inl (cy 1, 8, .inl n37))]) hS
              obtain ⟨w39, w40, w41, w42, w43, hw⟩ := hw
              have w44 := hw
              refine lv_goto (tgt := 51) hx hb dX12_worst_46 (by decide) ?_
              subst hAe
              rw [hQ]
              exact W.iret (v := v38) hx hb hr (fun t ht hW => ⟨⟨v38, (n31, n32, n33, n34, n35, n36, n37), rfl, ⟨w39, w40, w41, w42, w43, (mm_wk w44 (by decide))⟩, by rw [ht]; exact hP, hK.warm hW, hD⟩, hS.F ht⟩) hS.2.2 dX12_worst_51

set_option maxHeartbeats 4000000 in
set_option maxRecDepth 100000 in
theorem M152_X12_isNew (l : Launch) (G : va_G) (cy : Nat → ClassId) (sz : Nat) (a_0 : Nat) (i_0 : Int32) (i_1 : Int32) (i_2 : Int32) (i_3 : Int32) (a_1 : Nat) (a_2 : Nat) (a_3 : Nat) (a_4 : Nat) (a_5 : Nat) (i_4 : Int32) (i_5 : Int32) (i_6 : Int32) (i_7 : Int32) (i_8 : Int32) (j_0 : Int64) (i_9 : Int32) (i_10 : Int32) (i_11 : Int32) (i_12 : Int32) (a_6 : Nat) (a_7 : Nat) (a_8 : Nat) (a_9 : Nat) (a_10 : Nat) (a_11 : Nat) (a_12 : Nat) (a_13 : Nat) (a_14 : Nat) (a_15 : Nat) (a_16 : Nat) (a_17 : Nat) (a_18 : Nat) (i_13 : Int32) (i_14 : Int32) (i_15 : Int32) (i_16 : Int32) (i_17 : Int32) (i_18 : Int32) (a_19 : Nat) (i_19 : Int32) (a_20 : Nat) (i_20 : Int32) (i_21 : Int32) (i_22 : Int32) (i_23 : Int32) (i_24 : Int32) (i_25 : Int32) (i_26 : Int32) (i_27 : Int32) (i_28 : Int32) (i_29 : Int32) (i_30 : Int32) (i_31 : Int32) (i_32 : Int32) (i_33 : Int32) (i_34 : Int32) (i_35 : Int32) (i_36 : Int32) (i_37 : Int32) (i_38 : Int32) (i_39 : Int32) (i_40 : Int32) (i_41 : Int32) (i_42 : Int32) (i_43 : Int32) (i_44 : Int32) (i_45 : Int32) (i_46 : Int32) (i_47 : Int32) (i_48 : Int32) (i_49 : Int32) (f_0 : Nat → Int32) (f_1 : Nat → Int32) (f_2 : Nat → Int32) (f_3 : Nat → Int32) (f_4 : Nat → Int32) (f_5 : Nat → Int32) (f_6 : Nat → Int32) (h0 : mm_rg i_0 0 2) (h1 : mm_rg i_1 0 209) (h2 : mm_rg i_2 0 5) (h3 : mm_rg i_13 0 8) (h4 : mm_rg i_20 0 10) (h5 : mm_rg i_21 0 99) (h6 : mm_rg i_22 0 9) (h7 : mm_rg i_23 0 3) (h8 : mm_rg i_24 0 6) (h9 : mm_rg i_25 0 30) (h10 : mm_rg i_26 0 10) (h11 : mm_rg i_27 0 99) (h12 : mm_rg i_28 0 9) (h13 : mm_rg i_29 0 3) (h14 : mm_rg i_30 0 6) (h15 : mm_rg i_31 0 30) (h16 : mm_rg i_32 0 10) (h17 : mm_rg i_33 0 99) (h18 : mm_rg i_34 0 9) (h19 : mm_rg i_35 0 3) (h20 : mm_rg i_36 0 6) (h21 : mm_rg i_37 0 30) (h22 : mm_rg i_38 0 10) (h23 : mm_rg i_39 0 99) (h24 : mm_rg i_40 0 9) (h25 : mm_rg i_41 0 3) (h26 : mm_rg i_42 0 6) (h27 : mm_rg i_43 0 30) (h28 : mm_rg i_44 0 10) (h29 : mm_rg i_45 0 99) (h30 : mm_rg i_46 0 9) (h31 : mm_rg i_47 0 3) (h32 : mm_rg i_48 0 6) (h33 : mm_rg i_49 0 30) (h34 : mm_ar f_0 0 99) (h35 : mm_ar f_1 0 8) (h36 : mm_ar f_2 0 9) (h37 : mm_ar f_3 (-1) 99) (h38 : mm_ar f_4 0 9) (h39 : mm_ar f_5 0 210) (h40 : mm_ar f_6 0 9) (h41 : mm_txs f_1 f_2 0 i_22 i_24) (h42 : mm_acs f_3 0 i_22 i_23 i_25) (h43 : mm_txs f_1 f_2 1 i_28 i_30) (h44 : mm_acs f_3 1 i_28 i_29 i_31) (h45 : mm_txs f_1 f_2 2 i_34 i_36) (h46 : mm_acs f_3 2 i_34 i_35 i_37) (h47 : mm_txs f_1 f_2 3 i_40 i_42) (h48 : mm_acs f_3 3 i_40 i_41 i_43) (h49 : mm_f1 f_5 i_0)  : mm_CI l yX12_isNew (mm_ws yX12_isNew cX12_isNew 6 (some .boolean)) ({ frames := 3, cells := 0, slots := 0, locals := 73 } : Room) G cy sz [(a_0, .inr (12, [.int i_3, .ref a_1, .ref a_2, .ref a_3, .ref a_4, .ref a_5, .int i_4, .int i_5, .int i_6, .int i_7, .int i_8, .long j_0, .int i_9, .int i_10, .int i_11, .int i_12, .ref a_6, .ref a_7, .ref a_8, .ref a_9, .ref a_10, .ref a_11, .ref a_12, .ref a_13, .ref a_14, .ref a_15, .ref a_16, .ref a_17, .ref a_18, .int i_13, .int i_14, .int i_15, .int i_16, .int i_17, .int i_18, .ref a_19, .int i_19, .ref a_20])), (a_7, .inl (cy 1, 30, .inl (mm_g [i_20, i_21, i_22, i_23, i_24, i_25, i_26, i_27, i_28, i_29, i_30, i_31, i_32, i_33, i_34, i_35, i_36, i_37, i_38, i_39, i_40, i_41, i_42, i_43, i_44, i_45, i_46, i_47, i_48, i_49]))), (a_8, .inl (cy 1, 90, .inl f_0)), (a_11, .inl (cy 1, 30, .inl f_1)), (a_12, .inl (cy 1, 240, .inl f_2)), (a_13, .inl (cy 1, 450, .inl f_3)), (a_15, .inl (cy 1, 7200, .inl f_4)), (a_16, .inl (cy 1, 3, .inl f_5)), (a_18, .inl (cy 1, 8, .inl f_6))] [.ref a_0, .int i_0, .int i_1, .int i_2] (fun u : Int32 × Int32 × Int32 × (Nat → Int32) => [(a_0, .inr (12, [.int i_3, .ref a_1, .ref a_2, .ref a_3, .ref a_4, .ref a_5, .int i_4, .int i_5, .int i_6, .int i_7, .int i_8, .long j_0, .int i_9, .int i_10, .int i_11, .int i_12, .ref a_6, .ref a_7, .ref a_8, .ref a_9, .ref a_10, .ref a_11, .ref a_12, .ref a_13, .ref a_14, .ref a_15, .ref a_16, .ref a_17, .ref a_18, .int u.1, .int u.2.1, .int u.2.2.1, .int i_16, .int i_17, .int i_18, .ref a_19, .int i_19, .ref a_20])), (a_7, .inl (cy 1, 30, .inl (mm_g [i_20, i_21, i_22, i_23, i_24, i_25, i_26, i_27, i_28, i_29, i_30, i_31, i_32, i_33, i_34, i_35, i_36, i_37, i_38, i_39, i_40, i_41, i_42, i_43, i_44, i_45, i_46, i_47, i_48, i_49]))), (a_8, .inl (cy 1, 90, .inl f_0)), (a_11, .inl (cy 1, 30, .inl f_1)), (a_12, .inl (cy 1, 240, .inl f_2)), (a_13, .inl (cy 1, 450, .inl f_3)), (a_15, .inl (cy 1, 7200, .inl f_4)), (a_16, .inl (cy 1, 3, .inl f_5)), (a_18, .inl (cy 1, 8, .inl u.2.2.2))]) (fun (r : Int32) (u : Int32 × Int32 × Int32 × (Nat → Int32)) => mm_rg u.1 0 8 ∧ mm_ar u.2.2.2 0 9 ∧ ((0 = r ∧ mm_rg i_1 1 209) ∨ (1 = r))) 0 0 := by
  refine mm_begin (lv := [(0, .ref a_0), (1, .int i_0), (2, .int i_1), (3, .int i_2)]) (by decide) (Nat.le_of_ble_eq_true rfl) rfl ?_
  intro p e s m below meth c A ls R args Q H locs hRe hQ hAe hx hb hr hlocks hml hown hnm hts hsz hA hS hP hK hD hZ hl
  have hRf : R.frames = 3 := by rw [hRe]
  have hRl : R.locals = 73 := by rw [hRe]
  have hRc : R.cells = 0 := by rw [hRe]
  have hRs : R.slots = 0 := by rw [hRe]
  refine lv_aload_n hx hb dX12_isNew_0 rfl (lv_at hl 0 rfl) ?_
  refine lv_iload_n hx hb dX12_isNew_1 rfl (lv_at hl 1 rfl) ?_
  refine lv_iload_n hx hb dX12_isNew_2 rfl (lv_at hl 2 rfl) ?_
  refine lv_iload_n hx hb dX12_isNew_3 rfl (lv_at hl 3 rfl) ?_
  refine mm_fini (va_runV (As := [.int i_0, .int i_1, .int i_2]) (rest := []) ⟨hx, hb, hml, hown, hts⟩ (M141_X12_reads l G cy H.size a_0 i_0 i_1 i_2 i_3 a_1 a_2 a_3 a_4 a_5 i_4 i_5 i_6 i_7 i_8 j_0 i_9 i_10 i_11 i_12 a_6 a_7 a_8 a_9 a_10 a_11 a_12 a_13 a_14 a_15 a_16 a_17 a_18 i_13 i_14 i_15 i_16 i_17 i_18 a_19 i_19 a_20 i_20 i_21 i_22 i_23 i_24 i_25 i_26 i_27 i_28 i_29 i_30 i_31 i_32 i_33 i_34 i_35 i_36 i_37 i_38 i_39 i_40 i_41 i_42 i_43 i_44 i_45 i_46 i_47 i_48 i_49 f_0 f_1 f_2 f_3 f_4 f_5 f_6 h0 (mm_wk h1 (by decide)) h2 h3 h4 h5 h6 h7 h8 h9 h10 h11 h12 h13 h14 h15 h16 h17 h18 h19 h20 h21 h22 h23 h24 h25 h26 h27 h28 h29 h30 h31 h32 h33 h34 h35 h36 h37 h38 h39 h40 h41 h42 h43 h44 h45 h46 h47 h48 h49) (cwV 3 hts (mm_gV mm_w852 mm_w853 mm_w854 mm_w5 mm_w855) rfl rfl rfl hd_X12_reads ⟨by rw [hRf]; exact Nat.le_of_ble_eq_true rfl, by rw [hRl]; exact Nat.le_of_ble_eq_true rfl⟩) (mm_preV hK hZ hS hA hP hD [0, 1, 2, 3, 4, 5, 6, 7, 8] rfl rfl 0 rfl rfl rfl) rfl rfl hl.1 rfl (lv_room (Nat.le_of_ble_eq_true rfl)) dX12_isNew_4 ⟨by rw [hRc]; exact Nat.le_of_ble_eq_true rfl, by rw [hRs]; exact Nat.le_of_ble_eq_true rfl⟩) hP hD hS hA (fun u : Int32 × Int32 × Int32 × (Nat → Int32) => [(a_0, .inr (12, [.int i_3, .ref a_1, .ref a_2, .ref a_3, .ref a_4, .ref a_5, .int i_4, .int i_5, .int i_6, .int i_7, .int i_8, .long j_0, .int i_9, .int i_10, .int i_11, .int i_12, .ref a_6, .ref a_7, .ref a_8, .ref a_9, .ref a_10, .ref a_11, .ref a_12, .ref a_13, .ref a_14, .ref a_15, .ref a_16, .ref a_17, .ref a_18, .int u.1, .int u.2.1, .int u.2.2.1, .int i_16, .int i_17, .int i_18, .ref a_19, .int i_19, .ref a_20])), (a_7, .inl (cy 1, 30, .inl (mm_g [i_20, i_21, i_22, i_23, i_24, i_25, i_26, i_27, i_28, i_29, i_30, i_31, i_32, i_33, i_34, i_35, i_36, i_37, i_38, i_39, i_40, i_41, i_42, i_43, i_44, i_45, i_46, i_47, i_48, i_49]))), (a_8, .inl (cy 1, 90, .inl f_0)), (a_11, .inl (cy 1, 30, .inl f_1)), (a_12, .inl (cy 1, 240, .inl f_2)), (a_13, .inl (cy 1, 450, .inl f_3)), (a_15, .inl (cy 1, 7200, .inl f_4)), (a_16, .inl (cy 1, 3, .inl f_5)), (a_18, .inl (cy 1, 8, .inl u.2.2.2))]) [0, 1, 2, 3, 4, 5, 6, 7, 8] [] (n := 9) (fun _ => rfl) (by decide +kernel) (by decide +kernel) rfl (fun _ => rfl) (wr := []) rfl (fun _ => rfl) (fun _ => @rfl _ ([a_0, a_7, a_8, a_11, a_12, a_13, a_15, a_16, a_18] : List Nat)) ?_
  clear hP hD hS
  clear H locs
  intro v5 u
  obtain ⟨n1, n2, n3, n4⟩ := u
  intro H locs hw (hP : va_P G vwCl [(a_0, .inr (12, [.int i_3, .ref a_1, .ref a_2, .ref a_3, .ref a_4, .ref a_5, .int i_4, .int i_5, .int i_6, .int i_7, .int i_8, .long j_0, .int i_9, .int i_10, .int i_11, .int i_12, .ref a_6, .ref a_7, .ref a_8, .ref a_9, .ref a_10, .ref a_11, .ref a_12, .ref a_13, .ref a_14, .ref a_15, .ref a_16, .ref a_17, .ref a_18, .int n1, .int n2, .int n3, .int i_16, .int i_17, .int i_18, .ref a_19, .int i_19, .ref a_20])), (a_7, .inl (cy 1, 30, .inl (mm_g [i_20, i_21, i_22, i_23, i_24, i_25, i_26, i_27, i_28, i_29, i_30, i_31, i_32, i_33, i_34, i_35, i_36, i_37, i_38, i_39, i_40, i_41, i_42, i_43, i_44, i_45, i_46, i_47, i_48, i_49]))), (a_8, .inl (cy 1, 90, .inl f_0)), (a_11, .inl (cy 1, 30, .inl f_1)), (a_12, .inl (cy 1, 240, .inl f_2)), (a_13, .inl (cy 1, 450, .inl f_3)), (a_15, .inl (cy 1, 7200, .inl f_4)), (a_16, .inl (cy 1, 3, .inl f_5)), (a_18, .inl (cy 1, 8, .inl n4))] H) (hD : va_D A [(a_0, .inr (12, [.int i_3, .ref a_1, .ref a_2, .ref a_3, .ref a_4, .ref a_5, .int i_4, .int i_5, .int i_6, .int i_7, .int i_8, .long j_0, .int i_9, .int i_10, .int i_11, .int i_12, .ref a_6, .ref a_7, .ref a_8, .ref a_9, .ref a_10, .ref a_11, .ref a_12, .ref a_13, .ref a_14, .ref a_15, .ref a_16, .ref a_17, .ref a_18, .int n1, .int n2, .int n3, .int i_16, .int i_17, .int i_18, .ref a_19, .int i_19, .ref a_20])), (a_7, .inl (cy 1, 30, .inl (mm_g [i_20, i_21, i_22, i_23, i_24, i_25, i_26, i_27, i_28, i_29, i_30, i_31, i_32, i_33, i_34, i_35, i_36, i_37, i_38, i_39, i_40, i_41, i_42, i_43, i_44, i_45, i_46, i_47, i_48, i_49]))), (a_8, .inl (cy 1, 90, .inl f_0)), (a_11, .inl (cy 1, 30, .inl f_1)), (a_12, .inl (cy 1, 240, .inl f_2)), (a_13, .inl (cy 1, 450, .inl f_3)), (a_15, .inl (cy 1, 7200, .inl f_4)), (a_16, .inl (cy 1, 3, .inl f_5)), (a_18, .inl (cy 1, 8, .inl n4))]) hS
  obtain ⟨w6, w7, hw⟩ := hw
  obtain ⟨w8, w9⟩ := hw
  replace w9 : mm_rd f_4 f_5 f_0 f_1 f_2 f_3 i_0 i_1 i_2 i_21 i_22 i_25 v5 := w9
  refine lv_istore (lv' := [(4, .int v5), (0, .ref a_0), (1, .int i_0), (2, .int i_1), (3, .int i_2)]) hx hb dX12_isNew_7 hl (by decide) rfl ?_
  clear hl
  clear ls
  intro ls hl
  refine lv_iconst (v := 0) hx hb dX12_isNew_9 (by decide) ?_
  refine lv_istore (lv' := [(5, .int 0), (4, .int v5), (0, .ref a_0), (1, .int i_0), (2, .int i_1), (3, .int i_2)]) hx hb dX12_isNew_10 hl (by decide) rfl ?_
  clear hl
  clear ls
  intro ls hl
  have L12_209 : ∀ (n : Nat) (x12_5_205 : Int32) (y12_0_29_206 : Int32) (y12_0_30_207 : Int32) (y12_0_31_208 : Int32) (z12_8_209 : Nat → Int32), mm_rg x12_5_205 0 209 → mm_rg y12_0_29_206 0 8 → mm_ar z12_8_209 0 9 → (209 - x12_5_205.toInt).toNat < n → ∀ (H : Heap) (locs : List Loc), va_P G vwCl [(a_0, .inr (12, [.int i_3, .ref a_1, .ref a_2, .ref a_3, .ref a_4, .ref a_5, .int i_4, .int i_5, .int i_6, .int i_7, .int i_8, .long j_0, .int i_9, .int i_10, .int i_11, .int i_12, .ref a_6, .ref a_7, .ref a_8, .ref a_9, .ref a_10, .ref a_11, .ref a_12, .ref a_13, .ref a_14, .ref a_15, .ref a_16, .ref a_17, .ref a_18, .int y12_0_29_206, .int y12_0_30_207, .int y12_0_31_208, .int i_16, .int i_17, .int i_18, .ref a_19, .int i_19, .ref a_20])), (a_7, .inl (cy 1, 30, .inl (mm_g [i_20, i_21, i_22, i_23, i_24, i_25, i_26, i_27, i_28, i_29, i_30, i_31, i_32, i_33, i_34, i_35, i_36, i_37, i_38, i_39, i_40, i_41, i_42, i_43, i_44, i_45, i_46, i_47, i_48, i_49]))), (a_8, .inl (cy 1, 90, .inl f_0)), (a_11, .inl (cy 1, 30, .inl f_1)), (a_12, .inl (cy 1, 240, .inl f_2)), (a_13, .inl (cy 1, 450, .inl f_3)), (a_15, .inl (cy 1, 7200, .inl f_4)), (a_16, .inl (cy 1, 3, .inl f_5)), (a_18, .inl (cy 1, 8, .inl z12_8_209))] H → va_D A [(a_0, .inr (12, [.int i_3, .ref a_1, .ref a_2, .ref a_3, .ref a_4, .ref a_5, .int i_4, .int i_5, .int i_6, .int i_7, .int i_8, .long j_0, .int i_9, .int i_10, .int i_11, .int i_12, .ref a_6, .ref a_7, .ref a_8, .ref a_9, .ref a_10, .ref a_11, .ref a_12, .ref a_13, .ref a_14, .ref a_15, .ref a_16, .ref a_17, .ref a_18, .int y12_0_29_206, .int y12_0_30_207, .int y12_0_31_208, .int i_16, .int i_17, .int i_18, .ref a_19, .int i_19, .ref a_20])), (a_7, .inl (cy 1, 30, .inl (mm_g [i_20, i_21, i_22, i_23, i_24, i_25, i_26, i_27, i_28, i_29, i_30, i_31, i_32, i_33, i_34, i_35, i_36, i_37, i_38, i_39, i_40, i_41, i_42, i_43, i_44, i_45, i_46, i_47, i_48, i_49]))), (a_8, .inl (cy 1, 90, .inl f_0)), (a_11, .inl (cy 1, 30, .inl f_1)), (a_12, .inl (cy 1, 240, .inl f_2)), (a_13, .inl (cy 1, 450, .inl f_3)), (a_15, .inl (cy 1, 7200, .inl f_4)), (a_16, .inl (cy 1, 3, .inl f_5)), (a_18, .inl (cy 1, 8, .inl z12_8_209))] → va_S A s.heap H locs → ∀ (ls : Array Slot), lv_has ls 6 [(5, .int x12_5_205), (4, .int v5), (0, .ref a_0), (1, .int i_0), (2, .int i_1), (3, .int i_2)] → W p l e R s m args below meth c H locs 0 0 Q (F0 m 12 ls []) := by
    intro n
    induction n with
    | zero => intro x12_5_205 y12_0_29_206 y12_0_30_207 y12_0_31_208 z12_8_209 rx12_5_205 ry12_0_29_206 rz12_8_209 hm; exact absurd hm (Nat.not_lt_zero _)
    | succ n ih12 =>
      intro x12_5_205 y12_0_29_206 y12_0_30_207 y12_0_31_208 z12_8_209 rx12_5_205 ry12_0_29_206 rz12_8_209 hm12 H locs hP hD hS ls hl
      refine lv_iload hx hb dX12_isNew_12 (lv_at hl 0 rfl) ?_
      refine lv_iload_n hx hb dX12_isNew_14 rfl (lv_at hl 4 rfl) ?_
      refine lv_icmp_ge (tgt := 39) hx hb dX12_isNew_15 (by decide) (fun c211 => ?_) (fun c211 => ?_)
      · refine lv_iconst (v := 1) hx hb dX12_isNew_39 (by decide) ?_
        subst hAe
        rw [hQ]
        exact W.zret (v := 1) hx hb hr rfl (fun t ht hW => ⟨⟨1, (y12_0_29_206, y12_0_30_207, y12_0_31_208, z12_8_209), rfl, ⟨ry12_0_29_206, rz12_8_209, (Or.inr rfl)⟩, by rw [ht]; exact hP, hK.warm hW, hD⟩, hS.F ht⟩) hS.2.2 dX12_isNew_40
      · have q212 := mm_ltL (h := 208) (mm_nle c211) rx12_5_205 h1 (by decide)
        have q213 := mm_ltR (lo := 1) (mm_nle c211) rx12_5_205 h1 (by decide)
        refine lv_aload_n hx hb dX12_isNew_18 rfl (lv_at hl 2 rfl) ?_
        refine lv_iload_n hx hb dX12_isNew_19 rfl (lv_at hl 3 rfl) ?_
        refine lv_iload hx hb dX12_isNew_20 (lv_at hl 0 rfl) ?_
        refine lv_iload_n hx hb dX12_isNew_22 rfl (lv_at hl 5 rfl) ?_
        refine mm_fini (va_runV (As := [.int i_0, .int x12_5_205, .int i_2]) (rest := []) ⟨hx, hb, hml, hown, hts⟩ (M141_X12_reads l G cy H.size a_0 i_0 x12_5_205 i_2 i_3 a_1 a_2 a_3 a_4 a_5 i_4 i_5 i_6 i_7 i_8 j_0 i_9 i_10 i_11 i_12 a_6 a_7 a_8 a_9 a_10 a_11 a_12 a_13 a_14 a_15 a_16 a_17 a_18 y12_0_29_206 y12_0_30_207 y12_0_31_208 i_16 i_17 i_18 a_19 i_19 a_20 i_20 i_21 i_22 i_23 i_24 i_25 i_26 i_27 i_28 i_29 i_30 i_31 i_32 i_33 i_34 i_35 i_36 i_37 i_38 i_39 i_40 i_41 i_42 i_43 i_44 i_45 i_46 i_47 i_48 i_49 f_0 f_1 f_2 f_3 f_4 f_5 z12_8_209 h0 (mm_wk q212 (by decide)) h2 ry12_0_29_206 h4 h5 h6 h7 h8 h9 h10 h11 h12 h13 h14 h15 h16 h17 h18 h19 h20 h21 h22 h23 h24 h25 h26 h27 h28 h29 h30 h31 h32 h33 h34 h35 h36 h37 h38 h39 rz12_8_209 h41 h42 h43 h44 h45 h46 h47 h48 h49) (cwV 3 hts (mm_gV mm_w852 mm_w853 mm_w854 mm_w5 mm_w855) rfl rfl rfl hd_X12_reads ⟨by rw [hRf]; exact Nat.le_of_ble_eq_true rfl, by rw [hRl]; exact Nat.le_of_ble_eq_true rfl⟩) (mm_preV hK hZ hS hA hP hD [0, 1, 2, 3, 4, 5, 6, 7, 8] rfl rfl 0 rfl rfl rfl) rfl rfl hl.1 rfl (lv_room (Nat.le_of_ble_eq_true rfl)) dX12_isNew_23 ⟨by rw [hRc]; exact Nat.le_of_ble_eq_true rfl, by rw [hRs]; exact Nat.le_of_ble_eq_true rfl⟩) hP hD hS hA (fun u : Int32 × Int32 × Int32 × (Nat → Int32) => [(a_0, .inr (12, [.int i_3, .ref a_1, .ref a_2, .ref a_3, .ref a_4, .ref a_5, .int i_4, .int i_5, .int i_6, .int i_7, .int i_8, .long j_0, .int i_9, .int i_10, .int i_11, .int i_12, .ref a_6, .ref a_7, .ref a_8, .ref a_9, .ref a_10, .ref a_11, .ref a_12, .ref a_13, .ref a_14, .ref a_15, .ref a_16, .ref a_17, .ref a_18, .int u.1, .int u.2.1, .int u.2.2.1, .int i_16, .int i_17, .int i_18, .ref a_19, .int i_19, .ref a_20])), (a_7, .inl (cy 1, 30, .inl (mm_g [i_20, i_21, i_22, i_23, i_24, i_25, i_26, i_27, i_28, i_29, i_30, i_31, i_32, i_33, i_34, i_35, i_36, i_37, i_38, i_39, i_40, i_41, i_42, i_43, i_44, i_45, i_46, i_47, i_48, i_49]))), (a_8, .inl (cy 1, 90, .inl f_0)), (a_11, .inl (cy 1, 30, .inl f_1)), (a_12, .inl (cy 1, 240, .inl f_2)), (a_13, .inl (cy 1, 450, .inl f_3)), (a_15, .inl (cy 1, 7200, .inl f_4)), (a_16, .inl (cy 1, 3, .inl f_5)), (a_18, .inl (cy 1, 8, .inl u.2.2.2))]) [0, 1, 2, 3, 4, 5, 6, 7, 8] [] (n := 9) (fun _ => rfl) (by decide +kernel) (by decide +kernel) rfl (fun _ => rfl) (wr := []) rfl (fun _ => rfl) (fun _ => @rfl _ ([a_0, a_7, a_8, a_11, a_12, a_13, a_15, a_16, a_18] : List Nat)) ?_
        clear hP hD hS
        clear H locs
        intro v218 u
        obtain ⟨n214, n215, n216, n217⟩ := u
        intro H locs hw (hP : va_P G vwCl [(a_0, .inr (12, [.int i_3, .ref a_1, .ref a_2, .ref a_3, .ref a_4, .ref a_5, .int i_4, .int i_5, .int i_6, .int i_7, .int i_8, .long j_0, .int i_9, .int i_10, .int i_11, .int i_12, .ref a_6, .ref a_7, .ref a_8, .ref a_9, .ref a_10, .ref a_11, .ref a_12, .ref a_13, .ref a_14, .ref a_15, .ref a_16, .ref a_17, .ref a_18, .int n214, .int n215, .int n216, .int i_16, .int i_17, .int i_18, .ref a_19, .int i_19, .ref a_20])), (a_7, .inl (cy 1, 30, .inl (mm_g [i_20, i_21, i_22, i_23, i_24, i_25, i_26, i_27, i_28, i_29, i_30, i_31, i_32, i_33, i_34, i_35, i_36, i_37, i_38, i_39, i_40, i_41, i_42, i_43, i_44, i_45, i_46, i_47, i_48, i_49]))), (a_8, .inl (cy 1, 90, .inl f_0)), (a_11, .inl (cy 1, 30, .inl f_1)), (a_12, .inl (cy 1, 240, .inl f_2)), (a_13, .inl (cy 1, 450, .inl f_3)), (a_15, .inl (cy 1, 7200, .inl f_4)), (a_16, .inl (cy 1, 3, .inl f_5)), (a_18, .inl (cy 1, 8, .inl n217))] H) (hD : va_D A [(a_0, .inr (12, [.int i_3, .ref a_1, .ref a_2, .ref a_3, .ref a_4, .ref a_5, .int i_4, .int i_5, .int i_6, .int i_7, .int i_8, .long j_0, .int i_9, .int i_10, .int i_11, .int i_12, .ref a_6, .ref a_7, .ref a_8, .ref a_9, .ref a_10, .ref a_11, .ref a_12, .ref a_13, .ref a_14, .ref a_15, .ref a_16, .ref a_17, .ref a_18, .int n214, .int n215, .int n216, .int i_16, .int i_17, .int i_18, .ref a_19, .int i_19, .ref a_20])), (a_7, .inl (cy 1, 30, .inl (mm_g [i_20, i_21, i_22, i_23, i_24, i_25, i_26, i_27, i_28, i_29, i_30, i_31, i_32, i_33, i_34, i_35, i_36, i_37, i_38, i_39, i_40, i_41, i_42, i_43, i_44, i_45, i_46, i_47, i_48, i_49]))), (a_8, .inl (cy 1, 90, .inl f_0)), (a_11, .inl (cy 1, 30, .inl f_1)), (a_12, .inl (cy 1, 240, .inl f_2)), (a_13, .inl (cy 1, 450, .inl f_3)), (a_15, .inl (cy 1, 7200, .inl f_4)), (a_16, .inl (cy 1, 3, .inl f_5)), (a_18, .inl (cy 1, 8, .inl n217))]) hS
        obtain ⟨w219, w220, hw⟩ := hw
        obtain ⟨w221, w222⟩ := hw
        replace w222 : mm_rd f_4 f_5 f_0 f_1 f_2 f_3 i_0 x12_5_205 i_2 i_21 i_22 i_25 v218 := w222
        refine lv_iload hx hb dX12_isNew_26 (lv_at hl 1 rfl) ?_
        refine lv_icmp_ne (tgt := 33) hx hb dX12_isNew_28 (by decide) (fun c223 => ?_) (fun c223 => ?_)
        · obtain ⟨v224, ev224⟩ : ∃ y : Int32, y = x12_5_205 + 1 := ⟨_, rfl⟩
          refine lv_iinc (v := v224) (lv' := [(5, .int v224), (4, .int v5), (0, .ref a_0), (1, .int i_0), (2, .int i_1), (3, .int i_2)]) hx hb dX12_isNew_33 hl (k := 0) rfl (by rw [ev224]; rfl) (by decide) rfl ?_
          clear hl
          clear ls
          intro ls hl
          have rv224 : mm_rg v224 1 209 := mm_add ev224 q212 mm_k1 (by decide) (by decide)
          have tv224 := mm_addEc ev224 q212 mm_k1 (by decide) (k := 1) (by decide)
          refine lv_goto (tgt := 12) hx hb dX12_isNew_36 (by decide) ?_
          exact ih12 v224 n214 n215 n216 n217 (mm_wk rv224 (by decide)) w219 w220 (mm_mu hm12 tv224 (by decide) (rv224).2 (by decide)) H locs hP hD hS ls (lv_sub hl [0, 1, 2, 3, 4, 5] rfl)
        · refine lv_iconst (v := 0) hx hb dX12_isNew_31 (by decide) ?_
          subst hAe
          rw [hQ]
          exact W.zret (v := 0) hx hb hr rfl (fun t ht hW => ⟨⟨0, (n214, n215, n216, n217), rfl, ⟨w219, w220, (Or.inl ⟨rfl, q213⟩)⟩, by rw [ht]; exact hP, hK.warm hW, hD⟩, hS.F ht⟩) hS.2.2 dX12_isNew_32
  exact L12_209 _ 0 n1 n2 n3 n4 (mm_wk mm_k0 (by decide)) w6 w7 (Nat.lt_succ_self _) H locs hP hD hS ls (lv_sub hl [0, 1, 2, 3, 4, 5] rfl)

set_option maxHeartbeats 4000000 in
set_option maxRecDepth 100000 in
theorem M153_X12_sorts (l : Launch) (G : va_G) (cy : Nat → ClassId) (sz : Nat) (a_0 : Nat) (i_0 : Int32) (i_1 : Int32) (i_2 : Int32) (a_1 : Nat) (a_2 : Nat) (a_3 : Nat) (a_4 : Nat) (a_5 : Nat) (i_3 : Int32) (i_4 : Int32) (i_5 : Int32) (i_6 : Int32) (i_7 : Int32) (j_0 : Int64) (i_8 : Int32) (i_9 : Int32) (i_10 : Int32) (i_11 : Int32) (a_6 : Nat) (a_7 : Nat) (a_8 : Nat) (a_9 : Nat) (a_10 : Nat) (a_11 : Nat) (a_12 : Nat) (a_13 : Nat) (a_14 : Nat) (a_15 : Nat) (a_16 : Nat) (a_17 : Nat) (a_18 : Nat) (i_12 : Int32) (i_13 : Int32) (i_14 : Int32) (i_15 : Int32) (i_16 : Int32) (i_17 : Int32) (a_19 : Nat) (i_18 : Int32) (a_20 : Nat) (i_19 : Int32) (i_20 : Int32) (i_21 : Int32) (i_22 : Int32) (i_23 : Int32) (i_24 : Int32) (i_25 : Int32) (i_26 : Int32) (i_27 : Int32) (i_28 : Int32) (i_29 : Int32) (i_30 : Int32) (i_31 : Int32) (i_32 : Int32) (i_33 : Int32) (i_34 : Int32) (i_35 : Int32) (i_36 : Int32) (i_37 : Int32) (i_38 : Int32) (i_39 : Int32) (i_40 : Int32) (i_41 : Int32) (i_42 : Int32) (i_43 : Int32) (i_44 : Int32) (i_45 : Int32) (i_46 : Int32) (i_47 : Int32) (i_48 : Int32) (i_49 : Int32) (i_50 : Int32) (i_51 : Int32) (i_52 : Int32) (i_53 : Int32) (f_0 : Nat → Int32) (f_1 : Nat → Int32) (f_2 : Nat → Int32) (f_3 : Nat → Int32) (f_4 : Nat → Int32) (f_5 : Nat → Int32) (f_6 : Nat → Int32) (f_7 : Nat → Int32) (f_8 : Nat → Int32) (f_9 : Nat → Int32) (h0 : mm_rg i_12 0 8) (h1 : mm_rg i_19 0 601) (h2 : mm_rg i_20 0 601) (h3 : mm_rg i_21 0 601) (h4 : mm_rg i_22 0 601) (h5 : mm_rg i_23 0 601) (h6 : mm_rg i_24 0 10) (h7 : mm_rg i_25 0 99) (h8 : mm_rg i_26 0 9) (h9 : mm_rg i_27 0 3) (h10 : mm_rg i_28 0 6) (h11 : mm_rg i_29 0 30) (h12 : mm_rg i_30 0 10) (h13 : mm_rg i_31 0 99) (h14 : mm_rg i_32 0 9) (h15 : mm_rg i_33 0 3) (h16 : mm_rg i_34 0 6) (h17 : mm_rg i_35 0 30) (h18 : mm_rg i_36 0 10) (h19 : mm_rg i_37 0 99) (h20 : mm_rg i_38 0 9) (h21 : mm_rg i_39 0 3) (h22 : mm_rg i_40 0 6) (h23 : mm_rg i_41 0 30) (h24 : mm_rg i_42 0 10) (h25 : mm_rg i_43 0 99) (h26 : mm_rg i_44 0 9) (h27 : mm_rg i_45 0 3) (h28 : mm_rg i_46 0 6) (h29 : mm_rg i_47 0 30) (h30 : mm_rg i_48 0 10) (h31 : mm_rg i_49 0 99) (h32 : mm_rg i_50 0 9) (h33 : mm_rg i_51 0 3) (h34 : mm_rg i_52 0 6) (h35 : mm_rg i_53 0 30) (h36 : mm_ar f_0 0 99) (h37 : mm_ar f_1 0 7) (h38 : mm_ar f_2 0 9) (h39 : mm_ar f_3 0 8) (h40 : mm_ar f_4 0 9) (h41 : mm_ar f_5 (-1) 99) (h42 : mm_ar f_6 0 9) (h43 : mm_ar f_7 0 210) (h44 : mm_ar f_8 0 210) (h45 : mm_ar f_9 0 9) (h46 : mm_rls f_1 f_2 0 i_26 i_27) (h47 : mm_txs f_3 f_4 0 i_26 i_28) (h48 : mm_acs f_5 0 i_26 i_27 i_29) (h49 : mm_tl i_19 i_27 i_28) (h50 : mm_rls f_1 f_2 1 i_32 i_33) (h51 : mm_txs f_3 f_4 1 i_32 i_34) (h52 : mm_acs f_5 1 i_32 i_33 i_35) (h53 : mm_tl i_20 i_33 i_34) (h54 : mm_rls f_1 f_2 2 i_38 i_39) (h55 : mm_txs f_3 f_4 2 i_38 i_40) (h56 : mm_acs f_5 2 i_38 i_39 i_41) (h57 : mm_tl i_21 i_39 i_40) (h58 : mm_rls f_1 f_2 3 i_44 i_45) (h59 : mm_txs f_3 f_4 3 i_44 i_46) (h60 : mm_acs f_5 3 i_44 i_45 i_47) (h61 : mm_tl i_22 i_45 i_46)  : mm_CI l yX12_sorts (mm_ws yX12_sorts cX12_sorts 5 (some .int)) ({ frames := 14, cells := 0, slots := 0, locals := 300 } : Room) G cy sz [(a_0, .inr (12, [.int i_2, .ref a_1, .ref a_2, .ref a_3, .ref a_4, .ref a_5, .int i_3, .int i_4, .int i_5, .int i_6, .int i_7, .long j_0, .int i_8, .int i_9, .int i_10, .int i_11, .ref a_6, .ref a_7, .ref a_8, .ref a_9, .ref a_10, .ref a_11, .ref a_12, .ref a_13, .ref a_14, .ref a_15, .ref a_16, .ref a_17, .ref a_18, .int i_12, .int i_13, .int i_14, .int i_15, .int i_16, .int i_17, .ref a_19, .int i_18, .ref a_20])), (a_6, .inl (cy 1, 5, .inl (mm_g [i_19, i_20, i_21, i_22, i_23]))), (a_7, .inl (cy 1, 30, .inl (mm_g [i_24, i_25, i_26, i_27, i_28, i_29, i_30, i_31, i_32, i_33, i_34, i_35, i_36, i_37, i_38, i_39, i_40, i_41, i_42, i_43, i_44, i_45, i_46, i_47, i_48, i_49, i_50, i_51, i_52, i_53]))), (a_8, .inl (cy 1, 90, .inl f_0)), (a_9, .inl (cy 1, 15, .inl f_1)), (a_10, .inl (cy 1, 1050, .inl f_2)), (a_11, .inl (cy 1, 30, .inl f_3)), (a_12, .inl (cy 1, 240, .inl f_4)), (a_13, .inl (cy 1, 450, .inl f_5)), (a_15, .inl (cy 1, 7200, .inl f_6)), (a_16, .inl (cy 1, 3, .inl f_7)), (a_17, .inl (cy 1, 3, .inl f_8)), (a_18, .inl (cy 1, 8, .inl f_9))] [.ref a_0, .int i_0, .int i_1] (fun u : Int32 × Int32 × Int32 × (Nat → Int32) × (Nat → Int32) × (Nat → Int32) × (Nat → Int32) => [(a_0, .inr (12, [.int 0, .ref a_1, .ref a_2, .ref a_3, .ref a_4, .ref a_5, .int i_3, .int i_4, .int i_5, .int i_6, .int i_7, .long j_0, .int i_8, .int i_9, .int i_10, .int i_11, .ref a_6, .ref a_7, .ref a_8, .ref a_9, .ref a_10, .ref a_11, .ref a_12, .ref a_13, .ref a_14, .ref a_15, .ref a_16, .ref a_17, .ref a_18, .int u.1, .int u.2.1, .int u.2.2.1, .int i_15, .int i_16, .int i_17, .ref a_19, .int i_18, .ref a_20])), (a_6, .inl (cy 1, 5, .inl (mm_g [i_19, i_20, i_21, i_22, i_23]))), (a_7, .inl (cy 1, 30, .inl (mm_g [i_24, i_25, i_26, i_27, i_28, i_29, i_30, i_31, i_32, i_33, i_34, i_35, i_36, i_37, i_38, i_39, i_40, i_41, i_42, i_43, i_44, i_45, i_46, i_47, i_48, i_49, i_50, i_51, i_52, i_53]))), (a_8, .inl (cy 1, 90, .inl f_0)), (a_9, .inl (cy 1, 15, .inl f_1)), (a_10, .inl (cy 1, 1050, .inl f_2)), (a_11, .inl (cy 1, 30, .inl f_3)), (a_12, .inl (cy 1, 240, .inl f_4)), (a_13, .inl (cy 1, 450, .inl f_5)), (a_15, .inl (cy 1, 7200, .inl u.2.2.2.1)), (a_16, .inl (cy 1, 3, .inl u.2.2.2.2.1)), (a_17, .inl (cy 1, 3, .inl u.2.2.2.2.2.1)), (a_18, .inl (cy 1, 8, .inl u.2.2.2.2.2.2))]) (fun (r : Int32) (u : Int32 × Int32 × Int32 × (Nat → Int32) × (Nat → Int32) × (Nat → Int32) × (Nat → Int32)) => mm_rg u.1 0 8 ∧ mm_ar u.2.2.2.1 0 9 ∧ mm_ar u.2.2.2.2.1 0 210 ∧ mm_ar u.2.2.2.2.2.1 0 210 ∧ mm_ar u.2.2.2.2.2.2 0 9 ∧ True) 0 0 := by
  refine mm_begin (lv := [(0, .ref a_0), (1, .int i_0), (2, .int i_1)]) (by decide) (Nat.le_of_ble_eq_true rfl) rfl ?_
  intro p e s m below meth c A ls R args Q H locs hRe hQ hAe hx hb hr hlocks hml hown hnm hts hsz hA hS hP hK hD hZ hl
  have hRf : R.frames = 14 := by rw [hRe]
  have hRl : R.locals = 300 := by rw [hRe]
  have hRc : R.cells = 0 := by rw [hRe]
  have hRs : R.slots = 0 := by rw [hRe]
  refine lv_aload_n hx hb dX12_sorts_0 rfl (lv_at hl 0 rfl) ?_
  refine lv_iconst (v := 0) hx hb dX12_sorts_1 (by decide) ?_
  refine va_put (D := G) (ci := 12) (v := .int 0) (ty := tyX12 0) (C := RX12) (T := TX12) (N := 38) hx hb hts (mm_i inlX12) tyX12 tyX12_ok nmX12 hown hK.1 hP hD hS 0 rfl rfl 0 (by decide) (mm_h hts mm_w177) (fun _ h9 => h9) rfl (tyX12_ok 0 (by decide)) rfl rfl (Nat.le_of_ble_eq_true rfl) dX12_sorts_2 ?_
  clear hP hD hS
  clear H locs
  intro H locs (hP : va_P G vwCl [(a_0, .inr (12, [.int 0, .ref a_1, .ref a_2, .ref a_3, .ref a_4, .ref a_5, .int i_3, .int i_4, .int i_5, .int i_6, .int i_7, .long j_0, .int i_8, .int i_9, .int i_10, .int i_11, .ref a_6, .ref a_7, .ref a_8, .ref a_9, .ref a_10, .ref a_11, .ref a_12, .ref a_13, .ref a_14, .ref a_15, .ref a_16, .ref a_17, .ref a_18, .int i_12, .int i_13, .int i_14, .int i_15, .int i_16, .int i_17, .ref a_19, .int i_18, .ref a_20])), (a_6, .inl (cy 1, 5, .inl (mm_g [i_19, i_20, i_21, i_22, i_23]))), (a_7, .inl (cy 1, 30, .inl (mm_g [i_24, i_25, i_26, i_27, i_28, i_29, i_30, i_31, i_32, i_33, i_34, i_35, i_36, i_37, i_38, i_39, i_40, i_41, i_42, i_43, i_44, i_45, i_46, i_47, i_48, i_49, i_50, i_51, i_52, i_53]))), (a_8, .inl (cy 1, 90, .inl f_0)), (a_9, .inl (cy 1, 15, .inl f_1)), (a_10, .inl (cy 1, 1050, .inl f_2)), (a_11, .inl (cy 1, 30, .inl f_3)), (a_12, .inl (cy 1, 240, .inl f_4)), (a_13, .inl (cy 1, 450, .inl f_5)), (a_15, .inl (cy 1, 7200, .inl f_6)), (a_16, .inl (cy 1, 3, .inl f_7)), (a_17, .inl (cy 1, 3, .inl f_8)), (a_18, .inl (cy 1, 8, .inl f_9))] H) (hD : va_D A [(a_0, .inr (12, [.int 0, .ref a_1, .ref a_2, .ref a_3, .ref a_4, .ref a_5, .int i_3, .int i_4, .int i_5, .int i_6, .int i_7, .long j_0, .int i_8, .int i_9, .int i_10, .int i_11, .ref a_6, .ref a_7, .ref a_8, .ref a_9, .ref a_10, .ref a_11, .ref a_12, .ref a_13, .ref a_14, .ref a_15, .ref a_16, .ref a_17, .ref a_18, .int i_12, .int i_13, .int i_14, .int i_15, .int i_16, .int i_17, .ref a_19, .int i_18, .ref a_20])), (a_6, .inl (cy 1, 5, .inl (mm_g [i_19, i_20, i_21, i_22, i_23]))), (a_7, .inl (cy 1, 30, .inl (mm_g [i_24, i_25, i_26, i_27, i_28, i_29, i_30, i_31, i_32, i_33, i_34, i_35, i_36, i_37, i_38, i_39, i_40, i_41, i_42, i_43, i_44, i_45, i_46, i_47, i_48, i_49, i_50, i_51, i_52, i_53]))), (a_8, .inl (cy 1, 90, .inl f_0)), (a_9, .inl (cy 1, 15, .inl f_1)), (a_10, .inl (cy 1, 1050, .inl f_2)), (a_11, .inl (cy 1, 30, .inl f_3)), (a_12, .inl (cy 1, 240, .inl f_4)), (a_13, .inl (cy 1, 450, .inl f_5)), (a_15, .inl (cy 1, 7200, .inl f_6)), (a_16, .inl (cy 1, 3, .inl f_7)), (a_17, .inl (cy 1, 3, .inl f_8)), (a_18, .inl (cy 1, 8, .inl f_9))]) hS
  refine lv_aload_n hx hb dX12_sorts_5 rfl (lv_at hl 0 rfl) ?_
  refine lv_iload_n hx hb dX12_sorts_6 rfl (lv_at hl 1 rfl) ?_
  refine mm_finir (va_runV (As := [.int i_0]) (rest := []) ⟨hx, hb, hml, hown, hts⟩ (M98_X12_isLand l G cy H.size a_0 i_0 0 a_1 a_2 a_3 a_4 a_5 i_3 i_4 i_5 i_6 i_7 j_0 i_8 i_9 i_10 i_11 a_6 a_7 a_8 a_9 a_10 a_11 a_12 a_13 a_14 a_15 a_16 a_17 a_18 i_12 i_13 i_14 i_15 i_16 i_17 a_19 i_18 a_20 i_24 i_25 i_26 i_27 i_28 i_29 i_30 i_31 i_32 i_33 i_34 i_35 i_36 i_37 i_38 i_39 i_40 i_41 i_42 i_43 i_44 i_45 i_46 i_47 i_48 i_49 i_50 i_51 i_52 i_53 h6 h7 h8 h9 h10 h11 h12 h13 h14 h15 h16 h17 h18 h19 h20 h21 h22 h23 h24 h25 h26 h27 h28 h29 h30 h31 h32 h33 h34 h35) (cwV 1 hts (mm_gV mm_w641 mm_w642 mm_w643 mm_w5 mm_w644) rfl rfl rfl hd_X12_isLand ⟨by rw [hRf]; exact Nat.le_of_ble_eq_true rfl, by rw [hRl]; exact Nat.le_of_ble_eq_true rfl⟩) (mm_preV hK hZ hS hA hP hD [0, 2] rfl rfl 0 rfl rfl rfl) rfl rfl hl.1 rfl (lv_room (Nat.le_of_ble_eq_true rfl)) dX12_sorts_7 ⟨by rw [hRc]; exact Nat.le_of_ble_eq_true rfl, by rw [hRs]; exact Nat.le_of_ble_eq_true rfl⟩) hP hD hS hA [0, 2] rfl (fun _ => rfl) ?_
  clear hP hD hS
  clear H locs
  intro v1 _u H locs hw hP hD hS
  rcases hw with rfl | ⟨rfl, w2, w3⟩
  · refine lv_if_eq (tgt := 22) hx hb dX12_sorts_10 (by decide) (fun c4 => ?_) (fun c4 => ?_)
    · refine lv_bipush (v := (-2)) hx hb dX12_sorts_22 (by decide) ?_
      subst hAe
      rw [hQ]
      exact W.iret (v := (-2)) hx hb hr (fun t ht hW => ⟨⟨(-2), (i_12, i_13, i_14, f_6, f_7, f_8, f_9), rfl, ⟨h0, h42, h43, h44, h45, trivial⟩, by rw [ht]; exact hP, hK.warm hW, hD⟩, hS.F ht⟩) hS.2.2 dX12_sorts_24
    · exact absurd rfl (mm_ne c4)
  · have q5 := mm_ltR (lo := 1) w3 w2 h9 (by decide)
    have q6 : mm_rg i_19 1 601 := mm_tl_3 h49 q5 h1 (by decide)
    refine lv_if_eq (tgt := 22) hx hb dX12_sorts_10 (by decide) (fun c7 => ?_) (fun c7 => ?_)
    · exact mm_eqN c7.symm mm_k0 mm_k1 (by decide)
    · refine lv_aload_n hx hb dX12_sorts_13 rfl (lv_at hl 0 rfl) ?_
      refine lv_iload_n hx hb dX12_sorts_14 rfl (lv_at hl 2 rfl) ?_
      obtain ⟨v8, ev8⟩ : ∃ y : Int64, y = i_1.toInt64 := ⟨_, rfl⟩
      refine lv_i2l hx hb dX12_sorts_15 ev8.symm ?_
      have rv8 : mm_rl v8 (-2147483648) 2147483647 := mm_i2l ev8 (mm_top i_1)
      refine mm_finir (va_runV (As := [.long v8]) (rest := []) ⟨hx, hb, hml, hown, hts⟩ (M96_X12_isText l G cy H.size a_0 v8 0 a_1 a_2 a_3 a_4 a_5 i_3 i_4 i_5 i_6 i_7 j_0 i_8 i_9 i_10 i_11 a_6 a_7 a_8 a_9 a_10 a_11 a_12 a_13 a_14 a_15 a_16 a_17 a_18 i_12 i_13 i_14 i_15 i_16 i_17 a_19 i_18 a_20 i_24 i_25 i_26 i_27 i_28 i_29 i_30 i_31 i_32 i_33 i_34 i_35 i_36 i_37 i_38 i_39 i_40 i_41 i_42 i_43 i_44 i_45 i_46 i_47 i_48 i_49 i_50 i_51 i_52 i_53 h6 h7 h8 (mm_wk q5 (by decide)) h10 h11 h12 h13 h14 h15 h16 h17 h18 h19 h20 h21 h22 h23 h24 h25 h26 h27 h28 h29 h30 h31 h32 h33 h34 h35) (cwV 1 hts (mm_gV mm_w613 mm_w614 mm_w615 mm_w5 mm_w616) rfl rfl rfl hd_X12_isText ⟨by rw [hRf]; exact Nat.le_of_ble_eq_true rfl, by rw [hRl]; exact Nat.le_of_ble_eq_true rfl⟩) (mm_preV hK hZ hS hA hP hD [0, 2] rfl rfl 0 rfl rfl rfl) rfl rfl hl.1 rfl (lv_room (Nat.le_of_ble_eq_true rfl)) dX12_sorts_16 ⟨by rw [hRc]; exact Nat.le_of_ble_eq_true rfl, by rw [hRs]; exact Nat.le_of_ble_eq_true rfl⟩) hP hD hS hA [0, 2] rfl (fun _ => rfl) ?_
      clear hP hD hS
      clear H locs
      intro v9 _u H locs hw hP hD hS
      rcases hw with rfl | ⟨rfl, w10, w11⟩
      · refine lv_if_ne (tgt := 25) hx hb dX12_sorts_19 (by decide) (fun c12 => ?_) (fun c12 => ?_)
        · exact absurd rfl (mm_ne c12)
        · refine lv_bipush (v := (-2)) hx hb dX12_sorts_22 (by decide) ?_
          subst hAe
          rw [hQ]
          exact W.iret (v := (-2)) hx hb hr (fun t ht hW => ⟨⟨(-2), (i_12, i_13, i_14, f_6, f_7, f_8, f_9), rfl, ⟨h0, h42, h43, h44, h45, trivial⟩, by rw [ht]; exact hP, hK.warm hW, hD⟩, hS.F ht⟩) hS.2.2 dX12_sorts_24
      · have q13 := mm_meet (lo := 0) (hi := 5) (mm_l2x ev8 w10) (mm_top i_1) (by decide)
        have w14 := mm_tx_lt w11 (mm_i2lE ev8)
        have q15 := mm_ltR (lo := 1) w14 q13 h10 (by decide)
        refine lv_if_ne (tgt := 25) hx hb dX12_sorts_19 (by decide) (fun c16 => ?_) (fun c16 => ?_)
        · refine lv_aload_n hx hb dX12_sorts_25 rfl (lv_at hl 0 rfl) ?_
          refine mm_finv (va_runV (As := []) (rest := []) ⟨hx, hb, hml, hown, hts⟩ (M125_X12_lays l G cy H.size a_0 0 a_1 a_2 a_3 a_4 a_5 i_3 i_4 i_5 i_6 i_7 j_0 i_8 i_9 i_10 i_11 a_6 a_7 a_8 a_9 a_10 a_11 a_12 a_13 a_14 a_15 a_16 a_17 a_18 i_12 i_13 i_14 i_15 i_16 i_17 a_19 i_18 a_20 i_19 i_20 i_21 i_22 i_23 i_24 i_25 i_26 i_27 i_28 i_29 i_30 i_31 i_32 i_33 i_34 i_35 i_36 i_37 i_38 i_39 i_40 i_41 i_42 i_43 i_44 i_45 i_46 i_47 i_48 i_49 i_50 i_51 i_52 i_53 f_1 f_2 f_5 f_6 f_7 f_8 (mm_wk q6 (by decide)) h2 h3 h4 h5 h6 h7 h8 (mm_wk q5 (by decide)) (mm_wk q15 (by decide)) h11 h12 h13 h14 h15 h16 h17 h18 h19 h20 h21 h22 h23 h24 h25 h26 h27 h28 h29 h30 h31 h32 h33 h34 h35 h37 h38 h41 h42 h43 h44 h46 h48 h49 h50 h52 h53 h54 h56 h57 h58 h60 h61) (cwV 0 hts (mm_gV mm_w686 mm_w687 mm_w688 mm_w5 mm_w689) rfl rfl rfl hd_X12_lays ⟨by rw [hRf]; exact Nat.le_of_ble_eq_true rfl, by rw [hRl]; exact Nat.le_of_ble_eq_true rfl⟩) (mm_preV hK hZ hS hA hP hD [0, 1, 2, 4, 5, 8, 9, 10, 11] rfl rfl 0 rfl rfl rfl) rfl rfl hl.1 rfl (lv_room (Nat.le_of_ble_eq_true rfl)) dX12_sorts_26 ⟨by rw [hRc]; exact Nat.le_of_ble_eq_true rfl, by rw [hRs]; exact Nat.le_of_ble_eq_true rfl⟩) hP hD hS hA (fun u : (Nat → Int32) × (Nat → Int32) × (Nat → Int32) => [(a_0, .inr (12, [.int 0, .ref a_1, .ref a_2, .ref a_3, .ref a_4, .ref a_5, .int i_3, .int i_4, .int i_5, .int i_6, .int i_7, .long j_0, .int i_8, .int i_9, .int i_10, .int i_11, .ref a_6, .ref a_7, .ref a_8, .ref a_9, .ref a_10, .ref a_11, .ref a_12, .ref a_13, .ref a_14, .ref a_15, .ref a_16, .ref a_17, .ref a_18, .int i_12, .int i_13, .int i_14, .int i_15, .int i_16, .int i_17, .ref a_19, .int i_18, .ref a_20])), (a_6, .inl (cy 1, 5, .inl (mm_g [i_19, i_20, i_21, i_22, i_23]))), (a_7, .inl (cy 1, 30, .inl (mm_g [i_24, i_25, i_26, i_27, i_28, i_29, i_30, i_31, i_32, i_33, i_34, i_35, i_36, i_37, i_38, i_39, i_40, i_41, i_42, i_43, i_44, i_45, i_46, i_47, i_48, i_49, i_50, i_51, i_52, i_53]))), (a_8, .inl (cy 1, 90, .inl f_0)), (a_9, .inl (cy 1, 15, .inl f_1)), (a_10, .inl (cy 1, 1050, .inl f_2)), (a_11, .inl (cy 1, 30, .inl f_3)), (a_12, .inl (cy 1, 240, .inl f_4)), (a_13, .inl (cy 1, 450, .inl f_5)), (a_15, .inl (cy 1, 7200, .inl u.1)), (a_16, .inl (cy 1, 3, .inl u.2.1)), (a_17, .inl (cy 1, 3, .inl u.2.2)), (a_18, .inl (cy 1, 8, .inl f_9))]) [0, 1, 2, 4, 5, 8, 9, 10, 11] [3, 6, 7, 12] (n := 13) (fun _ => rfl) (by decide +kernel) (by decide +kernel) rfl (fun _ => rfl) (wr := [(a_8, .inl (cy 1, 90, .inl f_0)), (a_11, .inl (cy 1, 30, .inl f_3)), (a_12, .inl (cy 1, 240, .inl f_4)), (a_18, .inl (cy 1, 8, .inl f_9))]) rfl (fun _ => rfl) (fun _ => @rfl _ ([a_0, a_6, a_7, a_9, a_10, a_13, a_15, a_16, a_17] : List Nat)) ?_
          clear hP hD hS
          clear H locs
          intro u
          obtain ⟨n17, n18, n19⟩ := u
          intro H locs hw (hP : va_P G vwCl [(a_0, .inr (12, [.int 0, .ref a_1, .ref a_2, .ref a_3, .ref a_4, .ref a_5, .int i_3, .int i_4, .int i_5, .int i_6, .int i_7, .long j_0, .int i_8, .int i_9, .int i_10, .int i_11, .ref a_6, .ref a_7, .ref a_8, .ref a_9, .ref a_10, .ref a_11, .ref a_12, .ref a_13, .ref a_14, .ref a_15, .ref a_16, .ref a_17, .ref a_18, .int i_12, .int i_13, .int i_14, .int i_15, .int i_16, .int i_17, .ref a_19, .int i_18, .ref a_20])), (a_6, .inl (cy 1, 5, .inl (mm_g [i_19, i_20, i_21, i_22, i_23]))), (a_7, .inl (cy 1, 30, .inl (mm_g [i_24, i_25, i_26, i_27, i_28, i_29, i_30, i_31, i_32, i_33, i_34, i_35, i_36, i_37, i_38, i_39, i_40, i_41, i_42, i_43, i_44, i_45, i_46, i_47, i_48, i_49, i_50, i_51, i_52, i_53]))), (a_8, .inl (cy 1, 90, .inl f_0)), (a_9, .inl (cy 1, 15, .inl f_1)), (a_10, .inl (cy 1, 1050, .inl f_2)), (a_11, .inl (cy 1, 30, .inl f_3)), (a_12, .inl (cy 1, 240, .inl f_4)), (a_13, .inl (cy 1, 450, .inl f_5)), (a_15, .inl (cy 1, 7200, .inl n17)), (a_16, .inl (cy 1, 3, .inl n18)), (a_17, .inl (cy 1, 3, .inl n19)), (a_18, .inl (cy 1, 8, .inl f_9))] H) (hD : va_D A [(a_0, .inr (12, [.int 0, .ref a_1, .ref a_2, .ref a_3, .ref a_4, .ref a_5, .int i_3, .int i_4, .int i_5, .int i_6, .int i_7, .long j_0, .int i_8, .int i_9, .int i_10, .int i_11, .ref a_6, .ref a_7, .ref a_8, .ref a_9, .ref a_10, .ref a_11, .ref a_12, .ref a_13, .ref a_14, .ref a_15, .ref a_16, .ref a_17, .ref a_18, .int i_12, .int i_13, .int i_14, .int i_15, .int i_16, .int i_17, .ref a_19, .int i_18, .ref a_20])), (a_6, .inl (cy 1, 5, .inl (mm_g [i_19, i_20, i_21, i_22, i_23]))), (a_7, .inl (cy 1, 30, .inl (mm_g [i_24, i_25, i_26, i_27, i_28, i_29, i_30, i_31, i_32, i_33, i_34, i_35, i_36, i_37, i_38, i_39, i_40, i_41, i_42, i_43, i_44, i_45, i_46, i_47, i_48, i_49, i_50, i_51, i_52, i_53]))), (a_8, .inl (cy 1, 90, .inl f_0)), (a_9, .inl (cy 1, 15, .inl f_1)), (a_10, .inl (cy 1, 1050, .inl f_2)), (a_11, .inl (cy 1, 30, .inl f_3)), (a_12, .inl (cy 1, 240, .inl f_4)), (a_13, .inl (cy 1, 450, .inl f_5)), (a_15, .inl (cy 1, 7200, .inl n17)), (a_16, .inl (cy 1, 3, .inl n18)), (a_17, .inl (cy 1, 3, .inl n19)), (a_18, .inl (cy 1, 8, .inl f_9))]) hS
          obtain ⟨w20, w21, w22, w23, w24⟩ := hw
          replace w23 : mm_laid n18 n19 i_27 := w23
          replace w24 : mm_tab n17 n18 i_26 i_27 := w24
          refine lv_iconst (v := 0) hx hb dX12_sorts_29 (by decide) ?_
          refine lv_istore_n (lv' := [(3, .int 0), (0, .ref a_0), (1, .int i_0), (2, .int i_1)]) hx hb dX12_sorts_30 rfl hl (by decide) rfl ?_
          clear hl
          clear ls
          intro ls hl
          refine lv_iconst (v := 0) hx hb dX12_sorts_31 (by decide) ?_
          refine lv_istore (lv' := [(4, .int 0), (3, .int 0), (0, .ref a_0), (1, .int i_0), (2, .int i_1)]) hx hb dX12_sorts_32 hl (by decide) rfl ?_
          clear hl
          clear ls
          intro ls hl
          have L34_488 : ∀ (n : Nat) (x34_4_483 : Int32) (x34_3_484 : Int32) (y34_0_29_485 : Int32) (y34_0_30_486 : Int32) (y34_0_31_487 : Int32) (z34_12_488 : Nat → Int32), mm_rg x34_4_483 0 210 → mm_rg y34_0_29_485 0 8 → mm_ar z34_12_488 0 9 → (210 - x34_4_483.toInt).toNat < n → ∀ (H : Heap) (locs : List Loc), va_P G vwCl [(a_0, .inr (12, [.int 0, .ref a_1, .ref a_2, .ref a_3, .ref a_4, .ref a_5, .int i_3, .int i_4, .int i_5, .int i_6, .int i_7, .long j_0, .int i_8, .int i_9, .int i_10, .int i_11, .ref a_6, .ref a_7, .ref a_8, .ref a_9, .ref a_10, .ref a_11, .ref a_12, .ref a_13, .ref a_14, .ref a_15, .ref a_16, .ref a_17, .ref a_18, .int y34_0_29_485, .int y34_0_30_486, .int y34_0_31_487, .int i_15, .int i_16, .int i_17, .ref a_19, .int i_18, .ref a_20])), (a_6, .inl (cy 1, 5, .inl (mm_g [i_19, i_20, i_21, i_22, i_23]))), (a_7, .inl (cy 1, 30, .inl (mm_g [i_24, i_25, i_26, i_27, i_28, i_29, i_30, i_31, i_32, i_33, i_34, i_35, i_36, i_37, i_38, i_39, i_40, i_41, i_42, i_43, i_44, i_45, i_46, i_47, i_48, i_49, i_50, i_51, i_52, i_53]))), (a_8, .inl (cy 1, 90, .inl f_0)), (a_9, .inl (cy 1, 15, .inl f_1)), (a_10, .inl (cy 1, 1050, .inl f_2)), (a_11, .inl (cy 1, 30, .inl f_3)), (a_12, .inl (cy 1, 240, .inl f_4)), (a_13, .inl (cy 1, 450, .inl f_5)), (a_15, .inl (cy 1, 7200, .inl n17)), (a_16, .inl (cy 1, 3, .inl n18)), (a_17, .inl (cy 1, 3, .inl n19)), (a_18, .inl (cy 1, 8, .inl z34_12_488))] H → va_D A [(a_0, .inr (12, [.int 0, .ref a_1, .ref a_2, .ref a_3, .ref a_4, .ref a_5, .int i_3, .int i_4, .int i_5, .int i_6, .int i_7, .long j_0, .int i_8, .int i_9, .int i_10, .int i_11, .ref a_6, .ref a_7, .ref a_8, .ref a_9, .ref a_10, .ref a_11, .ref a_12, .ref a_13, .ref a_14, .ref a_15, .ref a_16, .ref a_17, .ref a_18, .int y34_0_29_485, .int y34_0_30_486, .int y34_0_31_487, .int i_15, .int i_16, .int i_17, .ref a_19, .int i_18, .ref a_20])), (a_6, .inl (cy 1, 5, .inl (mm_g [i_19, i_20, i_21, i_22, i_23]))), (a_7, .inl (cy 1, 30, .inl (mm_g [i_24, i_25, i_26, i_27, i_28, i_29, i_30, i_31, i_32, i_33, i_34, i_35, i_36, i_37, i_38, i_39, i_40, i_41, i_42, i_43, i_44, i_45, i_46, i_47, i_48, i_49, i_50, i_51, i_52, i_53]))), (a_8, .inl (cy 1, 90, .inl f_0)), (a_9, .inl (cy 1, 15, .inl f_1)), (a_10, .inl (cy 1, 1050, .inl f_2)), (a_11, .inl (cy 1, 30, .inl f_3)), (a_12, .inl (cy 1, 240, .inl f_4)), (a_13, .inl (cy 1, 450, .inl f_5)), (a_15, .inl (cy 1, 7200, .inl n17)), (a_16, .inl (cy 1, 3, .inl n18)), (a_17, .inl (cy 1, 3, .inl n19)), (a_18, .inl (cy 1, 8, .inl z34_12_488))] → va_S A s.heap H locs → ∀ (ls : Array Slot), lv_has ls 5 [(4, .int x34_4_483), (3, .int x34_3_484), (0, .ref a_0), (1, .int i_0), (2, .int i_1)] → W p l e R s m args below meth c H locs 0 0 Q (F0 m 34 ls []) := by
            intro n
            induction n with
            | zero => intro x34_4_483 x34_3_484 y34_0_29_485 y34_0_30_486 y34_0_31_487 z34_12_488 rx34_4_483 ry34_0_29_485 rz34_12_488 hm; exact absurd hm (Nat.not_lt_zero _)
            | succ n ih34 =>
              intro x34_4_483 x34_3_484 y34_0_29_485 y34_0_30_486 y34_0_31_487 z34_12_488 rx34_4_483 ry34_0_29_485 rz34_12_488 hm34 H locs hP hD hS ls hl
              refine lv_iload hx hb dX12_sorts_34 (lv_at hl 0 rfl) ?_
              refine lv_aload_n hx hb dX12_sorts_36 rfl (lv_at hl 2 rfl) ?_
              refine va_get (D := G) (ci := 12) (v := .ref a_16) (C := RX12) (T := TX12) (N := 38) hx hb hts (mm_i inlX12) hown hK.1 hP 0 rfl rfl 26 (by decide) (mm_h hts mm_w158) (fun _ h9 => h9) rfl dX12_sorts_37 ?_
              refine lv_iload_n hx hb dX12_sorts_40 rfl (lv_at hl 3 rfl) ?_
              refine va_iald hx hb hK.1 hP 10 1 rfl rfl (mm_in w2 (by decide)) dX12_sorts_41 ?_
              refine lv_topi (fun v490 ev490 => ?_)
              have rv490 : mm_rg v490 0 210 := mm_eqv ev490 (w21 _)
              have q491 : mm_rg v490 1 210 := mm_laid_ld0 w23 w3 ev490 w2 rv490 (by decide)
              refine lv_icmp_ge (tgt := 70) hx hb dX12_sorts_42 (by decide) (fun c492 => ?_) (fun c492 => ?_)
              · have q493 := mm_leR (mm_le c492) q491 rx34_4_483
                refine lv_iload_n hx hb dX12_sorts_70 rfl (lv_at hl 1 rfl) ?_
                subst hAe
                rw [hQ]
                exact W.iret (v := x34_3_484) hx hb hr (fun t ht hW => ⟨⟨x34_3_484, (y34_0_29_485, y34_0_30_486, y34_0_31_487, n17, n18, n19, z34_12_488), rfl, ⟨ry34_0_29_485, w20, w21, w22, rz34_12_488, trivial⟩, by rw [ht]; exact hP, hK.warm hW, hD⟩, hS.F ht⟩) hS.2.2 dX12_sorts_71
              · have q494 := mm_ltL (h := 209) (mm_nle c492) rx34_4_483 q491 (by decide)
                refine lv_iload_n hx hb dX12_sorts_45 rfl (lv_at hl 1 rfl) ?_
                refine lv_aload_n hx hb dX12_sorts_46 rfl (lv_at hl 2 rfl) ?_
                refine lv_iload_n hx hb dX12_sorts_47 rfl (lv_at hl 3 rfl) ?_
                refine lv_iload hx hb dX12_sorts_48 (lv_at hl 0 rfl) ?_
                refine lv_iload_n hx hb dX12_sorts_50 rfl (lv_at hl 4 rfl) ?_
                refine mm_fini (va_runV (As := [.int i_0, .int x34_4_483, .int i_1]) (rest := [.int x34_3_484]) ⟨hx, hb, hml, hown, hts⟩ (M152_X12_isNew l G cy H.size a_0 i_0 x34_4_483 i_1 0 a_1 a_2 a_3 a_4 a_5 i_3 i_4 i_5 i_6 i_7 j_0 i_8 i_9 i_10 i_11 a_6 a_7 a_8 a_9 a_10 a_11 a_12 a_13 a_14 a_15 a_16 a_17 a_18 y34_0_29_485 y34_0_30_486 y34_0_31_487 i_15 i_16 i_17 a_19 i_18 a_20 i_24 i_25 i_26 i_27 i_28 i_29 i_30 i_31 i_32 i_33 i_34 i_35 i_36 i_37 i_38 i_39 i_40 i_41 i_42 i_43 i_44 i_45 i_46 i_47 i_48 i_49 i_50 i_51 i_52 i_53 f_0 f_3 f_4 f_5 n17 n18 z34_12_488 w2 q494 q13 ry34_0_29_485 h6 h7 h8 (mm_wk q5 (by decide)) (mm_wk q15 (by decide)) h11 h12 h13 h14 h15 h16 h17 h18 h19 h20 h21 h22 h23 h24 h25 h26 h27 h28 h29 h30 h31 h32 h33 h34 h35 h36 h39 h40 h41 w20 w21 rz34_12_488 h47 h48 h51 h52 h55 h56 h59 h60 (mm_f1_l w23 w3 w2 (by decide))) (cwV 3 hts (mm_gV mm_w980 mm_w981 mm_w982 mm_w5 mm_w983) rfl rfl rfl hd_X12_isNew ⟨by rw [hRf]; exact Nat.le_of_ble_eq_true rfl, by rw [hRl]; exact Nat.le_of_ble_eq_true rfl⟩) (mm_preV hK hZ hS hA hP hD [0, 2, 3, 6, 7, 8, 9, 10, 12] rfl rfl 0 rfl rfl rfl) rfl rfl hl.1 rfl (lv_room (Nat.le_of_ble_eq_true rfl)) dX12_sorts_51 ⟨by rw [hRc]; exact Nat.le_of_ble_eq_true rfl, by rw [hRs]; exact Nat.le_of_ble_eq_true rfl⟩) hP hD hS hA (fun u : Int32 × Int32 × Int32 × (Nat → Int32) => [(a_0, .inr (12, [.int 0, .ref a_1, .ref a_2, .ref a_3, .ref a_4, .ref a_5, .int i_3, .int i_4, .int i_5, .int i_6, .int i_7, .long j_0, .int i_8, .int i_9, .int i_10, .int i_11, .ref a_6, .ref a_7, .ref a_8, .ref a_9, .ref a_10, .ref a_11, .ref a_12, .ref a_13, .ref a_14, .ref a_15, .ref a_16, .ref a_17, .ref a_18, .int u.1, .int u.2.1, .int u.2.2.1, .int i_15, .int i_16, .int i_17, .ref a_19, .int i_18, .ref a_20])), (a_6, .inl (cy 1, 5, .inl (mm_g [i_19, i_20, i_21, i_22, i_23]))), (a_7, .inl (cy 1, 30, .inl (mm_g [i_24, i_25, i_26, i_27, i_28, i_29, i_30, i_31, i_32, i_33, i_34, i_35, i_36, i_37, i_38, i_39, i_40, i_41, i_42, i_43, i_44, i_45, i_46, i_47, i_48, i_49, i_50, i_51, i_52, i_53]))), (a_8, .inl (cy 1, 90, .inl f_0)), (a_9, .inl (cy 1, 15, .inl f_1)), (a_10, .inl (cy 1, 1050, .inl f_2)), (a_11, .inl (cy 1, 30, .inl f_3)), (a_12, .inl (cy 1, 240, .inl f_4)), (a_13, .inl (cy 1, 450, .inl f_5)), (a_15, .inl (cy 1, 7200, .inl n17)), (a_16, .inl (cy 1, 3, .inl n18)), (a_17, .inl (cy 1, 3, .inl n19)), (a_18, .inl (cy 1, 8, .inl u.2.2.2))]) [0, 2, 3, 6, 7, 8, 9, 10, 12] [1, 4, 5, 11] (n := 13) (fun _ => rfl) (by decide +kernel) (by decide +kernel) rfl (fun _ => rfl) (wr := [(a_6, .inl (cy 1, 5, .inl (mm_g [i_19, i_20, i_21, i_22, i_23]))), (a_9, .inl (cy 1, 15, .inl f_1)), (a_10, .inl (cy 1, 1050, .inl f_2)), (a_17, .inl (cy 1, 3, .inl n19))]) rfl (fun _ => rfl) (fun _ => @rfl _ ([a_0, a_7, a_8, a_11, a_12, a_13, a_15, a_16, a_18] : List Nat)) ?_
                clear hP hD hS
                clear H locs
                intro v499 u
                obtain ⟨n495, n496, n497, n498⟩ := u
                intro H locs hw (hP : va_P G vwCl [(a_0, .inr (12, [.int 0, .ref a_1, .ref a_2, .ref a_3, .ref a_4, .ref a_5, .int i_3, .int i_4, .int i_5, .int i_6, .int i_7, .long j_0, .int i_8, .int i_9, .int i_10, .int i_11, .ref a_6, .ref a_7, .ref a_8, .ref a_9, .ref a_10, .ref a_11, .ref a_12, .ref a_13, .ref a_14, .ref a_15, .ref a_16, .ref a_17, .ref a_18, .int n495, .int n496, .int n497, .int i_15, .int i_16, .int i_17, .ref a_19, .int i_18, .ref a_20])), (a_6, .inl (cy 1, 5, .inl (mm_g [i_19, i_20, i_21, i_22, i_23]))), (a_7, .inl (cy 1, 30, .inl (mm_g [i_24, i_25, i_26, i_27, i_28, i_29, i_30, i_31, i_32, i_33, i_34, i_35, i_36, i_37, i_38, i_39, i_40, i_41, i_42, i_43, i_44, i_45, i_46, i_47, i_48, i_49, i_50, i_51, i_52, i_53]))), (a_8, .inl (cy 1, 90, .inl f_0)), (a_9, .inl (cy 1, 15, .inl f_1)), (a_10, .inl (cy 1, 1050, .inl f_2)), (a_11, .inl (cy 1, 30, .inl f_3)), (a_12, .inl (cy 1, 240, .inl f_4)), (a_13, .inl (cy 1, 450, .inl f_5)), (a_15, .inl (cy 1, 7200, .inl n17)), (a_16, .inl (cy 1, 3, .inl n18)), (a_17, .inl (cy 1, 3, .inl n19)), (a_18, .inl (cy 1, 8, .inl n498))] H) (hD : va_D A [(a_0, .inr (12, [.int 0, .ref a_1, .ref a_2, .ref a_3, .ref a_4, .ref a_5, .int i_3, .int i_4, .int i_5, .int i_6, .int i_7, .long j_0, .int i_8, .int i_9, .int i_10, .int i_11, .ref a_6, .ref a_7, .ref a_8, .ref a_9, .ref a_10, .ref a_11, .ref a_12, .ref a_13, .ref a_14, .ref a_15, .ref a_16, .ref a_17, .ref a_18, .int n495, .int n496, .int n497, .int i_15, .int i_16, .int i_17, .ref a_19, .int i_18, .ref a_20])), (a_6, .inl (cy 1, 5, .inl (mm_g [i_19, i_20, i_21, i_22, i_23]))), (a_7, .inl (cy 1, 30, .inl (mm_g [i_24, i_25, i_26, i_27, i_28, i_29, i_30, i_31, i_32, i_33, i_34, i_35, i_36, i_37, i_38, i_39, i_40, i_41, i_42, i_43, i_44, i_45, i_46, i_47, i_48, i_49, i_50, i_51, i_52, i_53]))), (a_8, .inl (cy 1, 90, .inl f_0)), (a_9, .inl (cy 1, 15, .inl f_1)), (a_10, .inl (cy 1, 1050, .inl f_2)), (a_11, .inl (cy 1, 30, .inl f_3)), (a_12, .inl (cy 1, 240, .inl f_4)), (a_13, .inl (cy 1, 450, .inl f_5)), (a_15, .inl (cy 1, 7200, .inl n17)), (a_16, .inl (cy 1, 3, .inl n18)), (a_17, .inl (cy 1, 3, .inl n19)), (a_18, .inl (cy 1, 8, .inl n498))]) hS
                obtain ⟨w500, w501, hw⟩ := hw
                rcases hw with ⟨rfl, w502⟩ | rfl
                · refine lv_if_eq (tgt := 61) hx hb dX12_sorts_54 (by decide) (fun c503 => ?_) (fun c503 => ?_)
                  · refine lv_iconst (v := 0) hx hb dX12_sorts_61 (by decide) ?_
                    refine lv_iadd hx hb dX12_sorts_62 ?_
                    refine lv_topi (fun v504 ev504 => ?_)
                    have rv504 : mm_rg v504 (-2147483648) 2147483647 := mm_add ev504 (mm_top x34_3_484) mm_k0 (by decide) (by decide)
                    have tv504 := mm_addEc ev504 (mm_top x34_3_484) mm_k0 (by decide) (k := 0) (by decide)
                    refine lv_istore_n (lv' := [(3, .int v504), (4, .int x34_4_483), (0, .ref a_0), (1, .int i_0), (2, .int i_1)]) hx hb dX12_sorts_63 rfl hl (by decide) rfl ?_
                    clear hl
                    clear ls
                    intro ls hl
                    obtain ⟨v505, ev505⟩ : ∃ y : Int32, y = x34_4_483 + 1 := ⟨_, rfl⟩
                    refine lv_iinc (v := v505) (lv' := [(4, .int v505), (3, .int v504), (0, .ref a_0), (1, .int i_0), (2, .int i_1)]) hx hb dX12_sorts_64 hl (k := 1) rfl (by rw [ev505]; rfl) (by decide) rfl ?_
                    clear hl
                    clear ls
                    intro ls hl
                    have rv505 : mm_rg v505 2 210 := mm_add ev505 w502 mm_k1 (by decide) (by decide)
                    have tv505 := mm_addEc ev505 w502 mm_k1 (by decide) (k := 1) (by decide)
                    refine lv_goto (tgt := 34) hx hb dX12_sorts_67 (by decide) ?_
                    exact ih34 v505 v504 n495 n496 n497 n498 (mm_wk rv505 (by decide)) w500 w501 (mm_mu hm34 tv505 (by decide) (rv505).2 (by decide)) H locs hP hD hS ls (lv_sub hl [0, 1, 2, 3, 4] rfl)
                  · exact absurd rfl (mm_ne c503)
                · refine lv_if_eq (tgt := 61) hx hb dX12_sorts_54 (by decide) (fun c506 => ?_) (fun c506 => ?_)
                  · exact mm_eqN c506.symm mm_k0 mm_k1 (by decide)
                  · refine lv_iconst (v := 1) hx hb dX12_sorts_57 (by decide) ?_
                    refine lv_goto (tgt := 62) hx hb dX12_sorts_58 (by decide) ?_
                    refine lv_iadd hx hb dX12_sorts_62 ?_
                    refine lv_topi (fun v507 ev507 => ?_)
                    refine lv_istore_n (lv' := [(3, .int v507), (4, .int x34_4_483), (0, .ref a_0), (1, .int i_0), (2, .int i_1)]) hx hb dX12_sorts_63 rfl hl (by decide) rfl ?_
                    clear hl
                    clear ls
                    intro ls hl
                    obtain ⟨v508, ev508⟩ : ∃ y : Int32, y = x34_4_483 + 1 := ⟨_, rfl⟩
                    refine lv_iinc (v := v508) (lv' := [(4, .int v508), (3, .int v507), (0, .ref a_0), (1, .int i_0), (2, .int i_1)]) hx hb dX12_sorts_64 hl (k := 1) rfl (by rw [ev508]; rfl) (by decide) rfl ?_
                    clear hl
                    clear ls
                    intro ls hl
                    have rv508 : mm_rg v508 1 210 := mm_add ev508 q494 mm_k1 (by decide) (by decide)
                    have tv508 := mm_addEc ev508 q494 mm_k1 (by decide) (k := 1) (by decide)
                    refine lv_goto (tgt := 34) hx hb dX12_sorts_67 (by decide) ?_
                    exact ih34 v508 v507 n495 n496 n497 n498 (mm_wk rv508 (by decide)) w500 w501 (mm_mu hm34 tv508 (by decide) (rv508).2 (by decide)) H locs hP hD hS ls (lv_sub hl [0, 1, 2, 3, 4] rfl)
          exact L34_488 _ 0 0 i_12 i_13 i_14 f_9 (mm_wk mm_k0 (by decide)) h0 h45 (Nat.lt_succ_self _) H locs hP hD hS ls (lv_sub hl [0, 1, 2, 3, 4] rfl)
        · exact mm_eqN c16.symm mm_k0 mm_k1 (by decide)

set_option maxHeartbeats 4000000 in
set_option maxRecDepth 100000 in
theorem M154_X12_isClear (l : Launch) (G : va_G) (cy : Nat → ClassId) (sz : Nat) (a_0 : Nat) (i_0 : Int32) (i_1 : Int32) (i_2 : Int32) (a_1 : Nat) (a_2 : Nat) (a_3 : Nat) (a_4 : Nat) (a_5 : Nat) (i_3 : Int32) (i_4 : Int32) (i_5 : Int32) (i_6 : Int32) (i_7 : Int32) (j_0 : Int64) (i_8 : Int32) (i_9 : Int32) (i_10 : Int32) (i_11 : Int32) (a_6 : Nat) (a_7 : Nat) (a_8 : Nat) (a_9 : Nat) (a_10 : Nat) (a_11 : Nat) (a_12 : Nat) (a_13 : Nat) (a_14 : Nat) (a_15 : Nat) (a_16 : Nat) (a_17 : Nat) (a_18 : Nat) (i_12 : Int32) (i_13 : Int32) (i_14 : Int32) (i_15 : Int32) (i_16 : Int32) (i_17 : Int32) (a_19 : Nat) (i_18 : Int32) (a_20 : Nat) (i_19 : Int32) (i_20 : Int32) (i_21 : Int32) (i_22 : Int32) (i_23 : Int32) (i_24 : Int32) (i_25 : Int32) (i_26 : Int32) (i_27 : Int32) (i_28 : Int32) (i_29 : Int32) (i_30 : Int32) (i_31 : Int32) (i_32 : Int32) (i_33 : Int32) (i_34 : Int32) (i_35 : Int32) (i_36 : Int32) (i_37 : Int32) (i_38 : Int32) (i_39 : Int32) (i_40 : Int32) (i_41 : Int32) (i_42 : Int32) (i_43 : Int32) (i_44 : Int32) (i_45 : Int32) (i_46 : Int32) (i_47 : Int32) (i_48 : Int32) (f_0 : Nat → Int32) (f_1 : Nat → Int32) (f_2 : Nat → Int32) (h0 : mm_rg i_0 0 2) (h1 : mm_rg i_1 0 1100000000) (h2 : mm_rg i_12 0 8) (h3 : mm_rg i_19 0 10) (h4 : mm_rg i_20 0 99) (h5 : mm_rg i_21 0 9) (h6 : mm_rg i_22 0 3) (h7 : mm_rg i_23 0 6) (h8 : mm_rg i_24 0 30) (h9 : mm_rg i_25 0 10) (h10 : mm_rg i_26 0 99) (h11 : mm_rg i_27 0 9) (h12 : mm_rg i_28 0 3) (h13 : mm_rg i_29 0 6) (h14 : mm_rg i_30 0 30) (h15 : mm_rg i_31 0 10) (h16 : mm_rg i_32 0 99) (h17 : mm_rg i_33 0 9) (h18 : mm_rg i_34 0 3) (h19 : mm_rg i_35 0 6) (h20 : mm_rg i_36 0 30) (h21 : mm_rg i_37 0 10) (h22 : mm_rg i_38 0 99) (h23 : mm_rg i_39 0 9) (h24 : mm_rg i_40 0 3) (h25 : mm_rg i_41 0 6) (h26 : mm_rg i_42 0 30) (h27 : mm_rg i_43 0 10) (h28 : mm_rg i_44 0 99) (h29 : mm_rg i_45 0 9) (h30 : mm_rg i_46 0 3) (h31 : mm_rg i_47 0 6) (h32 : mm_rg i_48 0 30) (h33 : mm_ar f_0 0 9) (h34 : mm_ar f_1 0 210) (h35 : mm_ar f_2 0 9) (h36 : mm_f1 f_1 i_0)  : mm_CI l yX12_isClear (mm_ws yX12_isClear cX12_isClear 5 (some .boolean)) ({ frames := 1, cells := 0, slots := 0, locals := 23 } : Room) G cy sz [(a_0, .inr (12, [.int i_2, .ref a_1, .ref a_2, .ref a_3, .ref a_4, .ref a_5, .int i_3, .int i_4, .int i_5, .int i_6, .int i_7, .long j_0, .int i_8, .int i_9, .int i_10, .int i_11, .ref a_6, .ref a_7, .ref a_8, .ref a_9, .ref a_10, .ref a_11, .ref a_12, .ref a_13, .ref a_14, .ref a_15, .ref a_16, .ref a_17, .ref a_18, .int i_12, .int i_13, .int i_14, .int i_15, .int i_16, .int i_17, .ref a_19, .int i_18, .ref a_20])), (a_7, .inl (cy 1, 30, .inl (mm_g [i_19, i_20, i_21, i_22, i_23, i_24, i_25, i_26, i_27, i_28, i_29, i_30, i_31, i_32, i_33, i_34, i_35, i_36, i_37, i_38, i_39, i_40, i_41, i_42, i_43, i_44, i_45, i_46, i_47, i_48]))), (a_15, .inl (cy 1, 7200, .inl f_0)), (a_16, .inl (cy 1, 3, .inl f_1)), (a_18, .inl (cy 1, 8, .inl f_2))] [.ref a_0, .int i_0, .int i_1] (fun u : Unit => [(a_0, .inr (12, [.int i_2, .ref a_1, .ref a_2, .ref a_3, .ref a_4, .ref a_5, .int i_3, .int i_4, .int i_5, .int i_6, .int i_7, .long j_0, .int i_8, .int i_9, .int i_10, .int i_11, .ref a_6, .ref a_7, .ref a_8, .ref a_9, .ref a_10, .ref a_11, .ref a_12, .ref a_13, .ref a_14, .ref a_15, .ref a_16, .ref a_17, .ref a_18, .int i_12, .int i_13, .int i_14, .int i_15, .int i_16, .int i_17, .ref a_19, .int i_18, .ref a_20])), (a_7, .inl (cy 1, 30, .inl (mm_g [i_19, i_20, i_21, i_22, i_23, i_24, i_25, i_26, i_27, i_28, i_29, i_30, i_31, i_32, i_33, i_34, i_35, i_36, i_37, i_38, i_39, i_40, i_41, i_42, i_43, i_44, i_45, i_46, i_47, i_48]))), (a_15, .inl (cy 1, 7200, .inl f_0)), (a_16, .inl (cy 1, 3, .inl f_1)), (a_18, .inl (cy 1, 8, .inl f_2))]) (fun (r : Int32) (u : Unit) => ((0 = r) ∨ (1 = r))) 0 0 := by
  refine mm_begin (lv := [(0, .ref a_0), (1, .int i_0), (2, .int i_1)]) (by decide) (Nat.le_of_ble_eq_true rfl) rfl ?_
  intro p e s m below meth c A ls R args Q H locs hRe hQ hAe hx hb hr hlocks hml hown hnm hts hsz hA hS hP hK hD hZ hl
  have hRf : R.frames = 1 := by rw [hRe]
  have hRl : R.locals = 23 := by rw [hRe]
  have hRc : R.cells = 0 := by rw [hRe]
  have hRs : R.slots = 0 := by rw [hRe]
  refine lv_iconst (v := 0) hx hb dX12_isClear_0 (by decide) ?_
  refine lv_istore_n (lv' := [(3, .int 0), (0, .ref a_0), (1, .int i_0), (2, .int i_1)]) hx hb dX12_isClear_1 rfl hl (by decide) rfl ?_
  clear hl
  clear ls
  intro ls hl
  have L2_588 : ∀ (n : Nat) (x2_3_588 : Int32), mm_rg x2_3_588 0 8 → (8 - x2_3_588.toInt).toNat < n → ∀ (H : Heap) (locs : List Loc), va_P G vwCl [(a_0, .inr (12, [.int i_2, .ref a_1, .ref a_2, .ref a_3, .ref a_4, .ref a_5, .int i_3, .int i_4, .int i_5, .int i_6, .int i_7, .long j_0, .int i_8, .int i_9, .int i_10, .int i_11, .ref a_6, .ref a_7, .ref a_8, .ref a_9, .ref a_10, .ref a_11, .ref a_12, .ref a_13, .ref a_14, .ref a_15, .ref a_16, .ref a_17, .ref a_18, .int i_12, .int i_13, .int i_14, .int i_15, .int i_16, .int i_17, .ref a_19, .int i_18, .ref a_20])), (a_7, .inl (cy 1, 30, .inl (mm_g [i_19, i_20, i_21, i_22, i_23, i_24, i_25, i_26, i_27, i_28, i_29, i_30, i_31, i_32, i_33, i_34, i_35, i_36, i_37, i_38, i_39, i_40, i_41, i_42, i_43, i_44, i_45, i_46, i_47, i_48]))), (a_15, .inl (cy 1, 7200, .inl f_0)), (a_16, .inl (cy 1, 3, .inl f_1)), (a_18, .inl (cy 1, 8, .inl f_2))] H → va_D A [(a_0, .inr (12, [.int i_2, .ref a_1, .ref a_2, .ref a_3, .ref a_4, .ref a_5, .int i_3, .int i_4, .int i_5, .int i_6, .int i_7, .long j_0, .int i_8, .int i_9, .int i_10, .int i_11, .ref a_6, .ref a_7, .ref a_8, .ref a_9, .ref a_10, .ref a_11, .ref a_12, .ref a_13, .ref a_14, .ref a_15, .ref a_16, .ref a_17, .ref a_18, .int i_12, .int i_13, .int i_14, .int i_15, .int i_16, .int i_17, .ref a_19, .int i_18, .ref a_20])), (a_7, .inl (cy 1, 30, .inl (mm_g [i_19, i_20, i_21, i_22, i_23, i_24, i_25, i_26, i_27, i_28, i_29, i_30, i_31, i_32, i_33, i_34, i_35, i_36, i_37, i_38, i_39, i_40, i_41, i_42, i_43, i_44, i_45, i_46, i_47, i_48]))), (a_15, .inl (cy 1, 7200, .inl f_0)), (a_16, .inl (cy 1, 3, .inl f_1)), (a_18, .inl (cy 1, 8, .inl f_2))] → va_S A s.heap H locs → ∀ (ls : Array Slot), lv_has ls 5 [(3, .int x2_3_588), (0, .ref a_0), (1, .int i_0), (2, .int i_1)] → W p l e R s m args below meth c H locs 0 0 Q (F0 m 2 ls []) := by
    intro n
    induction n with
    | zero => intro x2_3_588 rx2_3_588 hm; exact absurd hm (Nat.not_lt_zero _)
    | succ n ih2 =>
      intro x2_3_588 rx2_3_588 hm2 H locs hP hD hS ls hl
      refine lv_iload_n hx hb dX12_isClear_2 rfl (lv_at hl 0 rfl) ?_
      refine lv_aload_n hx hb dX12_isClear_3 rfl (lv_at hl 1 rfl) ?_
      refine va_get (D := G) (ci := 12) (v := .int i_12) (C := RX12) (T := TX12) (N := 38) hx hb hts (mm_i inlX12) hown hK.1 hP 0 rfl rfl 29 (by decide) (mm_h hts mm_w860) (fun _ h9 => h9) rfl dX12_isClear_4 ?_
      refine lv_icmp_ge (tgt := 70) hx hb dX12_isClear_7 (by decide) (fun c590 => ?_) (fun c590 => ?_)
      · refine lv_iconst (v := 1) hx hb dX12_isClear_70 (by decide) ?_
        subst hAe
        rw [hQ]
        exact W.zret (v := 1) hx hb hr rfl (fun t ht hW => ⟨⟨1, (), rfl, (Or.inr rfl), by rw [ht]; exact hP, hK.warm hW, hD⟩, hS.F ht⟩) hS.2.2 dX12_isClear_71
      · have q591 := mm_ltL (h := 7) (mm_nle c590) rx2_3_588 h2 (by decide)
        have q592 := mm_ltR (lo := 1) (mm_nle c590) rx2_3_588 h2 (by decide)
        refine lv_aload_n hx hb dX12_isClear_10 rfl (lv_at hl 1 rfl) ?_
        refine lv_iload_n hx hb dX12_isClear_11 rfl (lv_at hl 2 rfl) ?_
        refine lv_iload_n hx hb dX12_isClear_12 rfl (lv_at hl 3 rfl) ?_
        refine lv_aload_n hx hb dX12_isClear_13 rfl (lv_at hl 1 rfl) ?_
        refine va_get (D := G) (ci := 12) (v := .ref a_18) (C := RX12) (T := TX12) (N := 38) hx hb hts (mm_i inlX12) hown hK.1 hP 0 rfl rfl 28 (by decide) (mm_h hts mm_w160) (fun _ h9 => h9) rfl dX12_isClear_14 ?_
        refine lv_iload_n hx hb dX12_isClear_17 rfl (lv_at hl 0 rfl) ?_
        refine va_iald hx hb hK.1 hP 4 1 rfl rfl (mm_in q591 (by decide)) dX12_isClear_18 ?_
        refine lv_topi (fun v593 ev593 => ?_)
        have rv593 : mm_rg v593 0 9 := mm_eqv ev593 (h35 _)
        refine mm_finir (va_runV (As := [.int i_0, .int i_1, .int v593]) (rest := []) ⟨hx, hb, hml, hown, hts⟩ (M122_X12_means0 l G cy H.size a_0 i_0 i_1 v593 i_2 a_1 a_2 a_3 a_4 a_5 i_3 i_4 i_5 i_6 i_7 j_0 i_8 i_9 i_10 i_11 a_6 a_7 a_8 a_9 a_10 a_11 a_12 a_13 a_14 a_15 a_16 a_17 a_18 i_12 i_13 i_14 i_15 i_16 i_17 a_19 i_18 a_20 f_0 f_1 h0 h1 rv593 h33 h34 h36) (cwV 3 hts (mm_gV mm_w713 mm_w714 mm_w715 mm_w5 mm_w716) rfl rfl rfl hd_X12_means0 ⟨by rw [hRf]; exact Nat.le_of_ble_eq_true rfl, by rw [hRl]; exact Nat.le_of_ble_eq_true rfl⟩) (mm_preV hK hZ hS hA hP hD [0, 2, 3] rfl rfl 0 rfl rfl rfl) rfl rfl hl.1 rfl (lv_room (Nat.le_of_ble_eq_true rfl)) dX12_isClear_19 ⟨by rw [hRc]; exact Nat.le_of_ble_eq_true rfl, by rw [hRs]; exact Nat.le_of_ble_eq_true rfl⟩) hP hD hS hA [0, 2, 3] rfl (fun _ => rfl) ?_
        clear hP hD hS
        clear H locs
        intro v594 _u H locs hw hP hD hS
        obtain ⟨w595, w596⟩ := hw
        refine lv_aload_n hx hb dX12_isClear_22 rfl (lv_at hl 1 rfl) ?_
        refine mm_finir (va_runV (As := []) (rest := [.int v594]) ⟨hx, hb, hml, hown, hts⟩ (M92_X12_senses l G cy H.size a_0 i_2 a_1 a_2 a_3 a_4 a_5 i_3 i_4 i_5 i_6 i_7 j_0 i_8 i_9 i_10 i_11 a_6 a_7 a_8 a_9 a_10 a_11 a_12 a_13 a_14 a_15 a_16 a_17 a_18 i_12 i_13 i_14 i_15 i_16 i_17 a_19 i_18 a_20 i_19 i_20 i_21 i_22 i_23 i_24 i_25 i_26 i_27 i_28 i_29 i_30 i_31 i_32 i_33 i_34 i_35 i_36 i_37 i_38 i_39 i_40 i_41 i_42 i_43 i_44 i_45 i_46 i_47 i_48 h3 h4 h5 h6 h7 h8 h9 h10 h11 h12 h13 h14 h15 h16 h17 h18 h19 h20 h21 h22 h23 h24 h25 h26 h27 h28 h29 h30 h31 h32) (cwV 0 hts (mm_gV mm_w588 mm_w589 mm_w590 mm_w5 mm_w591) rfl rfl rfl hd_X12_senses ⟨by rw [hRf]; exact Nat.le_of_ble_eq_true rfl, by rw [hRl]; exact Nat.le_of_ble_eq_true rfl⟩) (mm_preV hK hZ hS hA hP hD [0, 1] rfl rfl 0 rfl rfl rfl) rfl rfl hl.1 rfl (lv_room (Nat.le_of_ble_eq_true rfl)) dX12_isClear_23 ⟨by rw [hRc]; exact Nat.le_of_ble_eq_true rfl, by rw [hRs]; exact Nat.le_of_ble_eq_true rfl⟩) hP hD hS hA [0, 1] rfl (fun _ => rfl) ?_
        clear hP hD hS
        clear H locs
        intro v597 _u H locs hw hP hD hS
        subst hw
        refine lv_icmp_ne (tgt := 31) hx hb dX12_isClear_26 (by decide) (fun c598 => ?_) (fun c598 => ?_)
        · refine lv_iconst (v := 0) hx hb dX12_isClear_31 (by decide) ?_
          refine lv_istore (lv' := [(4, .int 0), (3, .int x2_3_588), (0, .ref a_0), (1, .int i_0), (2, .int i_1)]) hx hb dX12_isClear_32 hl (by decide) rfl ?_
          clear hl
          clear ls
          intro ls hl
          have L34_670 : ∀ (n : Nat) (x34_4_670 : Int32), mm_rg x34_4_670 0 7 → (7 - x34_4_670.toInt).toNat < n → ∀ (H : Heap) (locs : List Loc), va_P G vwCl [(a_0, .inr (12, [.int i_2, .ref a_1, .ref a_2, .ref a_3, .ref a_4, .ref a_5, .int i_3, .int i_4, .int i_5, .int i_6, .int i_7, .long j_0, .int i_8, .int i_9, .int i_10, .int i_11, .ref a_6, .ref a_7, .ref a_8, .ref a_9, .ref a_10, .ref a_11, .ref a_12, .ref a_13, .ref a_14, .ref a_15, .ref a_16, .ref a_17, .ref a_18, .int i_12, .int i_13, .int i_14, .int i_15, .int i_16, .int i_17, .ref a_19, .int i_18, .ref a_20])), (a_7, .inl (cy 1, 30, .inl (mm_g [i_19, i_20, i_21, i_22, i_23, i_24, i_25, i_26, i_27, i_28, i_29, i_30, i_31, i_32, i_33, i_34, i_35, i_36, i_37, i_38, i_39, i_40, i_41, i_42, i_43, i_44, i_45, i_46, i_47, i_48]))), (a_15, .inl (cy 1, 7200, .inl f_0)), (a_16, .inl (cy 1, 3, .inl f_1)), (a_18, .inl (cy 1, 8, .inl f_2))] H → va_D A [(a_0, .inr (12, [.int i_2, .ref a_1, .ref a_2, .ref a_3, .ref a_4, .ref a_5, .int i_3, .int i_4, .int i_5, .int i_6, .int i_7, .long j_0, .int i_8, .int i_9, .int i_10, .int i_11, .ref a_6, .ref a_7, .ref a_8, .ref a_9, .ref a_10, .ref a_11, .ref a_12, .ref a_13, .ref a_14, .ref a_15, .ref a_16, .ref a_17, .ref a_18, .int i_12, .int i_13, .int i_14, .int i_15, .int i_16, .int i_17, .ref a_19, .int i_18, .ref a_20])), (a_7, .inl (cy 1, 30, .inl (mm_g [i_19, i_20, i_21, i_22, i_23, i_24, i_25, i_26, i_27, i_28, i_29, i_30, i_31, i_32, i_33, i_34, i_35, i_36, i_37, i_38, i_39, i_40, i_41, i_42, i_43, i_44, i_45, i_46, i_47, i_48]))), (a_15, .inl (cy 1, 7200, .inl f_0)), (a_16, .inl (cy 1, 3, .inl f_1)), (a_18, .inl (cy 1, 8, .inl f_2))] → va_S A s.heap H locs → ∀ (ls : Array Slot), lv_has ls 5 [(4, .int x34_4_670), (3, .int x2_3_588), (0, .ref a_0), (1, .int i_0), (2, .int i_1)] → W p l e R s m args below meth c H locs 0 0 Q (F0 m 34 ls []) := by
            intro n
            induction n with
            | zero => intro x34_4_670 rx34_4_670 hm; exact absurd hm (Nat.not_lt_zero _)
            | succ n ih34 =>
              intro x34_4_670 rx34_4_670 hm34 H locs hP hD hS ls hl
              refine lv_iload hx hb dX12_isClear_34 (lv_at hl 0 rfl) ?_
              refine lv_iload_n hx hb dX12_isClear_36 rfl (lv_at hl 1 rfl) ?_
              refine lv_icmp_ge (tgt := 64) hx hb dX12_isClear_37 (by decide) (fun c672 => ?_) (fun c672 => ?_)
              · obtain ⟨v673, ev673⟩ : ∃ y : Int32, y = x2_3_588 + 1 := ⟨_, rfl⟩
                refine lv_iinc (v := v673) (lv' := [(3, .int v673), (4, .int x34_4_670), (0, .ref a_0), (1, .int i_0), (2, .int i_1)]) hx hb dX12_isClear_64 hl (k := 1) rfl (by rw [ev673]; rfl) (by decide) rfl ?_
                clear hl
                clear ls
                intro ls hl
                have rv673 : mm_rg v673 1 8 := mm_add ev673 q591 mm_k1 (by decide) (by decide)
                have tv673 := mm_addEc ev673 q591 mm_k1 (by decide) (k := 1) (by decide)
                refine lv_goto (tgt := 2) hx hb dX12_isClear_67 (by decide) ?_
                exact ih2 v673 (mm_wk rv673 (by decide)) (mm_mu hm2 tv673 (by decide) (rv673).2 (by decide)) H locs hP hD hS ls (lv_sub hl [0, 2, 3, 4] rfl)
              · have q674 := mm_ltL (h := 6) (mm_nle c672) rx34_4_670 q591 (by decide)
                have q675 := mm_ltR (lo := 1) (mm_nle c672) rx34_4_670 q591 (by decide)
                have q676 := mm_ltR (lo := 2) (mm_nle c590) q675 q592 (by decide)
                refine lv_aload_n hx hb dX12_isClear_40 rfl (lv_at hl 2 rfl) ?_
                refine va_get (D := G) (ci := 12) (v := .ref a_18) (C := RX12) (T := TX12) (N := 38) hx hb hts (mm_i inlX12) hown hK.1 hP 0 rfl rfl 28 (by decide) (mm_h hts mm_w160) (fun _ h9 => h9) rfl dX12_isClear_41 ?_
                refine lv_iload_n hx hb dX12_isClear_44 rfl (lv_at hl 1 rfl) ?_
                refine va_iald hx hb hK.1 hP 4 1 rfl rfl (mm_in q675 (by decide)) dX12_isClear_45 ?_
                refine lv_topi (fun v677 ev677 => ?_)
                have rv677 : mm_rg v677 0 9 := mm_eqv ev677 (h35 _)
                obtain rfl : v593 = v677 := ev593.trans ev677.symm
                refine lv_aload_n hx hb dX12_isClear_46 rfl (lv_at hl 2 rfl) ?_
                refine va_get (D := G) (ci := 12) (v := .ref a_18) (C := RX12) (T := TX12) (N := 38) hx hb hts (mm_i inlX12) hown hK.1 hP 0 rfl rfl 28 (by decide) (mm_h hts mm_w160) (fun _ h9 => h9) rfl dX12_isClear_47 ?_
                refine lv_iload hx hb dX12_isClear_50 (lv_at hl 0 rfl) ?_
                refine va_iald hx hb hK.1 hP 4 1 rfl rfl (mm_in q674 (by decide)) dX12_isClear_52 ?_
                refine lv_topi (fun v678 ev678 => ?_)
                have rv678 : mm_rg v678 0 9 := mm_eqv ev678 (h35 _)
                refine lv_icmp_ne (tgt := 58) hx hb dX12_isClear_53 (by decide) (fun c679 => ?_) (fun c679 => ?_)
                · obtain ⟨v680, ev680⟩ : ∃ y : Int32, y = x34_4_670 + 1 := ⟨_, rfl⟩
                  refine lv_iinc (v := v680) (lv' := [(4, .int v680), (3, .int x2_3_588), (0, .ref a_0), (1, .int i_0), (2, .int i_1)]) hx hb dX12_isClear_58 hl (k := 0) rfl (by rw [ev680]; rfl) (by decide) rfl ?_
                  clear hl
                  clear ls
                  intro ls hl
                  have rv680 : mm_rg v680 1 7 := mm_add ev680 q674 mm_k1 (by decide) (by decide)
                  have tv680 := mm_addEc ev680 q674 mm_k1 (by decide) (k := 1) (by decide)
                  refine lv_goto (tgt := 34) hx hb dX12_isClear_61 (by decide) ?_
                  exact ih34 v680 (mm_wk rv680 (by decide)) (mm_mu hm34 tv680 (by decide) (rv680).2 (by decide)) H locs hP hD hS ls (lv_sub hl [0, 1, 2, 3, 4] rfl)
                · refine lv_iconst (v := 0) hx hb dX12_isClear_56 (by decide) ?_
                  subst hAe
                  rw [hQ]
                  exact W.zret (v := 0) hx hb hr rfl (fun t ht hW => ⟨⟨0, (), rfl, (Or.inl rfl), by rw [ht]; exact hP, hK.warm hW, hD⟩, hS.F ht⟩) hS.2.2 dX12_isClear_57
          exact L34_670 _ 0 (mm_wk mm_k0 (by decide)) (Nat.lt_succ_self _) H locs hP hD hS ls (lv_sub hl [0, 1, 2, 3, 4] rfl)
        · refine lv_iconst (v := 0) hx hb dX12_isClear_29 (by decide) ?_
          subst hAe
          rw [hQ]
          exact W.zret (v := 0) hx hb hr rfl (fun t ht hW => ⟨⟨0, (), rfl, (Or.inl rfl), by rw [ht]; exact hP, hK.warm hW, hD⟩, hS.F ht⟩) hS.2.2 dX12_isClear_30
  exact L2_588 _ 0 (mm_wk mm_k0 (by decide)) (Nat.lt_succ_self _) H locs hP hD hS ls (lv_sub hl [0, 1, 2, 3] rfl)

set_option maxHeartbeats 4000000 in
set_option maxRecDepth 100000 in
theorem M155_X12_clear (l : Launch) (G : va_G) (cy : Nat → ClassId) (sz : Nat) (a_0 : Nat) (i_0 : Int32) (i_1 : Int32) (i_2 : Int32) (a_1 : Nat) (a_2 : Nat) (a_3 : Nat) (a_4 : Nat) (a_5 : Nat) (i_3 : Int32) (i_4 : Int32) (i_5 : Int32) (i_6 : Int32) (i_7 : Int32) (j_0 : Int64) (i_8 : Int32) (i_9 : Int32) (i_10 : Int32) (i_11 : Int32) (a_6 : Nat) (a_7 : Nat) (a_8 : Nat) (a_9 : Nat) (a_10 : Nat) (a_11 : Nat) (a_12 : Nat) (a_13 : Nat) (a_14 : Nat) (a_15 : Nat) (a_16 : Nat) (a_17 : Nat) (a_18 : Nat) (i_12 : Int32) (i_13 : Int32) (i_14 : Int32) (i_15 : Int32) (i_16 : Int32) (i_17 : Int32) (a_19 : Nat) (i_18 : Int32) (a_20 : Nat) (i_19 : Int32) (i_20 : Int32) (i_21 : Int32) (i_22 : Int32) (i_23 : Int32) (i_24 : Int32) (i_25 : Int32) (i_26 : Int32) (i_27 : Int32) (i_28 : Int32) (i_29 : Int32) (i_30 : Int32) (i_31 : Int32) (i_32 : Int32) (i_33 : Int32) (i_34 : Int32) (i_35 : Int32) (i_36 : Int32) (i_37 : Int32) (i_38 : Int32) (i_39 : Int32) (i_40 : Int32) (i_41 : Int32) (i_42 : Int32) (i_43 : Int32) (i_44 : Int32) (i_45 : Int32) (i_46 : Int32) (i_47 : Int32) (i_48 : Int32) (i_49 : Int32) (i_50 : Int32) (i_51 : Int32) (i_52 : Int32) (i_53 : Int32) (f_0 : Nat → Int32) (f_1 : Nat → Int32) (f_2 : Nat → Int32) (f_3 : Nat → Int32) (f_4 : Nat → Int32) (f_5 : Nat → Int32) (f_6 : Nat → Int32) (f_7 : Nat → Int32) (f_8 : Nat → Int32) (h0 : mm_rg i_12 0 8) (h1 : mm_rg i_19 0 601) (h2 : mm_rg i_20 0 601) (h3 : mm_rg i_21 0 601) (h4 : mm_rg i_22 0 601) (h5 : mm_rg i_23 0 601) (h6 : mm_rg i_24 0 10) (h7 : mm_rg i_25 0 99) (h8 : mm_rg i_26 0 9) (h9 : mm_rg i_27 0 3) (h10 : mm_rg i_28 0 6) (h11 : mm_rg i_29 0 30) (h12 : mm_rg i_30 0 10) (h13 : mm_rg i_31 0 99) (h14 : mm_rg i_32 0 9) (h15 : mm_rg i_33 0 3) (h16 : mm_rg i_34 0 6) (h17 : mm_rg i_35 0 30) (h18 : mm_rg i_36 0 10) (h19 : mm_rg i_37 0 99) (h20 : mm_rg i_38 0 9) (h21 : mm_rg i_39 0 3) (h22 : mm_rg i_40 0 6) (h23 : mm_rg i_41 0 30) (h24 : mm_rg i_42 0 10) (h25 : mm_rg i_43 0 99) (h26 : mm_rg i_44 0 9) (h27 : mm_rg i_45 0 3) (h28 : mm_rg i_46 0 6) (h29 : mm_rg i_47 0 30) (h30 : mm_rg i_48 0 10) (h31 : mm_rg i_49 0 99) (h32 : mm_rg i_50 0 9) (h33 : mm_rg i_51 0 3) (h34 : mm_rg i_52 0 6) (h35 : mm_rg i_53 0 30) (h36 : mm_ar f_0 0 7) (h37 : mm_ar f_1 0 9) (h38 : mm_ar f_2 0 8) (h39 : mm_ar f_3 0 9) (h40 : mm_ar f_4 (-1) 99) (h41 : mm_ar f_5 0 9) (h42 : mm_ar f_6 0 210) (h43 : mm_ar f_7 0 210) (h44 : mm_ar f_8 0 9) (h45 : mm_rls f_0 f_1 0 i_26 i_27) (h46 : mm_txs f_2 f_3 0 i_26 i_28) (h47 : mm_acs f_4 0 i_26 i_27 i_29) (h48 : mm_tl i_19 i_27 i_28) (h49 : mm_rls f_0 f_1 1 i_32 i_33) (h50 : mm_txs f_2 f_3 1 i_32 i_34) (h51 : mm_acs f_4 1 i_32 i_33 i_35) (h52 : mm_tl i_20 i_33 i_34) (h53 : mm_rls f_0 f_1 2 i_38 i_39) (h54 : mm_txs f_2 f_3 2 i_38 i_40) (h55 : mm_acs f_4 2 i_38 i_39 i_41) (h56 : mm_tl i_21 i_39 i_40) (h57 : mm_rls f_0 f_1 3 i_44 i_45) (h58 : mm_txs f_2 f_3 3 i_44 i_46) (h59 : mm_acs f_4 3 i_44 i_45 i_47) (h60 : mm_tl i_22 i_45 i_46)  : mm_CI l yX12_clear (mm_ws yX12_clear cX12_clear 4 (some .int)) ({ frames := 14, cells := 0, slots := 0, locals := 300 } : Room) G cy sz [(a_0, .inr (12, [.int i_2, .ref a_1, .ref a_2, .ref a_3, .ref a_4, .ref a_5, .int i_3, .int i_4, .int i_5, .int i_6, .int i_7, .long j_0, .int i_8, .int i_9, .int i_10, .int i_11, .ref a_6, .ref a_7, .ref a_8, .ref a_9, .ref a_10, .ref a_11, .ref a_12, .ref a_13, .ref a_14, .ref a_15, .ref a_16, .ref a_17, .ref a_18, .int i_12, .int i_13, .int i_14, .int i_15, .int i_16, .int i_17, .ref a_19, .int i_18, .ref a_20])), (a_6, .inl (cy 1, 5, .inl (mm_g [i_19, i_20, i_21, i_22, i_23]))), (a_7, .inl (cy 1, 30, .inl (mm_g [i_24, i_25, i_26, i_27, i_28, i_29, i_30, i_31, i_32, i_33, i_34, i_35, i_36, i_37, i_38, i_39, i_40, i_41, i_42, i_43, i_44, i_45, i_46, i_47, i_48, i_49, i_50, i_51, i_52, i_53]))), (a_9, .inl (cy 1, 15, .inl f_0)), (a_10, .inl (cy 1, 1050, .inl f_1)), (a_11, .inl (cy 1, 30, .inl f_2)), (a_12, .inl (cy 1, 240, .inl f_3)), (a_13, .inl (cy 1, 450, .inl f_4)), (a_15, .inl (cy 1, 7200, .inl f_5)), (a_16, .inl (cy 1, 3, .inl f_6)), (a_17, .inl (cy 1, 3, .inl f_7)), (a_18, .inl (cy 1, 8, .inl f_8))] [.ref a_0, .int i_0, .int i_1] (fun u : Int32 × (Nat → Int32) × (Nat → Int32) × (Nat → Int32) × (Nat → Int32) => [(a_0, .inr (12, [.int 0, .ref a_1, .ref a_2, .ref a_3, .ref a_4, .ref a_5, .int i_3, .int i_4, .int i_5, .int i_6, .int i_7, .long j_0, .int i_8, .int i_9, .int i_10, .int i_11, .ref a_6, .ref a_7, .ref a_8, .ref a_9, .ref a_10, .ref a_11, .ref a_12, .ref a_13, .ref a_14, .ref a_15, .ref a_16, .ref a_17, .ref a_18, .int u.1, .int i_13, .int i_14, .int i_15, .int i_16, .int i_17, .ref a_19, .int i_18, .ref a_20])), (a_6, .inl (cy 1, 5, .inl (mm_g [i_19, i_20, i_21, i_22, i_23]))), (a_7, .inl (cy 1, 30, .inl (mm_g [i_24, i_25, i_26, i_27, i_28, i_29, i_30, i_31, i_32, i_33, i_34, i_35, i_36, i_37, i_38, i_39, i_40, i_41, i_42, i_43, i_44, i_45, i_46, i_47, i_48, i_49, i_50, i_51, i_52, i_53]))), (a_9, .inl (cy 1, 15, .inl f_0)), (a_10, .inl (cy 1, 1050, .inl f_1)), (a_11, .inl (cy 1, 30, .inl f_2)), (a_12, .inl (cy 1, 240, .inl f_3)), (a_13, .inl (cy 1, 450, .inl f_4)), (a_15, .inl (cy 1, 7200, .inl u.2.1)), (a_16, .inl (cy 1, 3, .inl u.2.2.1)), (a_17, .inl (cy 1, 3, .inl u.2.2.2.1)), (a_18, .inl (cy 1, 8, .inl u.2.2.2.2))]) (fun (r : Int32) (u : Int32 × (Nat → Int32) × (Nat → Int32) × (Nat → Int32) × (Nat → Int32)) => mm_rg u.1 0 8 ∧ mm_ar u.2.1 0 9 ∧ mm_ar u.2.2.1 0 210 ∧ mm_ar u.2.2.2.1 0 210 ∧ mm_ar u.2.2.2.2 0 9 ∧ mm_rg r (-2) 209) 0 0 := by
  refine mm_begin (lv := [(0, .ref a_0), (1, .int i_0), (2, .int i_1)]) (by decide) (Nat.le_of_ble_eq_true rfl) rfl ?_
  intro p e s m below meth c A ls R args Q H locs hRe hQ hAe hx hb hr hlocks hml hown hnm hts hsz hA hS hP hK hD hZ hl
  have hRf : R.frames = 14 := by rw [hRe]
  have hRl : R.locals = 300 := by rw [hRe]
  have hRc : R.cells = 0 := by rw [hRe]
  have hRs : R.slots = 0 := by rw [hRe]
  refine lv_aload_n hx hb dX12_clear_0 rfl (lv_at hl 0 rfl) ?_
  refine lv_iconst (v := 0) hx hb dX12_clear_1 (by decide) ?_
  refine va_put (D := G) (ci := 12) (v := .int 0) (ty := tyX12 0) (C := RX12) (T := TX12) (N := 38) hx hb hts (mm_i inlX12) tyX12 tyX12_ok nmX12 hown hK.1 hP hD hS 0 rfl rfl 0 (by decide) (mm_h hts mm_w177) (fun _ h9 => h9) rfl (tyX12_ok 0 (by decide)) rfl rfl (Nat.le_of_ble_eq_true rfl) dX12_clear_2 ?_
  clear hP hD hS
  clear H locs
  intro H locs (hP : va_P G vwCl [(a_0, .inr (12, [.int 0, .ref a_1, .ref a_2, .ref a_3, .ref a_4, .ref a_5, .int i_3, .int i_4, .int i_5, .int i_6, .int i_7, .long j_0, .int i_8, .int i_9, .int i_10, .int i_11, .ref a_6, .ref a_7, .ref a_8, .ref a_9, .ref a_10, .ref a_11, .ref a_12, .ref a_13, .ref a_14, .ref a_15, .ref a_16, .ref a_17, .ref a_18, .int i_12, .int i_13, .int i_14, .int i_15, .int i_16, .int i_17, .ref a_19, .int i_18, .ref a_20])), (a_6, .inl (cy 1, 5, .inl (mm_g [i_19, i_20, i_21, i_22, i_23]))), (a_7, .inl (cy 1, 30, .inl (mm_g [i_24, i_25, i_26, i_27, i_28, i_29, i_30, i_31, i_32, i_33, i_34, i_35, i_36, i_37, i_38, i_39, i_40, i_41, i_42, i_43, i_44, i_45, i_46, i_47, i_48, i_49, i_50, i_51, i_52, i_53]))), (a_9, .inl (cy 1, 15, .inl f_0)), (a_10, .inl (cy 1, 1050, .inl f_1)), (a_11, .inl (cy 1, 30, .inl f_2)), (a_12, .inl (cy 1, 240, .inl f_3)), (a_13, .inl (cy 1, 450, .inl f_4)), (a_15, .inl (cy 1, 7200, .inl f_5)), (a_16, .inl (cy 1, 3, .inl f_6)), (a_17, .inl (cy 1, 3, .inl f_7)), (a_18, .inl (cy 1, 8, .inl f_8))] H) (hD : va_D A [(a_0, .inr (12, [.int 0, .ref a_1, .ref a_2, .ref a_3, .ref a_4, .ref a_5, .int i_3, .int i_4, .int i_5, .int i_6, .int i_7, .long j_0, .int i_8, .int i_9, .int i_10, .int i_11, .ref a_6, .ref a_7, .ref a_8, .ref a_9, .ref a_10, .ref a_11, .ref a_12, .ref a_13, .ref a_14, .ref a_15, .ref a_16, .ref a_17, .ref a_18, .int i_12, .int i_13, .int i_14, .int i_15, .int i_16, .int i_17, .ref a_19, .int i_18, .ref a_20])), (a_6, .inl (cy 1, 5, .inl (mm_g [i_19, i_20, i_21, i_22, i_23]))), (a_7, .inl (cy 1, 30, .inl (mm_g [i_24, i_25, i_26, i_27, i_28, i_29, i_30, i_31, i_32, i_33, i_34, i_35, i_36, i_37, i_38, i_39, i_40, i_41, i_42, i_43, i_44, i_45, i_46, i_47, i_48, i_49, i_50, i_51, i_52, i_53]))), (a_9, .inl (cy 1, 15, .inl f_0)), (a_10, .inl (cy 1, 1050, .inl f_1)), (a_11, .inl (cy 1, 30, .inl f_2)), (a_12, .inl (cy 1, 240, .inl f_3)), (a_13, .inl (cy 1, 450, .inl f_4)), (a_15, .inl (cy 1, 7200, .inl f_5)), (a_16, .inl (cy 1, 3, .inl f_6)), (a_17, .inl (cy 1, 3, .inl f_7)), (a_18, .inl (cy 1, 8, .inl f_8))]) hS
  refine lv_aload_n hx hb dX12_clear_5 rfl (lv_at hl 0 rfl) ?_
  refine lv_iload_n hx hb dX12_clear_6 rfl (lv_at hl 1 rfl) ?_
  refine mm_finir (va_runV (As := [.int i_0]) (rest := []) ⟨hx, hb, hml, hown, hts⟩ (M98_X12_isLand l G cy H.size a_0 i_0 0 a_1 a_2 a_3 a_4 a_5 i_3 i_4 i_5 i_6 i_7 j_0 i_8 i_9 i_10 i_11 a_6 a_7 a_8 a_9 a_10 a_11 a_12 a_13 a_14 a_15 a_16 a_17 a_18 i_12 i_13 i_14 i_15 i_16 i_17 a_19 i_18 a_20 i_24 i_25 i_26 i_27 i_28 i_29 i_30 i_31 i_32 i_33 i_34 i_35 i_36 i_37 i_38 i_39 i_40 i_41 i_42 i_43 i_44 i_45 i_46 i_47 i_48 i_49 i_50 i_51 i_52 i_53 h6 h7 h8 h9 h10 h11 h12 h13 h14 h15 h16 h17 h18 h19 h20 h21 h22 h23 h24 h25 h26 h27 h28 h29 h30 h31 h32 h33 h34 h35) (cwV 1 hts (mm_gV mm_w641 mm_w642 mm_w643 mm_w5 mm_w644) rfl rfl rfl hd_X12_isLand ⟨by rw [hRf]; exact Nat.le_of_ble_eq_true rfl, by rw [hRl]; exact Nat.le_of_ble_eq_true rfl⟩) (mm_preV hK hZ hS hA hP hD [0, 2] rfl rfl 0 rfl rfl rfl) rfl rfl hl.1 rfl (lv_room (Nat.le_of_ble_eq_true rfl)) dX12_clear_7 ⟨by rw [hRc]; exact Nat.le_of_ble_eq_true rfl, by rw [hRs]; exact Nat.le_of_ble_eq_true rfl⟩) hP hD hS hA [0, 2] rfl (fun _ => rfl) ?_
  clear hP hD hS
  clear H locs
  intro v1 _u H locs hw hP hD hS
  rcases hw with rfl | ⟨rfl, w2, w3⟩
  · refine lv_if_eq (tgt := 22) hx hb dX12_clear_10 (by decide) (fun c4 => ?_) (fun c4 => ?_)
    · refine lv_bipush (v := (-2)) hx hb dX12_clear_22 (by decide) ?_
      subst hAe
      rw [hQ]
      exact W.iret (v := (-2)) hx hb hr (fun t ht hW => ⟨⟨(-2), (i_12, f_5, f_6, f_7, f_8), rfl, ⟨h0, h41, h42, h43, h44, (mm_wk mm_km2 (by decide))⟩, by rw [ht]; exact hP, hK.warm hW, hD⟩, hS.F ht⟩) hS.2.2 dX12_clear_24
    · exact absurd rfl (mm_ne c4)
  · have q5 := mm_ltR (lo := 1) w3 w2 h9 (by decide)
    have q6 : mm_rg i_19 1 601 := mm_tl_3 h48 q5 h1 (by decide)
    refine lv_if_eq (tgt := 22) hx hb dX12_clear_10 (by decide) (fun c7 => ?_) (fun c7 => ?_)
    · exact mm_eqN c7.symm mm_k0 mm_k1 (by decide)
    · refine lv_aload_n hx hb dX12_clear_13 rfl (lv_at hl 0 rfl) ?_
      refine lv_iload_n hx hb dX12_clear_14 rfl (lv_at hl 2 rfl) ?_
      obtain ⟨v8, ev8⟩ : ∃ y : Int64, y = i_1.toInt64 := ⟨_, rfl⟩
      refine lv_i2l hx hb dX12_clear_15 ev8.symm ?_
      have rv8 : mm_rl v8 (-2147483648) 2147483647 := mm_i2l ev8 (mm_top i_1)
      refine mm_finir (va_runV (As := [.long v8]) (rest := []) ⟨hx, hb, hml, hown, hts⟩ (M96_X12_isText l G cy H.size a_0 v8 0 a_1 a_2 a_3 a_4 a_5 i_3 i_4 i_5 i_6 i_7 j_0 i_8 i_9 i_10 i_11 a_6 a_7 a_8 a_9 a_10 a_11 a_12 a_13 a_14 a_15 a_16 a_17 a_18 i_12 i_13 i_14 i_15 i_16 i_17 a_19 i_18 a_20 i_24 i_25 i_26 i_27 i_28 i_29 i_30 i_31 i_32 i_33 i_34 i_35 i_36 i_37 i_38 i_39 i_40 i_41 i_42 i_43 i_44 i_45 i_46 i_47 i_48 i_49 i_50 i_51 i_52 i_53 h6 h7 h8 (mm_wk q5 (by decide)) h10 h11 h12 h13 h14 h15 h16 h17 h18 h19 h20 h21 h22 h23 h24 h25 h26 h27 h28 h29 h30 h31 h32 h33 h34 h35) (cwV 1 hts (mm_gV mm_w613 mm_w614 mm_w615 mm_w5 mm_w616) rfl rfl rfl hd_X12_isText ⟨by rw [hRf]; exact Nat.le_of_ble_eq_true rfl, by rw [hRl]; exact Nat.le_of_ble_eq_true rfl⟩) (mm_preV hK hZ hS hA hP hD [0, 2] rfl rfl 0 rfl rfl rfl) rfl rfl hl.1 rfl (lv_room (Nat.le_of_ble_eq_true rfl)) dX12_clear_16 ⟨by rw [hRc]; exact Nat.le_of_ble_eq_true rfl, by rw [hRs]; exact Nat.le_of_ble_eq_true rfl⟩) hP hD hS hA [0, 2] rfl (fun _ => rfl) ?_
      clear hP hD hS
      clear H locs
      intro v9 _u H locs hw hP hD hS
      rcases hw with rfl | ⟨rfl, w10, w11⟩
      · refine lv_if_ne (tgt := 25) hx hb dX12_clear_19 (by decide) (fun c12 => ?_) (fun c12 => ?_)
        · exact absurd rfl (mm_ne c12)
        · refine lv_bipush (v := (-2)) hx hb dX12_clear_22 (by decide) ?_
          subst hAe
          rw [hQ]
          exact W.iret (v := (-2)) hx hb hr (fun t ht hW => ⟨⟨(-2), (i_12, f_5, f_6, f_7, f_8), rfl, ⟨h0, h41, h42, h43, h44, (mm_wk mm_km2 (by decide))⟩, by rw [ht]; exact hP, hK.warm hW, hD⟩, hS.F ht⟩) hS.2.2 dX12_clear_24
      · have q13 := mm_meet (lo := 0) (hi := 5) (mm_l2x ev8 w10) (mm_top i_1) (by decide)
        have w14 := mm_tx_lt w11 (mm_i2lE ev8)
        have q15 := mm_ltR (lo := 1) w14 q13 h10 (by decide)
        refine lv_if_ne (tgt := 25) hx hb dX12_clear_19 (by decide) (fun c16 => ?_) (fun c16 => ?_)
        · refine lv_aload_n hx hb dX12_clear_25 rfl (lv_at hl 0 rfl) ?_
          refine mm_finv (va_runV (As := []) (rest := []) ⟨hx, hb, hml, hown, hts⟩ (M125_X12_lays l G cy H.size a_0 0 a_1 a_2 a_3 a_4 a_5 i_3 i_4 i_5 i_6 i_7 j_0 i_8 i_9 i_10 i_11 a_6 a_7 a_8 a_9 a_10 a_11 a_12 a_13 a_14 a_15 a_16 a_17 a_18 i_12 i_13 i_14 i_15 i_16 i_17 a_19 i_18 a_20 i_19 i_20 i_21 i_22 i_23 i_24 i_25 i_26 i_27 i_28 i_29 i_30 i_31 i_32 i_33 i_34 i_35 i_36 i_37 i_38 i_39 i_40 i_41 i_42 i_43 i_44 i_45 i_46 i_47 i_48 i_49 i_50 i_51 i_52 i_53 f_0 f_1 f_4 f_5 f_6 f_7 (mm_wk q6 (by decide)) h2 h3 h4 h5 h6 h7 h8 (mm_wk q5 (by decide)) (mm_wk q15 (by decide)) h11 h12 h13 h14 h15 h16 h17 h18 h19 h20 h21 h22 h23 h24 h25 h26 h27 h28 h29 h30 h31 h32 h33 h34 h35 h36 h37 h40 h41 h42 h43 h45 h47 h48 h49 h51 h52 h53 h55 h56 h57 h59 h60) (cwV 0 hts (mm_gV mm_w686 mm_w687 mm_w688 mm_w5 mm_w689) rfl rfl rfl hd_X12_lays ⟨by rw [hRf]; exact Nat.le_of_ble_eq_true rfl, by rw [hRl]; exact Nat.le_of_ble_eq_true rfl⟩) (mm_preV hK hZ hS hA hP hD [0, 1, 2, 3, 4, 7, 8, 9, 10] rfl rfl 0 rfl rfl rfl) rfl rfl hl.1 rfl (lv_room (Nat.le_of_ble_eq_true rfl)) dX12_clear_26 ⟨by rw [hRc]; exact Nat.le_of_ble_eq_true rfl, by rw [hRs]; exact Nat.le_of_ble_eq_true rfl⟩) hP hD hS hA (fun u : (Nat → Int32) × (Nat → Int32) × (Nat → Int32) => [(a_0, .inr (12, [.int 0, .ref a_1, .ref a_2, .ref a_3, .ref a_4, .ref a_5, .int i_3, .int i_4, .int i_5, .int i_6, .int i_7, .long j_0, .int i_8, .int i_9, .int i_10, .int i_11, .ref a_6, .ref a_7, .ref a_8, .ref a_9, .ref a_10, .ref a_11, .ref a_12, .ref a_13, .ref a_14, .ref a_15, .ref a_16, .ref a_17, .ref a_18, .int i_12, .int i_13, .int i_14, .int i_15, .int i_16, .int i_17, .ref a_19, .int i_18, .ref a_20])), (a_6, .inl (cy 1, 5, .inl (mm_g [i_19, i_20, i_21, i_22, i_23]))), (a_7, .inl (cy 1, 30, .inl (mm_g [i_24, i_25, i_26, i_27, i_28, i_29, i_30, i_31, i_32, i_33, i_34, i_35, i_36, i_37, i_38, i_39, i_40, i_41, i_42, i_43, i_44, i_45, i_46, i_47, i_48, i_49, i_50, i_51, i_52, i_53]))), (a_9, .inl (cy 1, 15, .inl f_0)), (a_10, .inl (cy 1, 1050, .inl f_1)), (a_11, .inl (cy 1, 30, .inl f_2)), (a_12, .inl (cy 1, 240, .inl f_3)), (a_13, .inl (cy 1, 450, .inl f_4)), (a_15, .inl (cy 1, 7200, .inl u.1)), (a_16, .inl (cy 1, 3, .inl u.2.1)), (a_17, .inl (cy 1, 3, .inl u.2.2)), (a_18, .inl (cy 1, 8, .inl f_8))]) [0, 1, 2, 3, 4, 7, 8, 9, 10] [5, 6, 11] (n := 12) (fun _ => rfl) (by decide +kernel) (by decide +kernel) rfl (fun _ => rfl) (wr := [(a_11, .inl (cy 1, 30, .inl f_2)), (a_12, .inl (cy 1, 240, .inl f_3)), (a_18, .inl (cy 1, 8, .inl f_8))]) rfl (fun _ => rfl) (fun _ => @rfl _ ([a_0, a_6, a_7, a_9, a_10, a_13, a_15, a_16, a_17] : List Nat)) ?_
          clear hP hD hS
          clear H locs
          intro u
          obtain ⟨n17, n18, n19⟩ := u
          intro H locs hw (hP : va_P G vwCl [(a_0, .inr (12, [.int 0, .ref a_1, .ref a_2, .ref a_3, .ref a_4, .ref a_5, .int i_3, .int i_4, .int i_5, .int i_6, .int i_7, .long j_0, .int i_8, .int i_9, .int i_10, .int i_11, .ref a_6, .ref a_7, .ref a_8, .ref a_9, .ref a_10, .ref a_11, .ref a_12, .ref a_13, .ref a_14, .ref a_15, .ref a_16, .ref a_17, .ref a_18, .int i_12, .int i_13, .int i_14, .int i_15, .int i_16, .int i_17, .ref a_19, .int i_18, .ref a_20])), (a_6, .inl (cy 1, 5, .inl (mm_g [i_19, i_20, i_21, i_22, i_23]))), (a_7, .inl (cy 1, 30, .inl (mm_g [i_24, i_25, i_26, i_27, i_28, i_29, i_30, i_31, i_32, i_33, i_34, i_35, i_36, i_37, i_38, i_39, i_40, i_41, i_42, i_43, i_44, i_45, i_46, i_47, i_48, i_49, i_50, i_51, i_52, i_53]))), (a_9, .inl (cy 1, 15, .inl f_0)), (a_10, .inl (cy 1, 1050, .inl f_1)), (a_11, .inl (cy 1, 30, .inl f_2)), (a_12, .inl (cy 1, 240, .inl f_3)), (a_13, .inl (cy 1, 450, .inl f_4)), (a_15, .inl (cy 1, 7200, .inl n17)), (a_16, .inl (cy 1, 3, .inl n18)), (a_17, .inl (cy 1, 3, .inl n19)), (a_18, .inl (cy 1, 8, .inl f_8))] H) (hD : va_D A [(a_0, .inr (12, [.int 0, .ref a_1, .ref a_2, .ref a_3, .ref a_4, .ref a_5, .int i_3, .int i_4, .int i_5, .int i_6, .int i_7, .long j_0, .int i_8, .int i_9, .int i_10, .int i_11, .ref a_6, .ref a_7, .ref a_8, .ref a_9, .ref a_10, .ref a_11, .ref a_12, .ref a_13, .ref a_14, .ref a_15, .ref a_16, .ref a_17, .ref a_18, .int i_12, .int i_13, .int i_14, .int i_15, .int i_16, .int i_17, .ref a_19, .int i_18, .ref a_20])), (a_6, .inl (cy 1, 5, .inl (mm_g [i_19, i_20, i_21, i_22, i_23]))), (a_7, .inl (cy 1, 30, .inl (mm_g [i_24, i_25, i_26, i_27, i_28, i_29, i_30, i_31, i_32, i_33, i_34, i_35, i_36, i_37, i_38, i_39, i_40, i_41, i_42, i_43, i_44, i_45, i_46, i_47, i_48, i_49, i_50, i_51, i_52, i_53]))), (a_9, .inl (cy 1, 15, .inl f_0)), (a_10, .inl (cy 1, 1050, .inl f_1)), (a_11, .inl (cy 1, 30, .inl f_2)), (a_12, .inl (cy 1, 240, .inl f_3)), (a_13, .inl (cy 1, 450, .inl f_4)), (a_15, .inl (cy 1, 7200, .inl n17)), (a_16, .inl (cy 1, 3, .inl n18)), (a_17, .inl (cy 1, 3, .inl n19)), (a_18, .inl (cy 1, 8, .inl f_8))]) hS
          obtain ⟨w20, w21, w22, w23, w24⟩ := hw
          replace w23 : mm_laid n18 n19 i_27 := w23
          replace w24 : mm_tab n17 n18 i_26 i_27 := w24
          refine lv_aload_n hx hb dX12_clear_29 rfl (lv_at hl 0 rfl) ?_
          refine lv_iload_n hx hb dX12_clear_30 rfl (lv_at hl 2 rfl) ?_
          refine mm_finv (va_runV (As := [.int i_1]) (rest := []) ⟨hx, hb, hml, hown, hts⟩ (M138_X12_laysText l G cy H.size a_0 i_1 0 a_1 a_2 a_3 a_4 a_5 i_3 i_4 i_5 i_6 i_7 j_0 i_8 i_9 i_10 i_11 a_6 a_7 a_8 a_9 a_10 a_11 a_12 a_13 a_14 a_15 a_16 a_17 a_18 i_12 i_13 i_14 i_15 i_16 i_17 a_19 i_18 a_20 f_2 f_3 f_8 q13 h0 h38 h39 h44) (cwV 1 hts (mm_gV mm_w856 mm_w857 mm_w858 mm_w5 mm_w859) rfl rfl rfl hd_X12_laysText ⟨by rw [hRf]; exact Nat.le_of_ble_eq_true rfl, by rw [hRl]; exact Nat.le_of_ble_eq_true rfl⟩) (mm_preV hK hZ hS hA hP hD [0, 5, 6, 11] rfl rfl 0 rfl rfl rfl) rfl rfl hl.1 rfl (lv_room (Nat.le_of_ble_eq_true rfl)) dX12_clear_31 ⟨by rw [hRc]; exact Nat.le_of_ble_eq_true rfl, by rw [hRs]; exact Nat.le_of_ble_eq_true rfl⟩) hP hD hS hA (fun u : Int32 × (Nat → Int32) => [(a_0, .inr (12, [.int 0, .ref a_1, .ref a_2, .ref a_3, .ref a_4, .ref a_5, .int i_3, .int i_4, .int i_5, .int i_6, .int i_7, .long j_0, .int i_8, .int i_9, .int i_10, .int i_11, .ref a_6, .ref a_7, .ref a_8, .ref a_9, .ref a_10, .ref a_11, .ref a_12, .ref a_13, .ref a_14, .ref a_15, .ref a_16, .ref a_17, .ref a_18, .int u.1, .int i_13, .int i_14, .int i_15, .int i_16, .int i_17, .ref a_19, .int i_18, .ref a_20])), (a_6, .inl (cy 1, 5, .inl (mm_g [i_19, i_20, i_21, i_22, i_23]))), (a_7, .inl (cy 1, 30, .inl (mm_g [i_24, i_25, i_26, i_27, i_28, i_29, i_30, i_31, i_32, i_33, i_34, i_35, i_36, i_37, i_38, i_39, i_40, i_41, i_42, i_43, i_44, i_45, i_46, i_47, i_48, i_49, i_50, i_51, i_52, i_53]))), (a_9, .inl (cy 1, 15, .inl f_0)), (a_10, .inl (cy 1, 1050, .inl f_1)), (a_11, .inl (cy 1, 30, .inl f_2)), (a_12, .inl (cy 1, 240, .inl f_3)), (a_13, .inl (cy 1, 450, .inl f_4)), (a_15, .inl (cy 1, 7200, .inl n17)), (a_16, .inl (cy 1, 3, .inl n18)), (a_17, .inl (cy 1, 3, .inl n19)), (a_18, .inl (cy 1, 8, .inl u.2))]) [0, 5, 6, 11] [1, 2, 3, 4, 7, 8, 9, 10] (n := 12) (fun _ => rfl) (by decide +kernel) (by decide +kernel) rfl (fun _ => rfl) (wr := [(a_6, .inl (cy 1, 5, .inl (mm_g [i_19, i_20, i_21, i_22, i_23]))), (a_7, .inl (cy 1, 30, .inl (mm_g [i_24, i_25, i_26, i_27, i_28, i_29, i_30, i_31, i_32, i_33, i_34, i_35, i_36, i_37, i_38, i_39, i_40, i_41, i_42, i_43, i_44, i_45, i_46, i_47, i_48, i_49, i_50, i_51, i_52, i_53]))), (a_9, .inl (cy 1, 15, .inl f_0)), (a_10, .inl (cy 1, 1050, .inl f_1)), (a_13, .inl (cy 1, 450, .inl f_4)), (a_15, .inl (cy 1, 7200, .inl n17)), (a_16, .inl (cy 1, 3, .inl n18)), (a_17, .inl (cy 1, 3, .inl n19))]) rfl (fun _ => rfl) (fun _ => rfl) ?_
          clear hP hD hS
          clear H locs
          intro u
          obtain ⟨n25, n26⟩ := u
          intro H locs hw (hP : va_P G vwCl [(a_0, .inr (12, [.int 0, .ref a_1, .ref a_2, .ref a_3, .ref a_4, .ref a_5, .int i_3, .int i_4, .int i_5, .int i_6, .int i_7, .long j_0, .int i_8, .int i_9, .int i_10, .int i_11, .ref a_6, .ref a_7, .ref a_8, .ref a_9, .ref a_10, .ref a_11, .ref a_12, .ref a_13, .ref a_14, .ref a_15, .ref a_16, .ref a_17, .ref a_18, .int n25, .int i_13, .int i_14, .int i_15, .int i_16, .int i_17, .ref a_19, .int i_18, .ref a_20])), (a_6, .inl (cy 1, 5, .inl (mm_g [i_19, i_20, i_21, i_22, i_23]))), (a_7, .inl (cy 1, 30, .inl (mm_g [i_24, i_25, i_26, i_27, i_28, i_29, i_30, i_31, i_32, i_33, i_34, i_35, i_36, i_37, i_38, i_39, i_40, i_41, i_42, i_43, i_44, i_45, i_46, i_47, i_48, i_49, i_50, i_51, i_52, i_53]))), (a_9, .inl (cy 1, 15, .inl f_0)), (a_10, .inl (cy 1, 1050, .inl f_1)), (a_11, .inl (cy 1, 30, .inl f_2)), (a_12, .inl (cy 1, 240, .inl f_3)), (a_13, .inl (cy 1, 450, .inl f_4)), (a_15, .inl (cy 1, 7200, .inl n17)), (a_16, .inl (cy 1, 3, .inl n18)), (a_17, .inl (cy 1, 3, .inl n19)), (a_18, .inl (cy 1, 8, .inl n26))] H) (hD : va_D A [(a_0, .inr (12, [.int 0, .ref a_1, .ref a_2, .ref a_3, .ref a_4, .ref a_5, .int i_3, .int i_4, .int i_5, .int i_6, .int i_7, .long j_0, .int i_8, .int i_9, .int i_10, .int i_11, .ref a_6, .ref a_7, .ref a_8, .ref a_9, .ref a_10, .ref a_11, .ref a_12, .ref a_13, .ref a_14, .ref a_15, .ref a_16, .ref a_17, .ref a_18, .int n25, .int i_13, .int i_14, .int i_15, .int i_16, .int i_17, .ref a_19, .int i_18, .ref a_20])), (a_6, .inl (cy 1, 5, .inl (mm_g [i_19, i_20, i_21, i_22, i_23]))), (a_7, .inl (cy 1, 30, .inl (mm_g [i_24, i_25, i_26, i_27, i_28, i_29, i_30, i_31, i_32, i_33, i_34, i_35, i_36, i_37, i_38, i_39, i_40, i_41, i_42, i_43, i_44, i_45, i_46, i_47, i_48, i_49, i_50, i_51, i_52, i_53]))), (a_9, .inl (cy 1, 15, .inl f_0)), (a_10, .inl (cy 1, 1050, .inl f_1)), (a_11, .inl (cy 1, 30, .inl f_2)), (a_12, .inl (cy 1, 240, .inl f_3)), (a_13, .inl (cy 1, 450, .inl f_4)), (a_15, .inl (cy 1, 7200, .inl n17)), (a_16, .inl (cy 1, 3, .inl n18)), (a_17, .inl (cy 1, 3, .inl n19)), (a_18, .inl (cy 1, 8, .inl n26))]) hS
          obtain ⟨w27, w28, w29⟩ := hw
          replace w29 : mm_ltx f_3 f_2 i_1 n26 n25 := w29
          refine lv_iconst (v := 0) hx hb dX12_clear_34 (by decide) ?_
          refine lv_istore_n (lv' := [(3, .int 0), (0, .ref a_0), (1, .int i_0), (2, .int i_1)]) hx hb dX12_clear_35 rfl hl (by decide) rfl ?_
          clear hl
          clear ls
          intro ls hl
          have L36_171 : ∀ (n : Nat) (x36_3_171 : Int32), mm_rg x36_3_171 0 210 → (210 - x36_3_171.toInt).toNat < n → ∀ (H : Heap) (locs : List Loc), va_P G vwCl [(a_0, .inr (12, [.int 0, .ref a_1, .ref a_2, .ref a_3, .ref a_4, .ref a_5, .int i_3, .int i_4, .int i_5, .int i_6, .int i_7, .long j_0, .int i_8, .int i_9, .int i_10, .int i_11, .ref a_6, .ref a_7, .ref a_8, .ref a_9, .ref a_10, .ref a_11, .ref a_12, .ref a_13, .ref a_14, .ref a_15, .ref a_16, .ref a_17, .ref a_18, .int n25, .int i_13, .int i_14, .int i_15, .int i_16, .int i_17, .ref a_19, .int i_18, .ref a_20])), (a_6, .inl (cy 1, 5, .inl (mm_g [i_19, i_20, i_21, i_22, i_23]))), (a_7, .inl (cy 1, 30, .inl (mm_g [i_24, i_25, i_26, i_27, i_28, i_29, i_30, i_31, i_32, i_33, i_34, i_35, i_36, i_37, i_38, i_39, i_40, i_41, i_42, i_43, i_44, i_45, i_46, i_47, i_48, i_49, i_50, i_51, i_52, i_53]))), (a_9, .inl (cy 1, 15, .inl f_0)), (a_10, .inl (cy 1, 1050, .inl f_1)), (a_11, .inl (cy 1, 30, .inl f_2)), (a_12, .inl (cy 1, 240, .inl f_3)), (a_13, .inl (cy 1, 450, .inl f_4)), (a_15, .inl (cy 1, 7200, .inl n17)), (a_16, .inl (cy 1, 3, .inl n18)), (a_17, .inl (cy 1, 3, .inl n19)), (a_18, .inl (cy 1, 8, .inl n26))] H → va_D A [(a_0, .inr (12, [.int 0, .ref a_1, .ref a_2, .ref a_3, .ref a_4, .ref a_5, .int i_3, .int i_4, .int i_5, .int i_6, .int i_7, .long j_0, .int i_8, .int i_9, .int i_10, .int i_11, .ref a_6, .ref a_7, .ref a_8, .ref a_9, .ref a_10, .ref a_11, .ref a_12, .ref a_13, .ref a_14, .ref a_15, .ref a_16, .ref a_17, .ref a_18, .int n25, .int i_13, .int i_14, .int i_15, .int i_16, .int i_17, .ref a_19, .int i_18, .ref a_20])), (a_6, .inl (cy 1, 5, .inl (mm_g [i_19, i_20, i_21, i_22, i_23]))), (a_7, .inl (cy 1, 30, .inl (mm_g [i_24, i_25, i_26, i_27, i_28, i_29, i_30, i_31, i_32, i_33, i_34, i_35, i_36, i_37, i_38, i_39, i_40, i_41, i_42, i_43, i_44, i_45, i_46, i_47, i_48, i_49, i_50, i_51, i_52, i_53]))), (a_9, .inl (cy 1, 15, .inl f_0)), (a_10, .inl (cy 1, 1050, .inl f_1)), (a_11, .inl (cy 1, 30, .inl f_2)), (a_12, .inl (cy 1, 240, .inl f_3)), (a_13, .inl (cy 1, 450, .inl f_4)), (a_15, .inl (cy 1, 7200, .inl n17)), (a_16, .inl (cy 1, 3, .inl n18)), (a_17, .inl (cy 1, 3, .inl n19)), (a_18, .inl (cy 1, 8, .inl n26))] → va_S A s.heap H locs → ∀ (ls : Array Slot), lv_has ls 4 [(3, .int x36_3_171), (0, .ref a_0), (1, .int i_0), (2, .int i_1)] → W p l e R s m args below meth c H locs 0 0 Q (F0 m 36 ls []) := by
            intro n
            induction n with
            | zero => intro x36_3_171 rx36_3_171 hm; exact absurd hm (Nat.not_lt_zero _)
            | succ n ih36 =>
              intro x36_3_171 rx36_3_171 hm36 H locs hP hD hS ls hl
              refine lv_iload_n hx hb dX12_clear_36 rfl (lv_at hl 0 rfl) ?_
              refine lv_aload_n hx hb dX12_clear_37 rfl (lv_at hl 1 rfl) ?_
              refine va_get (D := G) (ci := 12) (v := .ref a_16) (C := RX12) (T := TX12) (N := 38) hx hb hts (mm_i inlX12) hown hK.1 hP 0 rfl rfl 26 (by decide) (mm_h hts mm_w158) (fun _ h9 => h9) rfl dX12_clear_38 ?_
              refine lv_iload_n hx hb dX12_clear_41 rfl (lv_at hl 2 rfl) ?_
              refine va_iald hx hb hK.1 hP 9 1 rfl rfl (mm_in w2 (by decide)) dX12_clear_42 ?_
              refine lv_topi (fun v173 ev173 => ?_)
              have rv173 : mm_rg v173 0 210 := mm_eqv ev173 (w21 _)
              have q174 : mm_rg v173 1 210 := mm_laid_ld0 w23 w3 ev173 w2 rv173 (by decide)
              refine lv_icmp_ge (tgt := 63) hx hb dX12_clear_43 (by decide) (fun c175 => ?_) (fun c175 => ?_)
              · have q176 := mm_leR (mm_le c175) q174 rx36_3_171
                refine lv_iconst (v := (-1)) hx hb dX12_clear_63 (by decide) ?_
                subst hAe
                rw [hQ]
                exact W.iret (v := (-1)) hx hb hr (fun t ht hW => ⟨⟨(-1), (n25, n17, n18, n19, n26), rfl, ⟨w27, w20, w21, w22, w28, (mm_wk mm_km1 (by decide))⟩, by rw [ht]; exact hP, hK.warm hW, hD⟩, hS.F ht⟩) hS.2.2 dX12_clear_64
              · have q177 := mm_ltL (h := 209) (mm_nle c175) rx36_3_171 q174 (by decide)
                refine lv_aload_n hx hb dX12_clear_46 rfl (lv_at hl 1 rfl) ?_
                refine lv_iload_n hx hb dX12_clear_47 rfl (lv_at hl 2 rfl) ?_
                refine lv_iload_n hx hb dX12_clear_48 rfl (lv_at hl 0 rfl) ?_
                refine mm_finir (va_runV (As := [.int i_0, .int x36_3_171]) (rest := []) ⟨hx, hb, hml, hown, hts⟩ (M154_X12_isClear l G cy H.size a_0 i_0 x36_3_171 0 a_1 a_2 a_3 a_4 a_5 i_3 i_4 i_5 i_6 i_7 j_0 i_8 i_9 i_10 i_11 a_6 a_7 a_8 a_9 a_10 a_11 a_12 a_13 a_14 a_15 a_16 a_17 a_18 n25 i_13 i_14 i_15 i_16 i_17 a_19 i_18 a_20 i_24 i_25 i_26 i_27 i_28 i_29 i_30 i_31 i_32 i_33 i_34 i_35 i_36 i_37 i_38 i_39 i_40 i_41 i_42 i_43 i_44 i_45 i_46 i_47 i_48 i_49 i_50 i_51 i_52 i_53 n17 n18 n26 w2 (mm_wk q177 (by decide)) w27 h6 h7 h8 (mm_wk q5 (by decide)) (mm_wk q15 (by decide)) h11 h12 h13 h14 h15 h16 h17 h18 h19 h20 h21 h22 h23 h24 h25 h26 h27 h28 h29 h30 h31 h32 h33 h34 h35 w20 w21 w28 (mm_f1_l w23 w3 w2 (by decide))) (cwV 2 hts (mm_gV mm_w996 mm_w997 mm_w998 mm_w5 mm_w999) rfl rfl rfl hd_X12_isClear ⟨by rw [hRf]; exact Nat.le_of_ble_eq_true rfl, by rw [hRl]; exact Nat.le_of_ble_eq_true rfl⟩) (mm_preV hK hZ hS hA hP hD [0, 2, 8, 9, 11] rfl rfl 0 rfl rfl rfl) rfl rfl hl.1 rfl (lv_room (Nat.le_of_ble_eq_true rfl)) dX12_clear_49 ⟨by rw [hRc]; exact Nat.le_of_ble_eq_true rfl, by rw [hRs]; exact Nat.le_of_ble_eq_true rfl⟩) hP hD hS hA [0, 2, 8, 9, 11] rfl (fun _ => rfl) ?_
                clear hP hD hS
                clear H locs
                intro v178 _u H locs hw hP hD hS
                rcases hw with rfl | rfl
                · refine lv_if_eq (tgt := 57) hx hb dX12_clear_52 (by decide) (fun c179 => ?_) (fun c179 => ?_)
                  · obtain ⟨v180, ev180⟩ : ∃ y : Int32, y = x36_3_171 + 1 := ⟨_, rfl⟩
                    refine lv_iinc (v := v180) (lv' := [(3, .int v180), (0, .ref a_0), (1, .int i_0), (2, .int i_1)]) hx hb dX12_clear_57 hl (k := 0) rfl (by rw [ev180]; rfl) (by decide) rfl ?_
                    clear hl
                    clear ls
                    intro ls hl
                    have rv180 : mm_rg v180 1 210 := mm_add ev180 q177 mm_k1 (by decide) (by decide)
                    have tv180 := mm_addEc ev180 q177 mm_k1 (by decide) (k := 1) (by decide)
                    refine lv_goto (tgt := 36) hx hb dX12_clear_60 (by decide) ?_
                    exact ih36 v180 (mm_wk rv180 (by decide)) (mm_mu hm36 tv180 (by decide) (rv180).2 (by decide)) H locs hP hD hS ls (lv_sub hl [0, 1, 2, 3] rfl)
                  · exact absurd rfl (mm_ne c179)
                · refine lv_if_eq (tgt := 57) hx hb dX12_clear_52 (by decide) (fun c181 => ?_) (fun c181 => ?_)
                  · exact mm_eqN c181.symm mm_k0 mm_k1 (by decide)
                  · refine lv_iload_n hx hb dX12_clear_55 rfl (lv_at hl 0 rfl) ?_
                    subst hAe
                    rw [hQ]
                    exact W.iret (v := x36_3_171) hx hb hr (fun t ht hW => ⟨⟨x36_3_171, (n25, n17, n18, n19, n26), rfl, ⟨w27, w20, w21, w22, w28, (mm_wk q177 (by decide))⟩, by rw [ht]; exact hP, hK.warm hW, hD⟩, hS.F ht⟩) hS.2.2 dX12_clear_56
          exact L36_171 _ 0 (mm_wk mm_k0 (by decide)) (Nat.lt_succ_self _) H locs hP hD hS ls (lv_sub hl [0, 1, 2, 3] rfl)
        · exact mm_eqN c16.symm mm_k0 mm_k1 (by decide)

set_option maxHeartbeats 4000000 in
set_option maxRecDepth 100000 in
theorem M156_X12_agree (l : Launch) (G : va_G) (cy : Nat → ClassId) (sz : Nat) (a_0 : Nat) (i_0 : Int32) (i_1 : Int32) (i_2 : Int32) (i_3 : Int32) (a_1 : Nat) (a_2 : Nat) (a_3 : Nat) (a_4 : Nat) (a_5 : Nat) (i_4 : Int32) (i_5 : Int32) (i_6 : Int32) (i_7 : Int32) (i_8 : Int32) (j_0 : Int64) (i_9 : Int32) (i_10 : Int32) (i_11 : Int32) (i_12 : Int32) (a_6 : Nat) (a_7 : Nat) (a_8 : Nat) (a_9 : Nat) (a_10 : Nat) (a_11 : Nat) (a_12 : Nat) (a_13 : Nat) (a_14 : Nat) (a_15 : Nat) (a_16 : Nat) (a_17 : Nat) (a_18 : Nat) (i_13 : Int32) (i_14 : Int32) (i_15 : Int32) (i_16 : Int32) (i_17 : Int32) (i_18 : Int32) (a_19 : Nat) (i_19 : Int32) (a_20 : Nat) (i_20 : Int32) (i_21 : Int32) (i_22 : Int32) (i_23 : Int32) (i_24 : Int32) (i_25 : Int32) (i_26 : Int32) (i_27 : Int32) (i_28 : Int32) (i_29 : Int32) (i_30 : Int32) (i_31 : Int32) (i_32 : Int32) (i_33 : Int32) (i_34 : Int32) (i_35 : Int32) (i_36 : Int32) (i_37 : Int32) (i_38 : Int32) (i_39 : Int32) (i_40 : Int32) (i_41 : Int32) (i_42 : Int32) (i_43 : Int32) (i_44 : Int32) (i_45 : Int32) (i_46 : Int32) (i_47 : Int32) (i_48 : Int32) (i_49 : Int32) (i_50 : Int32) (i_51 : Int32) (i_52 : Int32) (i_53 : Int32) (i_54 : Int32) (f_0 : Nat → Int32) (f_1 : Nat → Int32) (f_2 : Nat → Int32) (f_3 : Nat → Int32) (f_4 : Nat → Int32) (f_5 : Nat → Int32) (f_6 : Nat → Int32) (f_7 : Nat → Int32) (f_8 : Nat → Int32) (f_9 : Nat → Int32) (h0 : mm_rg i_13 0 8) (h1 : mm_rg i_20 0 601) (h2 : mm_rg i_21 0 601) (h3 : mm_rg i_22 0 601) (h4 : mm_rg i_23 0 601) (h5 : mm_rg i_24 0 601) (h6 : mm_rg i_25 0 10) (h7 : mm_rg i_26 0 99) (h8 : mm_rg i_27 0 9) (h9 : mm_rg i_28 0 3) (h10 : mm_rg i_29 0 6) (h11 : mm_rg i_30 0 30) (h12 : mm_rg i_31 0 10) (h13 : mm_rg i_32 0 99) (h14 : mm_rg i_33 0 9) (h15 : mm_rg i_34 0 3) (h16 : mm_rg i_35 0 6) (h17 : mm_rg i_36 0 30) (h18 : mm_rg i_37 0 10) (h19 : mm_rg i_38 0 99) (h20 : mm_rg i_39 0 9) (h21 : mm_rg i_40 0 3) (h22 : mm_rg i_41 0 6) (h23 : mm_rg i_42 0 30) (h24 : mm_rg i_43 0 10) (h25 : mm_rg i_44 0 99) (h26 : mm_rg i_45 0 9) (h27 : mm_rg i_46 0 3) (h28 : mm_rg i_47 0 6) (h29 : mm_rg i_48 0 30) (h30 : mm_rg i_49 0 10) (h31 : mm_rg i_50 0 99) (h32 : mm_rg i_51 0 9) (h33 : mm_rg i_52 0 3) (h34 : mm_rg i_53 0 6) (h35 : mm_rg i_54 0 30) (h36 : mm_ar f_0 0 99) (h37 : mm_ar f_1 0 7) (h38 : mm_ar f_2 0 9) (h39 : mm_ar f_3 0 8) (h40 : mm_ar f_4 0 9) (h41 : mm_ar f_5 (-1) 99) (h42 : mm_ar f_6 0 9) (h43 : mm_ar f_7 0 210) (h44 : mm_ar f_8 0 210) (h45 : mm_ar f_9 0 9) (h46 : mm_rls f_1 f_2 0 i_27 i_28) (h47 : mm_txs f_3 f_4 0 i_27 i_29) (h48 : mm_acs f_5 0 i_27 i_28 i_30) (h49 : mm_tl i_20 i_28 i_29) (h50 : mm_rls f_1 f_2 1 i_33 i_34) (h51 : mm_txs f_3 f_4 1 i_33 i_35) (h52 : mm_acs f_5 1 i_33 i_34 i_36) (h53 : mm_tl i_21 i_34 i_35) (h54 : mm_rls f_1 f_2 2 i_39 i_40) (h55 : mm_txs f_3 f_4 2 i_39 i_41) (h56 : mm_acs f_5 2 i_39 i_40 i_42) (h57 : mm_tl i_22 i_40 i_41) (h58 : mm_rls f_1 f_2 3 i_45 i_46) (h59 : mm_txs f_3 f_4 3 i_45 i_47) (h60 : mm_acs f_5 3 i_45 i_46 i_48) (h61 : mm_tl i_23 i_46 i_47)  : mm_CI l yX12_agree (mm_ws yX12_agree cX12_agree 5 (some .int)) ({ frames := 14, cells := 0, slots := 0, locals := 300 } : Room) G cy sz [(a_0, .inr (12, [.int i_3, .ref a_1, .ref a_2, .ref a_3, .ref a_4, .ref a_5, .int i_4, .int i_5, .int i_6, .int i_7, .int i_8, .long j_0, .int i_9, .int i_10, .int i_11, .int i_12, .ref a_6, .ref a_7, .ref a_8, .ref a_9, .ref a_10, .ref a_11, .ref a_12, .ref a_13, .ref a_14, .ref a_15, .ref a_16, .ref a_17, .ref a_18, .int i_13, .int i_14, .int i_15, .int i_16, .int i_17, .int i_18, .ref a_19, .int i_19, .ref a_20])), (a_6, .inl (cy 1, 5, .inl (mm_g [i_20, i_21, i_22, i_23, i_24]))), (a_7, .inl (cy 1, 30, .inl (mm_g [i_25, i_26, i_27, i_28, i_29, i_30, i_31, i_32, i_33, i_34, i_35, i_36, i_37, i_38, i_39, i_40, i_41, i_42, i_43, i_44, i_45, i_46, i_47, i_48, i_49, i_50, i_51, i_52, i_53, i_54]))), (a_8, .inl (cy 1, 90, .inl f_0)), (a_9, .inl (cy 1, 15, .inl f_1)), (a_10, .inl (cy 1, 1050, .inl f_2)), (a_11, .inl (cy 1, 30, .inl f_3)), (a_12, .inl (cy 1, 240, .inl f_4)), (a_13, .inl (cy 1, 450, .inl f_5)), (a_15, .inl (cy 1, 7200, .inl f_6)), (a_16, .inl (cy 1, 3, .inl f_7)), (a_17, .inl (cy 1, 3, .inl f_8)), (a_18, .inl (cy 1, 8, .inl f_9))] [.ref a_0, .int i_0, .int i_1, .int i_2] (fun u : Int32 × Int32 × Int32 × (Nat → Int32) × (Nat → Int32) × (Nat → Int32) × (Nat → Int32) => [(a_0, .inr (12, [.int 0, .ref a_1, .ref a_2, .ref a_3, .ref a_4, .ref a_5, .int i_4, .int i_5, .int i_6, .int i_7, .int i_8, .long j_0, .int i_9, .int i_10, .int i_11, .int i_12, .ref a_6, .ref a_7, .ref a_8, .ref a_9, .ref a_10, .ref a_11, .ref a_12, .ref a_13, .ref a_14, .ref a_15, .ref a_16, .ref a_17, .ref a_18, .int u.1, .int u.2.1, .int u.2.2.1, .int i_16, .int i_17, .int i_18, .ref a_19, .int i_19, .ref a_20])), (a_6, .inl (cy 1, 5, .inl (mm_g [i_20, i_21, i_22, i_23, i_24]))), (a_7, .inl (cy 1, 30, .inl (mm_g [i_25, i_26, i_27, i_28, i_29, i_30, i_31, i_32, i_33, i_34, i_35, i_36, i_37, i_38, i_39, i_40, i_41, i_42, i_43, i_44, i_45, i_46, i_47, i_48, i_49, i_50, i_51, i_52, i_53, i_54]))), (a_8, .inl (cy 1, 90, .inl f_0)), (a_9, .inl (cy 1, 15, .inl f_1)), (a_10, .inl (cy 1, 1050, .inl f_2)), (a_11, .inl (cy 1, 30, .inl f_3)), (a_12, .inl (cy 1, 240, .inl f_4)), (a_13, .inl (cy 1, 450, .inl f_5)), (a_15, .inl (cy 1, 7200, .inl u.2.2.2.1)), (a_16, .inl (cy 1, 3, .inl u.2.2.2.2.1)), (a_17, .inl (cy 1, 3, .inl u.2.2.2.2.2.1)), (a_18, .inl (cy 1, 8, .inl u.2.2.2.2.2.2))]) (fun (r : Int32) (u : Int32 × Int32 × Int32 × (Nat → Int32) × (Nat → Int32) × (Nat → Int32) × (Nat → Int32)) => mm_rg u.1 0 8 ∧ mm_ar u.2.2.2.1 0 9 ∧ mm_ar u.2.2.2.2.1 0 210 ∧ mm_ar u.2.2.2.2.2.1 0 210 ∧ mm_ar u.2.2.2.2.2.2 0 9 ∧ mm_rg r (-2) 209) 0 0 := by
  refine mm_begin (lv := [(0, .ref a_0), (1, .int i_0), (2, .int i_1), (3, .int i_2)]) (by decide) (Nat.le_of_ble_eq_true rfl) rfl ?_
  intro p e s m below meth c A ls R args Q H locs hRe hQ hAe hx hb hr hlocks hml hown hnm hts hsz hA hS hP hK hD hZ hl
  have hRf : R.frames = 14 := by rw [hRe]
  have hRl : R.locals = 300 := by rw [hRe]
  have hRc : R.cells = 0 := by rw [hRe]
  have hRs : R.slots = 0 := by rw [hRe]
  refine lv_aload_n hx hb dX12_agree_0 rfl (lv_at hl 0 rfl) ?_
  refine lv_iconst (v := 0) hx hb dX12_agree_1 (by decide) ?_
  refine va_put (D := G) (ci := 12) (v := .int 0) (ty := tyX12 0) (C := RX12) (T := TX12) (N := 38) hx hb hts (mm_i inlX12) tyX12 tyX12_ok nmX12 hown hK.1 hP hD hS 0 rfl rfl 0 (by decide) (mm_h hts mm_w177) (fun _ h9 => h9) rfl (tyX12_ok 0 (by decide)) rfl rfl (Nat.le_of_ble_eq_true rfl) dX12_agree_2 ?_
  clear hP hD hS
  clear H locs
  intro H locs (hP : va_P G vwCl [(a_0, .inr (12, [.int 0, .ref a_1, .ref a_2, .ref a_3, .ref a_4, .ref a_5, .int i_4, .int i_5, .int i_6, .int i_7, .int i_8, .long j_0, .int i_9, .int i_10, .int i_11, .int i_12, .ref a_6, .ref a_7, .ref a_8, .ref a_9, .ref a_10, .ref a_11, .ref a_12, .ref a_13, .ref a_14, .ref a_15, .ref a_16, .ref a_17, .ref a_18, .int i_13, .int i_14, .int i_15, .int i_16, .int i_17, .int i_18, .ref a_19, .int i_19, .ref a_20])), (a_6, .inl (cy 1, 5, .inl (mm_g [i_20, i_21, i_22, i_23, i_24]))), (a_7, .inl (cy 1, 30, .inl (mm_g [i_25, i_26, i_27, i_28, i_29, i_30, i_31, i_32, i_33, i_34, i_35, i_36, i_37, i_38, i_39, i_40, i_41, i_42, i_43, i_44, i_45, i_46, i_47, i_48, i_49, i_50, i_51, i_52, i_53, i_54]))), (a_8, .inl (cy 1, 90, .inl f_0)), (a_9, .inl (cy 1, 15, .inl f_1)), (a_10, .inl (cy 1, 1050, .inl f_2)), (a_11, .inl (cy 1, 30, .inl f_3)), (a_12, .inl (cy 1, 240, .inl f_4)), (a_13, .inl (cy 1, 450, .inl f_5)), (a_15, .inl (cy 1, 7200, .inl f_6)), (a_16, .inl (cy 1, 3, .inl f_7)), (a_17, .inl (cy 1, 3, .inl f_8)), (a_18, .inl (cy 1, 8, .inl f_9))] H) (hD : va_D A [(a_0, .inr (12, [.int 0, .ref a_1, .ref a_2, .ref a_3, .ref a_4, .ref a_5, .int i_4, .int i_5, .int i_6, .int i_7, .int i_8, .long j_0, .int i_9, .int i_10, .int i_11, .int i_12, .ref a_6, .ref a_7, .ref a_8, .ref a_9, .ref a_10, .ref a_11, .ref a_12, .ref a_13, .ref a_14, .ref a_15, .ref a_16, .ref a_17, .ref a_18, .int i_13, .int i_14, .int i_15, .int i_16, .int i_17, .int i_18, .ref a_19, .int i_19, .ref a_20])), (a_6, .inl (cy 1, 5, .inl (mm_g [i_20, i_21, i_22, i_23, i_24]))), (a_7, .inl (cy 1, 30, .inl (mm_g [i_25, i_26, i_27, i_28, i_29, i_30, i_31, i_32, i_33, i_34, i_35, i_36, i_37, i_38, i_39, i_40, i_41, i_42, i_43, i_44, i_45, i_46, i_47, i_48, i_49, i_50, i_51, i_52, i_53, i_54]))), (a_8, .inl (cy 1, 90, .inl f_0)), (a_9, .inl (cy 1, 15, .inl f_1)), (a_10, .inl (cy 1, 1050, .inl f_2)), (a_11, .inl (cy 1, 30, .inl f_3)), (a_12, .inl (cy 1, 240, .inl f_4)), (a_13, .inl (cy 1, 450, .inl f_5)), (a_15, .inl (cy 1, 7200, .inl f_6)), (a_16, .inl (cy 1, 3, .inl f_7)), (a_17, .inl (cy 1, 3, .inl f_8)), (a_18, .inl (cy 1, 8, .inl f_9))]) hS
  refine lv_aload_n hx hb dX12_agree_5 rfl (lv_at hl 0 rfl) ?_
  refine lv_iload_n hx hb dX12_agree_6 rfl (lv_at hl 1 rfl) ?_
  refine mm_finir (va_runV (As := [.int i_0]) (rest := []) ⟨hx, hb, hml, hown, hts⟩ (M98_X12_isLand l G cy H.size a_0 i_0 0 a_1 a_2 a_3 a_4 a_5 i_4 i_5 i_6 i_7 i_8 j_0 i_9 i_10 i_11 i_12 a_6 a_7 a_8 a_9 a_10 a_11 a_12 a_13 a_14 a_15 a_16 a_17 a_18 i_13 i_14 i_15 i_16 i_17 i_18 a_19 i_19 a_20 i_25 i_26 i_27 i_28 i_29 i_30 i_31 i_32 i_33 i_34 i_35 i_36 i_37 i_38 i_39 i_40 i_41 i_42 i_43 i_44 i_45 i_46 i_47 i_48 i_49 i_50 i_51 i_52 i_53 i_54 h6 h7 h8 h9 h10 h11 h12 h13 h14 h15 h16 h17 h18 h19 h20 h21 h22 h23 h24 h25 h26 h27 h28 h29 h30 h31 h32 h33 h34 h35) (cwV 1 hts (mm_gV mm_w641 mm_w642 mm_w643 mm_w5 mm_w644) rfl rfl rfl hd_X12_isLand ⟨by rw [hRf]; exact Nat.le_of_ble_eq_true rfl, by rw [hRl]; exact Nat.le_of_ble_eq_true rfl⟩) (mm_preV hK hZ hS hA hP hD [0, 2] rfl rfl 0 rfl rfl rfl) rfl rfl hl.1 rfl (lv_room (Nat.le_of_ble_eq_true rfl)) dX12_agree_7 ⟨by rw [hRc]; exact Nat.le_of_ble_eq_true rfl, by rw [hRs]; exact Nat.le_of_ble_eq_true rfl⟩) hP hD hS hA [0, 2] rfl (fun _ => rfl) ?_
  clear hP hD hS
  clear H locs
  intro v1 _u H locs hw hP hD hS
  rcases hw with rfl | ⟨rfl, w2, w3⟩
  · refine lv_if_eq (tgt := 31) hx hb dX12_agree_10 (by decide) (fun c4 => ?_) (fun c4 => ?_)
    · refine lv_bipush (v := (-2)) hx hb dX12_agree_31 (by decide) ?_
      subst hAe
      rw [hQ]
      exact W.iret (v := (-2)) hx hb hr (fun t ht hW => ⟨⟨(-2), (i_13, i_14, i_15, f_6, f_7, f_8, f_9), rfl, ⟨h0, h42, h43, h44, h45, (mm_wk mm_km2 (by decide))⟩, by rw [ht]; exact hP, hK.warm hW, hD⟩, hS.F ht⟩) hS.2.2 dX12_agree_33
    · exact absurd rfl (mm_ne c4)
  · have q5 := mm_ltR (lo := 1) w3 w2 h9 (by decide)
    have q6 : mm_rg i_20 1 601 := mm_tl_3 h49 q5 h1 (by decide)
    refine lv_if_eq (tgt := 31) hx hb dX12_agree_10 (by decide) (fun c7 => ?_) (fun c7 => ?_)
    · exact mm_eqN c7.symm mm_k0 mm_k1 (by decide)
    · refine lv_aload_n hx hb dX12_agree_13 rfl (lv_at hl 0 rfl) ?_
      refine lv_iload_n hx hb dX12_agree_14 rfl (lv_at hl 2 rfl) ?_
      obtain ⟨v8, ev8⟩ : ∃ y : Int64, y = i_1.toInt64 := ⟨_, rfl⟩
      refine lv_i2l hx hb dX12_agree_15 ev8.symm ?_
      have rv8 : mm_rl v8 (-2147483648) 2147483647 := mm_i2l ev8 (mm_top i_1)
      refine mm_finir (va_runV (As := [.long v8]) (rest := []) ⟨hx, hb, hml, hown, hts⟩ (M96_X12_isText l G cy H.size a_0 v8 0 a_1 a_2 a_3 a_4 a_5 i_4 i_5 i_6 i_7 i_8 j_0 i_9 i_10 i_11 i_12 a_6 a_7 a_8 a_9 a_10 a_11 a_12 a_13 a_14 a_15 a_16 a_17 a_18 i_13 i_14 i_15 i_16 i_17 i_18 a_19 i_19 a_20 i_25 i_26 i_27 i_28 i_29 i_30 i_31 i_32 i_33 i_34 i_35 i_36 i_37 i_38 i_39 i_40 i_41 i_42 i_43 i_44 i_45 i_46 i_47 i_48 i_49 i_50 i_51 i_52 i_53 i_54 h6 h7 h8 (mm_wk q5 (by decide)) h10 h11 h12 h13 h14 h15 h16 h17 h18 h19 h20 h21 h22 h23 h24 h25 h26 h27 h28 h29 h30 h31 h32 h33 h34 h35) (cwV 1 hts (mm_gV mm_w613 mm_w614 mm_w615 mm_w5 mm_w616) rfl rfl rfl hd_X12_isText ⟨by rw [hRf]; exact Nat.le_of_ble_eq_true rfl, by rw [hRl]; exact Nat.le_of_ble_eq_true rfl⟩) (mm_preV hK hZ hS hA hP hD [0, 2] rfl rfl 0 rfl rfl rfl) rfl rfl hl.1 rfl (lv_room (Nat.le_of_ble_eq_true rfl)) dX12_agree_16 ⟨by rw [hRc]; exact Nat.le_of_ble_eq_true rfl, by rw [hRs]; exact Nat.le_of_ble_eq_true rfl⟩) hP hD hS hA [0, 2] rfl (fun _ => rfl) ?_
      clear hP hD hS
      clear H locs
      intro v9 _u H locs hw hP hD hS
      rcases hw with rfl | ⟨rfl, w10, w11⟩
      · refine lv_if_eq (tgt := 31) hx hb dX12_agree_19 (by decide) (fun c12 => ?_) (fun c12 => ?_)
        · refine lv_bipush (v := (-2)) hx hb dX12_agree_31 (by decide) ?_
          subst hAe
          rw [hQ]
          exact W.iret (v := (-2)) hx hb hr (fun t ht hW => ⟨⟨(-2), (i_13, i_14, i_15, f_6, f_7, f_8, f_9), rfl, ⟨h0, h42, h43, h44, h45, (mm_wk mm_km2 (by decide))⟩, by rw [ht]; exact hP, hK.warm hW, hD⟩, hS.F ht⟩) hS.2.2 dX12_agree_33
        · exact absurd rfl (mm_ne c12)
      · have q13 := mm_meet (lo := 0) (hi := 5) (mm_l2x ev8 w10) (mm_top i_1) (by decide)
        have w14 := mm_tx_lt w11 (mm_i2lE ev8)
        have q15 := mm_ltR (lo := 1) w14 q13 h10 (by decide)
        refine lv_if_eq (tgt := 31) hx hb dX12_agree_19 (by decide) (fun c16 => ?_) (fun c16 => ?_)
        · exact mm_eqN c16.symm mm_k0 mm_k1 (by decide)
        · refine lv_aload_n hx hb dX12_agree_22 rfl (lv_at hl 0 rfl) ?_
          refine lv_iload_n hx hb dX12_agree_23 rfl (lv_at hl 3 rfl) ?_
          obtain ⟨v17, ev17⟩ : ∃ y : Int64, y = i_2.toInt64 := ⟨_, rfl⟩
          refine lv_i2l hx hb dX12_agree_24 ev17.symm ?_
          have rv17 : mm_rl v17 (-2147483648) 2147483647 := mm_i2l ev17 (mm_top i_2)
          refine mm_finir (va_runV (As := [.long v17]) (rest := []) ⟨hx, hb, hml, hown, hts⟩ (M96_X12_isText l G cy H.size a_0 v17 0 a_1 a_2 a_3 a_4 a_5 i_4 i_5 i_6 i_7 i_8 j_0 i_9 i_10 i_11 i_12 a_6 a_7 a_8 a_9 a_10 a_11 a_12 a_13 a_14 a_15 a_16 a_17 a_18 i_13 i_14 i_15 i_16 i_17 i_18 a_19 i_19 a_20 i_25 i_26 i_27 i_28 i_29 i_30 i_31 i_32 i_33 i_34 i_35 i_36 i_37 i_38 i_39 i_40 i_41 i_42 i_43 i_44 i_45 i_46 i_47 i_48 i_49 i_50 i_51 i_52 i_53 i_54 h6 h7 h8 (mm_wk q5 (by decide)) (mm_wk q15 (by decide)) h11 h12 h13 h14 h15 h16 h17 h18 h19 h20 h21 h22 h23 h24 h25 h26 h27 h28 h29 h30 h31 h32 h33 h34 h35) (cwV 1 hts (mm_gV mm_w613 mm_w614 mm_w615 mm_w5 mm_w616) rfl rfl rfl hd_X12_isText ⟨by rw [hRf]; exact Nat.le_of_ble_eq_true rfl, by rw [hRl]; exact Nat.le_of_ble_eq_true rfl⟩) (mm_preV hK hZ hS hA hP hD [0, 2] rfl rfl 0 rfl rfl rfl) rfl rfl hl.1 rfl (lv_room (Nat.le_of_ble_eq_true rfl)) dX12_agree_25 ⟨by rw [hRc]; exact Nat.le_of_ble_eq_true rfl, by rw [hRs]; exact Nat.le_of_ble_eq_true rfl⟩) hP hD hS hA [0, 2] rfl (fun _ => rfl) ?_
          clear hP hD hS
          clear H locs
          intro v18 _u H locs hw hP hD hS
          rcases hw with rfl | ⟨rfl, w19, w20⟩
          · refine lv_if_ne (tgt := 34) hx hb dX12_agree_28 (by decide) (fun c21 => ?_) (fun c21 => ?_)
            · exact absurd rfl (mm_ne c21)
            · refine lv_bipush (v := (-2)) hx hb dX12_agree_31 (by decide) ?_
              subst hAe
              rw [hQ]
              exact W.iret (v := (-2)) hx hb hr (fun t ht hW => ⟨⟨(-2), (i_13, i_14, i_15, f_6, f_7, f_8, f_9), rfl, ⟨h0, h42, h43, h44, h45, (mm_wk mm_km2 (by decide))⟩, by rw [ht]; exact hP, hK.warm hW, hD⟩, hS.F ht⟩) hS.2.2 dX12_agree_33
          · have q22 := mm_meet (lo := 0) (hi := 5) (mm_l2x ev17 w19) (mm_top i_2) (by decide)
            have w23 := mm_tx_lt w20 (mm_i2lE ev17)
            refine lv_if_ne (tgt := 34) hx hb dX12_agree_28 (by decide) (fun c24 => ?_) (fun c24 => ?_)
            · refine lv_aload_n hx hb dX12_agree_34 rfl (lv_at hl 0 rfl) ?_
              refine mm_finv (va_runV (As := []) (rest := []) ⟨hx, hb, hml, hown, hts⟩ (M125_X12_lays l G cy H.size a_0 0 a_1 a_2 a_3 a_4 a_5 i_4 i_5 i_6 i_7 i_8 j_0 i_9 i_10 i_11 i_12 a_6 a_7 a_8 a_9 a_10 a_11 a_12 a_13 a_14 a_15 a_16 a_17 a_18 i_13 i_14 i_15 i_16 i_17 i_18 a_19 i_19 a_20 i_20 i_21 i_22 i_23 i_24 i_25 i_26 i_27 i_28 i_29 i_30 i_31 i_32 i_33 i_34 i_35 i_36 i_37 i_38 i_39 i_40 i_41 i_42 i_43 i_44 i_45 i_46 i_47 i_48 i_49 i_50 i_51 i_52 i_53 i_54 f_1 f_2 f_5 f_6 f_7 f_8 (mm_wk q6 (by decide)) h2 h3 h4 h5 h6 h7 h8 (mm_wk q5 (by decide)) (mm_wk q15 (by decide)) h11 h12 h13 h14 h15 h16 h17 h18 h19 h20 h21 h22 h23 h24 h25 h26 h27 h28 h29 h30 h31 h32 h33 h34 h35 h37 h38 h41 h42 h43 h44 h46 h48 h49 h50 h52 h53 h54 h56 h57 h58 h60 h61) (cwV 0 hts (mm_gV mm_w686 mm_w687 mm_w688 mm_w5 mm_w689) rfl rfl rfl hd_X12_lays ⟨by rw [hRf]; exact Nat.le_of_ble_eq_true rfl, by rw [hRl]; exact Nat.le_of_ble_eq_true rfl⟩) (mm_preV hK hZ hS hA hP hD [0, 1, 2, 4, 5, 8, 9, 10, 11] rfl rfl 0 rfl rfl rfl) rfl rfl hl.1 rfl (lv_room (Nat.le_of_ble_eq_true rfl)) dX12_agree_35 ⟨by rw [hRc]; exact Nat.le_of_ble_eq_true rfl, by rw [hRs]; exact Nat.le_of_ble_eq_true rfl⟩) hP hD hS hA (fun u : (Nat → Int32) × (Nat → Int32) × (Nat → Int32) => [(a_0, .inr (12, [.int 0, .ref a_1, .ref a_2, .ref a_3, .ref a_4, .ref a_5, .int i_4, .int i_5, .int i_6, .int i_7, .int i_8, .long j_0, .int i_9, .int i_10, .int i_11, .int i_12, .ref a_6, .ref a_7, .ref a_8, .ref a_9, .ref a_10, .ref a_11, .ref a_12, .ref a_13, .ref a_14, .ref a_15, .ref a_16, .ref a_17, .ref a_18, .int i_13, .int i_14, .int i_15, .int i_16, .int i_17, .int i_18, .ref a_19, .int i_19, .ref a_20])), (a_6, .inl (cy 1, 5, .inl (mm_g [i_20, i_21, i_22, i_23, i_24]))), (a_7, .inl (cy 1, 30, .inl (mm_g [i_25, i_26, i_27, i_28, i_29, i_30, i_31, i_32, i_33, i_34, i_35, i_36, i_37, i_38, i_39, i_40, i_41, i_42, i_43, i_44, i_45, i_46, i_47, i_48, i_49, i_50, i_51, i_52, i_53, i_54]))), (a_8, .inl (cy 1, 90, .inl f_0)), (a_9, .inl (cy 1, 15, .inl f_1)), (a_10, .inl (cy 1, 1050, .inl f_2)), (a_11, .inl (cy 1, 30, .inl f_3)), (a_12, .inl (cy 1, 240, .inl f_4)), (a_13, .inl (cy 1, 450, .inl f_5)), (a_15, .inl (cy 1, 7200, .inl u.1)), (a_16, .inl (cy 1, 3, .inl u.2.1)), (a_17, .inl (cy 1, 3, .inl u.2.2)), (a_18, .inl (cy 1, 8, .inl f_9))]) [0, 1, 2, 4, 5, 8, 9, 10, 11] [3, 6, 7, 12] (n := 13) (fun _ => rfl) (by decide +kernel) (by decide +kernel) rfl (fun _ => rfl) (wr := [(a_8, .inl (cy 1, 90, .inl f_0)), (a_11, .inl (cy 1, 30, .inl f_3)), (a_12, .inl (cy 1, 240, .inl f_4)), (a_18, .inl (cy 1, 8, .inl f_9))]) rfl (fun _ => rfl) (fun _ => @rfl _ ([a_0, a_6, a_7, a_9, a_10, a_13, a_15, a_16, a_17] : List Nat)) ?_
              clear hP hD hS
              clear H locs
              intro u
              obtain ⟨n25, n26, n27⟩ := u
              intro H locs hw (hP : va_P G vwCl [(a_0, .inr (12, [.int 0, .ref a_1, .ref a_2, .ref a_3, .ref a_4, .ref a_5, .int i_4, .int i_5, .int i_6, .int i_7, .int i_8, .long j_0, .int i_9, .int i_10, .int i_11, .int i_12, .ref a_6, .ref a_7, .ref a_8, .ref a_9, .ref a_10, .ref a_11, .ref a_12, .ref a_13, .ref a_14, .ref a_15, .ref a_16, .ref a_17, .ref a_18, .int i_13, .int i_14, .int i_15, .int i_16, .int i_17, .int i_18, .ref a_19, .int i_19, .ref a_20])), (a_6, .inl (cy 1, 5, .inl (mm_g [i_20, i_21, i_22, i_23, i_24]))), (a_7, .inl (cy 1, 30, .inl (mm_g [i_25, i_26, i_27, i_28, i_29, i_30, i_31, i_32, i_33, i_34, i_35, i_36, i_37, i_38, i_39, i_40, i_41, i_42, i_43, i_44, i_45, i_46, i_47, i_48, i_49, i_50, i_51, i_52, i_53, i_54]))), (a_8, .inl (cy 1, 90, .inl f_0)), (a_9, .inl (cy 1, 15, .inl f_1)), (a_10, .inl (cy 1, 1050, .inl f_2)), (a_11, .inl (cy 1, 30, .inl f_3)), (a_12, .inl (cy 1, 240, .inl f_4)), (a_13, .inl (cy 1, 450, .inl f_5)), (a_15, .inl (cy 1, 7200, .inl n25)), (a_16, .inl (cy 1, 3, .inl n26)), (a_17, .inl (cy 1, 3, .inl n27)), (a_18, .inl (cy 1, 8, .inl f_9))] H) (hD : va_D A [(a_0, .inr (12, [.int 0, .ref a_1, .ref a_2, .ref a_3, .ref a_4, .ref a_5, .int i_4, .int i_5, .int i_6, .int i_7, .int i_8, .long j_0, .int i_9, .int i_10, .int i_11, .int i_12, .ref a_6, .ref a_7, .ref a_8, .ref a_9, .ref a_10, .ref a_11, .ref a_12, .ref a_13, .ref a_14, .ref a_15, .ref a_16, .ref a_17, .ref a_18, .int i_13, .int i_14, .int i_15, .int i_16, .int i_17, .int i_18, .ref a_19, .int i_19, .ref a_20])), (a_6, .inl (cy 1, 5, .inl (mm_g [i_20, i_21, i_22, i_23, i_24]))), (a_7, .inl (cy 1, 30, .inl (mm_g [i_25, i_26, i_27, i_28, i_29, i_30, i_31, i_32, i_33, i_34, i_35, i_36, i_37, i_38, i_39, i_40, i_41, i_42, i_43, i_44, i_45, i_46, i_47, i_48, i_49, i_50, i_51, i_52, i_53, i_54]))), (a_8, .inl (cy 1, 90, .inl f_0)), (a_9, .inl (cy 1, 15, .inl f_1)), (a_10, .inl (cy 1, 1050, .inl f_2)), (a_11, .inl (cy 1, 30, .inl f_3)), (a_12, .inl (cy 1, 240, .inl f_4)), (a_13, .inl (cy 1, 450, .inl f_5)), (a_15, .inl (cy 1, 7200, .inl n25)), (a_16, .inl (cy 1, 3, .inl n26)), (a_17, .inl (cy 1, 3, .inl n27)), (a_18, .inl (cy 1, 8, .inl f_9))]) hS
              obtain ⟨w28, w29, w30, w31, w32⟩ := hw
              replace w31 : mm_laid n26 n27 i_28 := w31
              replace w32 : mm_tab n25 n26 i_27 i_28 := w32
              refine lv_iconst (v := 0) hx hb dX12_agree_38 (by decide) ?_
              refine lv_istore (lv' := [(4, .int 0), (0, .ref a_0), (1, .int i_0), (2, .int i_1), (3, .int i_2)]) hx hb dX12_agree_39 hl (by decide) rfl ?_
              clear hl
              clear ls
              intro ls hl
              have L41_434 : ∀ (n : Nat) (x41_4_430 : Int32) (y41_0_29_431 : Int32) (y41_0_30_432 : Int32) (y41_0_31_433 : Int32) (z41_12_434 : Nat → Int32), mm_rg x41_4_430 0 210 → mm_rg y41_0_29_431 0 8 → mm_ar z41_12_434 0 9 → (210 - x41_4_430.toInt).toNat < n → ∀ (H : Heap) (locs : List Loc), va_P G vwCl [(a_0, .inr (12, [.int 0, .ref a_1, .ref a_2, .ref a_3, .ref a_4, .ref a_5, .int i_4, .int i_5, .int i_6, .int i_7, .int i_8, .long j_0, .int i_9, .int i_10, .int i_11, .int i_12, .ref a_6, .ref a_7, .ref a_8, .ref a_9, .ref a_10, .ref a_11, .ref a_12, .ref a_13, .ref a_14, .ref a_15, .ref a_16, .ref a_17, .ref a_18, .int y41_0_29_431, .int y41_0_30_432, .int y41_0_31_433, .int i_16, .int i_17, .int i_18, .ref a_19, .int i_19, .ref a_20])), (a_6, .inl (cy 1, 5, .inl (mm_g [i_20, i_21, i_22, i_23, i_24]))), (a_7, .inl (cy 1, 30, .inl (mm_g [i_25, i_26, i_27, i_28, i_29, i_30, i_31, i_32, i_33, i_34, i_35, i_36, i_37, i_38, i_39, i_40, i_41, i_42, i_43, i_44, i_45, i_46, i_47, i_48, i_49, i_50, i_51, i_52, i_53, i_54]))), (a_8, .inl (cy 1, 90, .inl f_0)), (a_9, .inl (cy 1, 15, .inl f_1)), (a_10, .inl (cy 1, 1050, .inl f_2)), (a_11, .inl (cy 1, 30, .inl f_3)), (a_12, .inl (cy 1, 240, .inl f_4)), (a_13, .inl (cy 1, 450, .inl f_5)), (a_15, .inl (cy 1, 7200, .inl n25)), (a_16, .inl (cy 1, 3, .inl n26)), (a_17, .inl (cy 1, 3, .inl n27)), (a_18, .inl (cy 1, 8, .inl z41_12_434))] H → va_D A [(a_0, .inr (12, [.int 0, .ref a_1, .ref a_2, .ref a_3, .ref a_4, .ref a_5, .int i_4, .int i_5, .int i_6, .int i_7, .int i_8, .long j_0, .int i_9, .int i_10, .int i_11, .int i_12, .ref a_6, .ref a_7, .ref a_8, .ref a_9, .ref a_10, .ref a_11, .ref a_12, .ref a_13, .ref a_14, .ref a_15, .ref a_16, .ref a_17, .ref a_18, .int y41_0_29_431, .int y41_0_30_432, .int y41_0_31_433, .int i_16, .int i_17, .int i_18, .ref a_19, .int i_19, .ref a_20])), (a_6, .inl (cy 1, 5, .inl (mm_g [i_20, i_21, i_22, i_23, i_24]))), (a_7, .inl (cy 1, 30, .inl (mm_g [i_25, i_26, i_27, i_28, i_29, i_30, i_31, i_32, i_33, i_34, i_35, i_36, i_37, i_38, i_39, i_40, i_41, i_42, i_43, i_44, i_45, i_46, i_47, i_48, i_49, i_50, i_51, i_52, i_53, i_54]))), (a_8, .inl (cy 1, 90, .inl f_0)), (a_9, .inl (cy 1, 15, .inl f_1)), (a_10, .inl (cy 1, 1050, .inl f_2)), (a_11, .inl (cy 1, 30, .inl f_3)), (a_12, .inl (cy 1, 240, .inl f_4)), (a_13, .inl (cy 1, 450, .inl f_5)), (a_15, .inl (cy 1, 7200, .inl n25)), (a_16, .inl (cy 1, 3, .inl n26)), (a_17, .inl (cy 1, 3, .inl n27)), (a_18, .inl (cy 1, 8, .inl z41_12_434))] → va_S A s.heap H locs → ∀ (ls : Array Slot), lv_has ls 5 [(4, .int x41_4_430), (0, .ref a_0), (1, .int i_0), (2, .int i_1), (3, .int i_2)] → W p l e R s m args below meth c H locs 0 0 Q (F0 m 41 ls []) := by
                intro n
                induction n with
                | zero => intro x41_4_430 y41_0_29_431 y41_0_30_432 y41_0_31_433 z41_12_434 rx41_4_430 ry41_0_29_431 rz41_12_434 hm; exact absurd hm (Nat.not_lt_zero _)
                | succ n ih41 =>
                  intro x41_4_430 y41_0_29_431 y41_0_30_432 y41_0_31_433 z41_12_434 rx41_4_430 ry41_0_29_431 rz41_12_434 hm41 H locs hP hD hS ls hl
                  refine lv_iload hx hb dX12_agree_41 (lv_at hl 0 rfl) ?_
                  refine lv_aload_n hx hb dX12_agree_43 rfl (lv_at hl 1 rfl) ?_
                  refine va_get (D := G) (ci := 12) (v := .ref a_16) (C := RX12) (T := TX12) (N := 38) hx hb hts (mm_i inlX12) hown hK.1 hP 0 rfl rfl 26 (by decide) (mm_h hts mm_w158) (fun _ h9 => h9) rfl dX12_agree_44 ?_
                  refine lv_iload_n hx hb dX12_agree_47 rfl (lv_at hl 2 rfl) ?_
                  refine va_iald hx hb hK.1 hP 10 1 rfl rfl (mm_in w2 (by decide)) dX12_agree_48 ?_
                  refine lv_topi (fun v436 ev436 => ?_)
                  have rv436 : mm_rg v436 0 210 := mm_eqv ev436 (w29 _)
                  have q437 : mm_rg v436 1 210 := mm_laid_ld0 w31 w3 ev436 w2 rv436 (by decide)
                  refine lv_icmp_ge (tgt := 80) hx hb dX12_agree_49 (by decide) (fun c438 => ?_) (fun c438 => ?_)
                  · have q439 := mm_leR (mm_le c438) q437 rx41_4_430
                    refine lv_iconst (v := (-1)) hx hb dX12_agree_80 (by decide) ?_
                    subst hAe
                    rw [hQ]
                    exact W.iret (v := (-1)) hx hb hr (fun t ht hW => ⟨⟨(-1), (y41_0_29_431, y41_0_30_432, y41_0_31_433, n25, n26, n27, z41_12_434), rfl, ⟨ry41_0_29_431, w28, w29, w30, rz41_12_434, (mm_wk mm_km1 (by decide))⟩, by rw [ht]; exact hP, hK.warm hW, hD⟩, hS.F ht⟩) hS.2.2 dX12_agree_81
                  · have q440 := mm_ltL (h := 209) (mm_nle c438) rx41_4_430 q437 (by decide)
                    refine lv_aload_n hx hb dX12_agree_52 rfl (lv_at hl 1 rfl) ?_
                    refine lv_iload_n hx hb dX12_agree_53 rfl (lv_at hl 2 rfl) ?_
                    refine lv_iload hx hb dX12_agree_54 (lv_at hl 0 rfl) ?_
                    refine lv_iload_n hx hb dX12_agree_56 rfl (lv_at hl 3 rfl) ?_
                    refine mm_fini (va_runV (As := [.int i_0, .int x41_4_430, .int i_1]) (rest := []) ⟨hx, hb, hml, hown, hts⟩ (M141_X12_reads l G cy H.size a_0 i_0 x41_4_430 i_1 0 a_1 a_2 a_3 a_4 a_5 i_4 i_5 i_6 i_7 i_8 j_0 i_9 i_10 i_11 i_12 a_6 a_7 a_8 a_9 a_10 a_11 a_12 a_13 a_14 a_15 a_16 a_17 a_18 y41_0_29_431 y41_0_30_432 y41_0_31_433 i_16 i_17 i_18 a_19 i_19 a_20 i_25 i_26 i_27 i_28 i_29 i_30 i_31 i_32 i_33 i_34 i_35 i_36 i_37 i_38 i_39 i_40 i_41 i_42 i_43 i_44 i_45 i_46 i_47 i_48 i_49 i_50 i_51 i_52 i_53 i_54 f_0 f_3 f_4 f_5 n25 n26 z41_12_434 w2 (mm_wk q440 (by decide)) q13 ry41_0_29_431 h6 h7 h8 (mm_wk q5 (by decide)) (mm_wk q15 (by decide)) h11 h12 h13 h14 h15 h16 h17 h18 h19 h20 h21 h22 h23 h24 h25 h26 h27 h28 h29 h30 h31 h32 h33 h34 h35 h36 h39 h40 h41 w28 w29 rz41_12_434 h47 h48 h51 h52 h55 h56 h59 h60 (mm_f1_l w31 w3 w2 (by decide))) (cwV 3 hts (mm_gV mm_w852 mm_w853 mm_w854 mm_w5 mm_w855) rfl rfl rfl hd_X12_reads ⟨by rw [hRf]; exact Nat.le_of_ble_eq_true rfl, by rw [hRl]; exact Nat.le_of_ble_eq_true rfl⟩) (mm_preV hK hZ hS hA hP hD [0, 2, 3, 6, 7, 8, 9, 10, 12] rfl rfl 0 rfl rfl rfl) rfl rfl hl.1 rfl (lv_room (Nat.le_of_ble_eq_true rfl)) dX12_agree_57 ⟨by rw [hRc]; exact Nat.le_of_ble_eq_true rfl, by rw [hRs]; exact Nat.le_of_ble_eq_true rfl⟩) hP hD hS hA (fun u : Int32 × Int32 × Int32 × (Nat → Int32) => [(a_0, .inr (12, [.int 0, .ref a_1, .ref a_2, .ref a_3, .ref a_4, .ref a_5, .int i_4, .int i_5, .int i_6, .int i_7, .int i_8, .long j_0, .int i_9, .int i_10, .int i_11, .int i_12, .ref a_6, .ref a_7, .ref a_8, .ref a_9, .ref a_10, .ref a_11, .ref a_12, .ref a_13, .ref a_14, .ref a_15, .ref a_16, .ref a_17, .ref a_18, .int u.1, .int u.2.1, .int u.2.2.1, .int i_16, .int i_17, .int i_18, .ref a_19, .int i_19, .ref a_20])), (a_6, .inl (cy 1, 5, .inl (mm_g [i_20, i_21, i_22, i_23, i_24]))), (a_7, .inl (cy 1, 30, .inl (mm_g [i_25, i_26, i_27, i_28, i_29, i_30, i_31, i_32, i_33, i_34, i_35, i_36, i_37, i_38, i_39, i_40, i_41, i_42, i_43, i_44, i_45, i_46, i_47, i_48, i_49, i_50, i_51, i_52, i_53, i_54]))), (a_8, .inl (cy 1, 90, .inl f_0)), (a_9, .inl (cy 1, 15, .inl f_1)), (a_10, .inl (cy 1, 1050, .inl f_2)), (a_11, .inl (cy 1, 30, .inl f_3)), (a_12, .inl (cy 1, 240, .inl f_4)), (a_13, .inl (cy 1, 450, .inl f_5)), (a_15, .inl (cy 1, 7200, .inl n25)), (a_16, .inl (cy 1, 3, .inl n26)), (a_17, .inl (cy 1, 3, .inl n27)), (a_18, .inl (cy 1, 8, .inl u.2.2.2))]) [0, 2, 3, 6, 7, 8, 9, 10, 12] [1, 4, 5, 11] (n := 13) (fun _ => rfl) (by decide +kernel) (by decide +kernel) rfl (fun _ => rfl) (wr := [(a_6, .inl (cy 1, 5, .inl (mm_g [i_20, i_21, i_22, i_23, i_24]))), (a_9, .inl (cy 1, 15, .inl f_1)), (a_10, .inl (cy 1, 1050, .inl f_2)), (a_17, .inl (cy 1, 3, .inl n27))]) rfl (fun _ => rfl) (fun _ => @rfl _ ([a_0, a_7, a_8, a_11, a_12, a_13, a_15, a_16, a_18] : List Nat)) ?_
                    clear hP hD hS
                    clear H locs
                    intro v445 u
                    obtain ⟨n441, n442, n443, n444⟩ := u
                    intro H locs hw (hP : va_P G vwCl [(a_0, .inr (12, [.int 0, .ref a_1, .ref a_2, .ref a_3, .ref a_4, .ref a_5, .int i_4, .int i_5, .int i_6, .int i_7, .int i_8, .long j_0, .int i_9, .int i_10, .int i_11, .int i_12, .ref a_6, .ref a_7, .ref a_8, .ref a_9, .ref a_10, .ref a_11, .ref a_12, .ref a_13, .ref a_14, .ref a_15, .ref a_16, .ref a_17, .ref a_18, .int n441, .int n442, .int n443, .int i_16, .int i_17, .int i_18, .ref a_19, .int i_19, .ref a_20])), (a_6, .inl (cy 1, 5, .inl (mm_g [i_20, i_21, i_22, i_23, i_24]))), (a_7, .inl (cy 1, 30, .inl (mm_g [i_25, i_26, i_27, i_28, i_29, i_30, i_31, i_32, i_33, i_34, i_35, i_36, i_37, i_38, i_39, i_40, i_41, i_42, i_43, i_44, i_45, i_46, i_47, i_48, i_49, i_50, i_51, i_52, i_53, i_54]))), (a_8, .inl (cy 1, 90, .inl f_0)), (a_9, .inl (cy 1, 15, .inl f_1)), (a_10, .inl (cy 1, 1050, .inl f_2)), (a_11, .inl (cy 1, 30, .inl f_3)), (a_12, .inl (cy 1, 240, .inl f_4)), (a_13, .inl (cy 1, 450, .inl f_5)), (a_15, .inl (cy 1, 7200, .inl n25)), (a_16, .inl (cy 1, 3, .inl n26)), (a_17, .inl (cy 1, 3, .inl n27)), (a_18, .inl (cy 1, 8, .inl n444))] H) (hD : va_D A [(a_0, .inr (12, [.int 0, .ref a_1, .ref a_2, .ref a_3, .ref a_4, .ref a_5, .int i_4, .int i_5, .int i_6, .int i_7, .int i_8, .long j_0, .int i_9, .int i_10, .int i_11, .int i_12, .ref a_6, .ref a_7, .ref a_8, .ref a_9, .ref a_10, .ref a_11, .ref a_12, .ref a_13, .ref a_14, .ref a_15, .ref a_16, .ref a_17, .ref a_18, .int n441, .int n442, .int n443, .int i_16, .int i_17, .int i_18, .ref a_19, .int i_19, .ref a_20])), (a_6, .inl (cy 1, 5, .inl (mm_g [i_20, i_21, i_22, i_23, i_24]))), (a_7, .inl (cy 1, 30, .inl (mm_g [i_25, i_26, i_27, i_28, i_29, i_30, i_31, i_32, i_33, i_34, i_35, i_36, i_37, i_38, i_39, i_40, i_41, i_42, i_43, i_44, i_45, i_46, i_47, i_48, i_49, i_50, i_51, i_52, i_53, i_54]))), (a_8, .inl (cy 1, 90, .inl f_0)), (a_9, .inl (cy 1, 15, .inl f_1)), (a_10, .inl (cy 1, 1050, .inl f_2)), (a_11, .inl (cy 1, 30, .inl f_3)), (a_12, .inl (cy 1, 240, .inl f_4)), (a_13, .inl (cy 1, 450, .inl f_5)), (a_15, .inl (cy 1, 7200, .inl n25)), (a_16, .inl (cy 1, 3, .inl n26)), (a_17, .inl (cy 1, 3, .inl n27)), (a_18, .inl (cy 1, 8, .inl n444))]) hS
                    obtain ⟨w446, w447, hw⟩ := hw
                    obtain ⟨w448, w449⟩ := hw
                    replace w449 : mm_rd n25 n26 f_0 f_3 f_4 f_5 i_0 x41_4_430 i_1 i_26 i_27 i_30 v445 := w449
                    refine lv_aload_n hx hb dX12_agree_60 rfl (lv_at hl 1 rfl) ?_
                    refine lv_iload_n hx hb dX12_agree_61 rfl (lv_at hl 2 rfl) ?_
                    refine lv_iload hx hb dX12_agree_62 (lv_at hl 0 rfl) ?_
                    refine lv_iload_n hx hb dX12_agree_64 rfl (lv_at hl 4 rfl) ?_
                    refine mm_fini (va_runV (As := [.int i_0, .int x41_4_430, .int i_2]) (rest := [.int v445]) ⟨hx, hb, hml, hown, hts⟩ (M141_X12_reads l G cy H.size a_0 i_0 x41_4_430 i_2 0 a_1 a_2 a_3 a_4 a_5 i_4 i_5 i_6 i_7 i_8 j_0 i_9 i_10 i_11 i_12 a_6 a_7 a_8 a_9 a_10 a_11 a_12 a_13 a_14 a_15 a_16 a_17 a_18 n441 n442 n443 i_16 i_17 i_18 a_19 i_19 a_20 i_25 i_26 i_27 i_28 i_29 i_30 i_31 i_32 i_33 i_34 i_35 i_36 i_37 i_38 i_39 i_40 i_41 i_42 i_43 i_44 i_45 i_46 i_47 i_48 i_49 i_50 i_51 i_52 i_53 i_54 f_0 f_3 f_4 f_5 n25 n26 n444 w2 (mm_wk q440 (by decide)) q22 w446 h6 h7 h8 (mm_wk q5 (by decide)) (mm_wk q15 (by decide)) h11 h12 h13 h14 h15 h16 h17 h18 h19 h20 h21 h22 h23 h24 h25 h26 h27 h28 h29 h30 h31 h32 h33 h34 h35 h36 h39 h40 h41 w28 w29 w447 h47 h48 h51 h52 h55 h56 h59 h60 (mm_f1_l w31 w3 w2 (by decide))) (cwV 3 hts (mm_gV mm_w852 mm_w853 mm_w854 mm_w5 mm_w855) rfl rfl rfl hd_X12_reads ⟨by rw [hRf]; exact Nat.le_of_ble_eq_true rfl, by rw [hRl]; exact Nat.le_of_ble_eq_true rfl⟩) (mm_preV hK hZ hS hA hP hD [0, 2, 3, 6, 7, 8, 9, 10, 12] rfl rfl 0 rfl rfl rfl) rfl rfl hl.1 rfl (lv_room (Nat.le_of_ble_eq_true rfl)) dX12_agree_65 ⟨by rw [hRc]; exact Nat.le_of_ble_eq_true rfl, by rw [hRs]; exact Nat.le_of_ble_eq_true rfl⟩) hP hD hS hA (fun u : Int32 × Int32 × Int32 × (Nat → Int32) => [(a_0, .inr (12, [.int 0, .ref a_1, .ref a_2, .ref a_3, .ref a_4, .ref a_5, .int i_4, .int i_5, .int i_6, .int i_7, .int i_8, .long j_0, .int i_9, .int i_10, .int i_11, .int i_12, .ref a_6, .ref a_7, .ref a_8, .ref a_9, .ref a_10, .ref a_11, .ref a_12, .ref a_13, .ref a_14, .ref a_15, .ref a_16, .ref a_17, .ref a_18, .int u.1, .int u.2.1, .int u.2.2.1, .int i_16, .int i_17, .int i_18, .ref a_19, .int i_19, .ref a_20])), (a_6, .inl (cy 1, 5, .inl (mm_g [i_20, i_21, i_22, i_23, i_24]))), (a_7, .inl (cy 1, 30, .inl (mm_g [i_25, i_26, i_27, i_28, i_29, i_30, i_31, i_32, i_33, i_34, i_35, i_36, i_37, i_38, i_39, i_40, i_41, i_42, i_43, i_44, i_45, i_46, i_47, i_48, i_49, i_50, i_51, i_52, i_53, i_54]))), (a_8, .inl (cy 1, 90, .inl f_0)), (a_9, .inl (cy 1, 15, .inl f_1)), (a_10, .inl (cy 1, 1050, .inl f_2)), (a_11, .inl (cy 1, 30, .inl f_3)), (a_12, .inl (cy 1, 240, .inl f_4)), (a_13, .inl (cy 1, 450, .inl f_5)), (a_15, .inl (cy 1, 7200, .inl n25)), (a_16, .inl (cy 1, 3, .inl n26)), (a_17, .inl (cy 1, 3, .inl n27)), (a_18, .inl (cy 1, 8, .inl u.2.2.2))]) [0, 2, 3, 6, 7, 8, 9, 10, 12] [1, 4, 5, 11] (n := 13) (fun _ => rfl) (by decide +kernel) (by decide +kernel) rfl (fun _ => rfl) (wr := [(a_6, .inl (cy 1, 5, .inl (mm_g [i_20, i_21, i_22, i_23, i_24]))), (a_9, .inl (cy 1, 15, .inl f_1)), (a_10, .inl (cy 1, 1050, .inl f_2)), (a_17, .inl (cy 1, 3, .inl n27))]) rfl (fun _ => rfl) (fun _ => @rfl _ ([a_0, a_7, a_8, a_11, a_12, a_13, a_15, a_16, a_18] : List Nat)) ?_
                    clear hP hD hS
                    clear H locs
                    intro v454 u
                    obtain ⟨n450, n451, n452, n453⟩ := u
                    intro H locs hw (hP : va_P G vwCl [(a_0, .inr (12, [.int 0, .ref a_1, .ref a_2, .ref a_3, .ref a_4, .ref a_5, .int i_4, .int i_5, .int i_6, .int i_7, .int i_8, .long j_0, .int i_9, .int i_10, .int i_11, .int i_12, .ref a_6, .ref a_7, .ref a_8, .ref a_9, .ref a_10, .ref a_11, .ref a_12, .ref a_13, .ref a_14, .ref a_15, .ref a_16, .ref a_17, .ref a_18, .int n450, .int n451, .int n452, .int i_16, .int i_17, .int i_18, .ref a_19, .int i_19, .ref a_20])), (a_6, .inl (cy 1, 5, .inl (mm_g [i_20, i_21, i_22, i_23, i_24]))), (a_7, .inl (cy 1, 30, .inl (mm_g [i_25, i_26, i_27, i_28, i_29, i_30, i_31, i_32, i_33, i_34, i_35, i_36, i_37, i_38, i_39, i_40, i_41, i_42, i_43, i_44, i_45, i_46, i_47, i_48, i_49, i_50, i_51, i_52, i_53, i_54]))), (a_8, .inl (cy 1, 90, .inl f_0)), (a_9, .inl (cy 1, 15, .inl f_1)), (a_10, .inl (cy 1, 1050, .inl f_2)), (a_11, .inl (cy 1, 30, .inl f_3)), (a_12, .inl (cy 1, 240, .inl f_4)), (a_13, .inl (cy 1, 450, .inl f_5)), (a_15, .inl (cy 1, 7200, .inl n25)), (a_16, .inl (cy 1, 3, .inl n26)), (a_17, .inl (cy 1, 3, .inl n27)), (a_18, .inl (cy 1, 8, .inl n453))] H) (hD : va_D A [(a_0, .inr (12, [.int 0, .ref a_1, .ref a_2, .ref a_3, .ref a_4, .ref a_5, .int i_4, .int i_5, .int i_6, .int i_7, .int i_8, .long j_0, .int i_9, .int i_10, .int i_11, .int i_12, .ref a_6, .ref a_7, .ref a_8, .ref a_9, .ref a_10, .ref a_11, .ref a_12, .ref a_13, .ref a_14, .ref a_15, .ref a_16, .ref a_17, .ref a_18, .int n450, .int n451, .int n452, .int i_16, .int i_17, .int i_18, .ref a_19, .int i_19, .ref a_20])), (a_6, .inl (cy 1, 5, .inl (mm_g [i_20, i_21, i_22, i_23, i_24]))), (a_7, .inl (cy 1, 30, .inl (mm_g [i_25, i_26, i_27, i_28, i_29, i_30, i_31, i_32, i_33, i_34, i_35, i_36, i_37, i_38, i_39, i_40, i_41, i_42, i_43, i_44, i_45, i_46, i_47, i_48, i_49, i_50, i_51, i_52, i_53, i_54]))), (a_8, .inl (cy 1, 90, .inl f_0)), (a_9, .inl (cy 1, 15, .inl f_1)), (a_10, .inl (cy 1, 1050, .inl f_2)), (a_11, .inl (cy 1, 30, .inl f_3)), (a_12, .inl (cy 1, 240, .inl f_4)), (a_13, .inl (cy 1, 450, .inl f_5)), (a_15, .inl (cy 1, 7200, .inl n25)), (a_16, .inl (cy 1, 3, .inl n26)), (a_17, .inl (cy 1, 3, .inl n27)), (a_18, .inl (cy 1, 8, .inl n453))]) hS
                    obtain ⟨w455, w456, hw⟩ := hw
                    obtain ⟨w457, w458⟩ := hw
                    replace w458 : mm_rd n25 n26 f_0 f_3 f_4 f_5 i_0 x41_4_430 i_2 i_26 i_27 i_30 v454 := w458
                    refine lv_icmp_ne (tgt := 74) hx hb dX12_agree_68 (by decide) (fun c459 => ?_) (fun c459 => ?_)
                    · obtain ⟨v460, ev460⟩ : ∃ y : Int32, y = x41_4_430 + 1 := ⟨_, rfl⟩
                      refine lv_iinc (v := v460) (lv' := [(4, .int v460), (0, .ref a_0), (1, .int i_0), (2, .int i_1), (3, .int i_2)]) hx hb dX12_agree_74 hl (k := 0) rfl (by rw [ev460]; rfl) (by decide) rfl ?_
                      clear hl
                      clear ls
                      intro ls hl
                      have rv460 : mm_rg v460 1 210 := mm_add ev460 q440 mm_k1 (by decide) (by decide)
                      have tv460 := mm_addEc ev460 q440 mm_k1 (by decide) (k := 1) (by decide)
                      refine lv_goto (tgt := 41) hx hb dX12_agree_77 (by decide) ?_
                      exact ih41 v460 n450 n451 n452 n453 (mm_wk rv460 (by decide)) w455 w456 (mm_mu hm41 tv460 (by decide) (rv460).2 (by decide)) H locs hP hD hS ls (lv_sub hl [0, 1, 2, 3, 4] rfl)
                    · refine lv_iload hx hb dX12_agree_71 (lv_at hl 0 rfl) ?_
                      subst hAe
                      rw [hQ]
                      exact W.iret (v := x41_4_430) hx hb hr (fun t ht hW => ⟨⟨x41_4_430, (n450, n451, n452, n25, n26, n27, n453), rfl, ⟨w455, w28, w29, w30, w456, (mm_wk q440 (by decide))⟩, by rw [ht]; exact hP, hK.warm hW, hD⟩, hS.F ht⟩) hS.2.2 dX12_agree_73
              exact L41_434 _ 0 i_13 i_14 i_15 f_9 (mm_wk mm_k0 (by decide)) h0 h45 (Nat.lt_succ_self _) H locs hP hD hS ls (lv_sub hl [0, 1, 2, 3, 4] rfl)
            · exact mm_eqN c24.symm mm_k0 mm_k1 (by decide)

set_option maxHeartbeats 4000000 in
set_option maxRecDepth 100000 in
theorem M157_X12_days (l : Launch) (G : va_G) (cy : Nat → ClassId) (sz : Nat) (a_0 : Nat) (i_0 : Int32) (i_1 : Int32) (i_2 : Int32) (i_3 : Int32) (a_1 : Nat) (a_2 : Nat) (a_3 : Nat) (a_4 : Nat) (a_5 : Nat) (i_4 : Int32) (i_5 : Int32) (i_6 : Int32) (i_7 : Int32) (i_8 : Int32) (j_0 : Int64) (i_9 : Int32) (i_10 : Int32) (i_11 : Int32) (i_12 : Int32) (a_6 : Nat) (a_7 : Nat) (a_8 : Nat) (a_9 : Nat) (a_10 : Nat) (a_11 : Nat) (a_12 : Nat) (a_13 : Nat) (a_14 : Nat) (a_15 : Nat) (a_16 : Nat) (a_17 : Nat) (a_18 : Nat) (i_13 : Int32) (i_14 : Int32) (i_15 : Int32) (i_16 : Int32) (i_17 : Int32) (i_18 : Int32) (a_19 : Nat) (i_19 : Int32) (a_20 : Nat) (i_20 : Int32) (i_21 : Int32) (i_22 : Int32) (i_23 : Int32) (i_24 : Int32) (i_25 : Int32) (i_26 : Int32) (i_27 : Int32) (i_28 : Int32) (i_29 : Int32) (i_30 : Int32) (i_31 : Int32) (i_32 : Int32) (i_33 : Int32) (i_34 : Int32) (i_35 : Int32) (i_36 : Int32) (i_37 : Int32) (i_38 : Int32) (i_39 : Int32) (i_40 : Int32) (i_41 : Int32) (i_42 : Int32) (i_43 : Int32) (i_44 : Int32) (i_45 : Int32) (i_46 : Int32) (i_47 : Int32) (i_48 : Int32) (i_49 : Int32) (i_50 : Int32) (i_51 : Int32) (i_52 : Int32) (i_53 : Int32) (i_54 : Int32) (f_0 : Nat → Int32) (f_1 : Nat → Int32) (f_2 : Nat → Int32) (f_3 : Nat → Int32) (f_4 : Nat → Int32) (f_5 : Nat → Int32) (f_6 : Nat → Int32) (f_7 : Nat → Int32) (f_8 : Nat → Int32) (f_9 : Nat → Int32) (h0 : mm_rg i_13 0 8) (h1 : mm_rg i_20 0 601) (h2 : mm_rg i_21 0 601) (h3 : mm_rg i_22 0 601) (h4 : mm_rg i_23 0 601) (h5 : mm_rg i_24 0 601) (h6 : mm_rg i_25 0 10) (h7 : mm_rg i_26 0 99) (h8 : mm_rg i_27 0 9) (h9 : mm_rg i_28 0 3) (h10 : mm_rg i_29 0 6) (h11 : mm_rg i_30 0 30) (h12 : mm_rg i_31 0 10) (h13 : mm_rg i_32 0 99) (h14 : mm_rg i_33 0 9) (h15 : mm_rg i_34 0 3) (h16 : mm_rg i_35 0 6) (h17 : mm_rg i_36 0 30) (h18 : mm_rg i_37 0 10) (h19 : mm_rg i_38 0 99) (h20 : mm_rg i_39 0 9) (h21 : mm_rg i_40 0 3) (h22 : mm_rg i_41 0 6) (h23 : mm_rg i_42 0 30) (h24 : mm_rg i_43 0 10) (h25 : mm_rg i_44 0 99) (h26 : mm_rg i_45 0 9) (h27 : mm_rg i_46 0 3) (h28 : mm_rg i_47 0 6) (h29 : mm_rg i_48 0 30) (h30 : mm_rg i_49 0 10) (h31 : mm_rg i_50 0 99) (h32 : mm_rg i_51 0 9) (h33 : mm_rg i_52 0 3) (h34 : mm_rg i_53 0 6) (h35 : mm_rg i_54 0 30) (h36 : mm_ar f_0 0 99) (h37 : mm_ar f_1 0 7) (h38 : mm_ar f_2 0 9) (h39 : mm_ar f_3 0 8) (h40 : mm_ar f_4 0 9) (h41 : mm_ar f_5 (-1) 99) (h42 : mm_ar f_6 0 9) (h43 : mm_ar f_7 0 210) (h44 : mm_ar f_8 0 210) (h45 : mm_ar f_9 0 9) (h46 : mm_rls f_1 f_2 0 i_27 i_28) (h47 : mm_txs f_3 f_4 0 i_27 i_29) (h48 : mm_acs f_5 0 i_27 i_28 i_30) (h49 : mm_tl i_20 i_28 i_29) (h50 : mm_rls f_1 f_2 1 i_33 i_34) (h51 : mm_txs f_3 f_4 1 i_33 i_35) (h52 : mm_acs f_5 1 i_33 i_34 i_36) (h53 : mm_tl i_21 i_34 i_35) (h54 : mm_rls f_1 f_2 2 i_39 i_40) (h55 : mm_txs f_3 f_4 2 i_39 i_41) (h56 : mm_acs f_5 2 i_39 i_40 i_42) (h57 : mm_tl i_22 i_40 i_41) (h58 : mm_rls f_1 f_2 3 i_45 i_46) (h59 : mm_txs f_3 f_4 3 i_45 i_47) (h60 : mm_acs f_5 3 i_45 i_46 i_48) (h61 : mm_tl i_23 i_46 i_47)  : mm_CI l yX12_days (mm_ws yX12_days cX12_days 6 (some .int)) ({ frames := 14, cells := 0, slots := 0, locals := 300 } : Room) G cy sz [(a_0, .inr (12, [.int i_3, .ref a_1, .ref a_2, .ref a_3, .ref a_4, .ref a_5, .int i_4, .int i_5, .int i_6, .int i_7, .int i_8, .long j_0, .int i_9, .int i_10, .int i_11, .int i_12, .ref a_6, .ref a_7, .ref a_8, .ref a_9, .ref a_10, .ref a_11, .ref a_12, .ref a_13, .ref a_14, .ref a_15, .ref a_16, .ref a_17, .ref a_18, .int i_13, .int i_14, .int i_15, .int i_16, .int i_17, .int i_18, .ref a_19, .int i_19, .ref a_20])), (a_6, .inl (cy 1, 5, .inl (mm_g [i_20, i_21, i_22, i_23, i_24]))), (a_7, .inl (cy 1, 30, .inl (mm_g [i_25, i_26, i_27, i_28, i_29, i_30, i_31, i_32, i_33, i_34, i_35, i_36, i_37, i_38, i_39, i_40, i_41, i_42, i_43, i_44, i_45, i_46, i_47, i_48, i_49, i_50, i_51, i_52, i_53, i_54]))), (a_8, .inl (cy 1, 90, .inl f_0)), (a_9, .inl (cy 1, 15, .inl f_1)), (a_10, .inl (cy 1, 1050, .inl f_2)), (a_11, .inl (cy 1, 30, .inl f_3)), (a_12, .inl (cy 1, 240, .inl f_4)), (a_13, .inl (cy 1, 450, .inl f_5)), (a_15, .inl (cy 1, 7200, .inl f_6)), (a_16, .inl (cy 1, 3, .inl f_7)), (a_17, .inl (cy 1, 3, .inl f_8)), (a_18, .inl (cy 1, 8, .inl f_9))] [.ref a_0, .int i_0, .int i_1, .int i_2] (fun u : Int32 × Int32 × Int32 × (Nat → Int32) × (Nat → Int32) × (Nat → Int32) × (Nat → Int32) => [(a_0, .inr (12, [.int 0, .ref a_1, .ref a_2, .ref a_3, .ref a_4, .ref a_5, .int i_4, .int i_5, .int i_6, .int i_7, .int i_8, .long j_0, .int i_9, .int i_10, .int i_11, .int i_12, .ref a_6, .ref a_7, .ref a_8, .ref a_9, .ref a_10, .ref a_11, .ref a_12, .ref a_13, .ref a_14, .ref a_15, .ref a_16, .ref a_17, .ref a_18, .int u.1, .int u.2.1, .int u.2.2.1, .int i_16, .int i_17, .int i_18, .ref a_19, .int i_19, .ref a_20])), (a_6, .inl (cy 1, 5, .inl (mm_g [i_20, i_21, i_22, i_23, i_24]))), (a_7, .inl (cy 1, 30, .inl (mm_g [i_25, i_26, i_27, i_28, i_29, i_30, i_31, i_32, i_33, i_34, i_35, i_36, i_37, i_38, i_39, i_40, i_41, i_42, i_43, i_44, i_45, i_46, i_47, i_48, i_49, i_50, i_51, i_52, i_53, i_54]))), (a_8, .inl (cy 1, 90, .inl f_0)), (a_9, .inl (cy 1, 15, .inl f_1)), (a_10, .inl (cy 1, 1050, .inl f_2)), (a_11, .inl (cy 1, 30, .inl f_3)), (a_12, .inl (cy 1, 240, .inl f_4)), (a_13, .inl (cy 1, 450, .inl f_5)), (a_15, .inl (cy 1, 7200, .inl u.2.2.2.1)), (a_16, .inl (cy 1, 3, .inl u.2.2.2.2.1)), (a_17, .inl (cy 1, 3, .inl u.2.2.2.2.2.1)), (a_18, .inl (cy 1, 8, .inl u.2.2.2.2.2.2))]) (fun (r : Int32) (u : Int32 × Int32 × Int32 × (Nat → Int32) × (Nat → Int32) × (Nat → Int32) × (Nat → Int32)) => mm_rg u.1 0 8 ∧ mm_ar u.2.2.2.1 0 9 ∧ mm_ar u.2.2.2.2.1 0 210 ∧ mm_ar u.2.2.2.2.2.1 0 210 ∧ mm_ar u.2.2.2.2.2.2 0 9 ∧ True) 0 0 := by
  refine mm_begin (lv := [(0, .ref a_0), (1, .int i_0), (2, .int i_1), (3, .int i_2)]) (by decide) (Nat.le_of_ble_eq_true rfl) rfl ?_
  intro p e s m below meth c A ls R args Q H locs hRe hQ hAe hx hb hr hlocks hml hown hnm hts hsz hA hS hP hK hD hZ hl
  have hRf : R.frames = 14 := by rw [hRe]
  have hRl : R.locals = 300 := by rw [hRe]
  have hRc : R.cells = 0 := by rw [hRe]
  have hRs : R.slots = 0 := by rw [hRe]
  refine lv_aload_n hx hb dX12_days_0 rfl (lv_at hl 0 rfl) ?_
  refine lv_iconst (v := 0) hx hb dX12_days_1 (by decide) ?_
  refine va_put (D := G) (ci := 12) (v := .int 0) (ty := tyX12 0) (C := RX12) (T := TX12) (N := 38) hx hb hts (mm_i inlX12) tyX12 tyX12_ok nmX12 hown hK.1 hP hD hS 0 rfl rfl 0 (by decide) (mm_h hts mm_w177) (fun _ h9 => h9) rfl (tyX12_ok 0 (by decide)) rfl rfl (Nat.le_of_ble_eq_true rfl) dX12_days_2 ?_
  clear hP hD hS
  clear H locs
  intro H locs (hP : va_P G vwCl [(a_0, .inr (12, [.int 0, .ref a_1, .ref a_2, .ref a_3, .ref a_4, .ref a_5, .int i_4, .int i_5, .int i_6, .int i_7, .int i_8, .long j_0, .int i_9, .int i_10, .int i_11, .int i_12, .ref a_6, .ref a_7, .ref a_8, .ref a_9, .ref a_10, .ref a_11, .ref a_12, .ref a_13, .ref a_14, .ref a_15, .ref a_16, .ref a_17, .ref a_18, .int i_13, .int i_14, .int i_15, .int i_16, .int i_17, .int i_18, .ref a_19, .int i_19, .ref a_20])), (a_6, .inl (cy 1, 5, .inl (mm_g [i_20, i_21, i_22, i_23, i_24]))), (a_7, .inl (cy 1, 30, .inl (mm_g [i_25, i_26, i_27, i_28, i_29, i_30, i_31, i_32, i_33, i_34, i_35, i_36, i_37, i_38, i_39, i_40, i_41, i_42, i_43, i_44, i_45, i_46, i_47, i_48, i_49, i_50, i_51, i_52, i_53, i_54]))), (a_8, .inl (cy 1, 90, .inl f_0)), (a_9, .inl (cy 1, 15, .inl f_1)), (a_10, .inl (cy 1, 1050, .inl f_2)), (a_11, .inl (cy 1, 30, .inl f_3)), (a_12, .inl (cy 1, 240, .inl f_4)), (a_13, .inl (cy 1, 450, .inl f_5)), (a_15, .inl (cy 1, 7200, .inl f_6)), (a_16, .inl (cy 1, 3, .inl f_7)), (a_17, .inl (cy 1, 3, .inl f_8)), (a_18, .inl (cy 1, 8, .inl f_9))] H) (hD : va_D A [(a_0, .inr (12, [.int 0, .ref a_1, .ref a_2, .ref a_3, .ref a_4, .ref a_5, .int i_4, .int i_5, .int i_6, .int i_7, .int i_8, .long j_0, .int i_9, .int i_10, .int i_11, .int i_12, .ref a_6, .ref a_7, .ref a_8, .ref a_9, .ref a_10, .ref a_11, .ref a_12, .ref a_13, .ref a_14, .ref a_15, .ref a_16, .ref a_17, .ref a_18, .int i_13, .int i_14, .int i_15, .int i_16, .int i_17, .int i_18, .ref a_19, .int i_19, .ref a_20])), (a_6, .inl (cy 1, 5, .inl (mm_g [i_20, i_21, i_22, i_23, i_24]))), (a_7, .inl (cy 1, 30, .inl (mm_g [i_25, i_26, i_27, i_28, i_29, i_30, i_31, i_32, i_33, i_34, i_35, i_36, i_37, i_38, i_39, i_40, i_41, i_42, i_43, i_44, i_45, i_46, i_47, i_48, i_49, i_50, i_51, i_52, i_53, i_54]))), (a_8, .inl (cy 1, 90, .inl f_0)), (a_9, .inl (cy 1, 15, .inl f_1)), (a_10, .inl (cy 1, 1050, .inl f_2)), (a_11, .inl (cy 1, 30, .inl f_3)), (a_12, .inl (cy 1, 240, .inl f_4)), (a_13, .inl (cy 1, 450, .inl f_5)), (a_15, .inl (cy 1, 7200, .inl f_6)), (a_16, .inl (cy 1, 3, .inl f_7)), (a_17, .inl (cy 1, 3, .inl f_8)), (a_18, .inl (cy 1, 8, .inl f_9))]) hS
  refine lv_aload_n hx hb dX12_days_5 rfl (lv_at hl 0 rfl) ?_
  refine lv_iload_n hx hb dX12_days_6 rfl (lv_at hl 1 rfl) ?_
  refine mm_finir (va_runV (As := [.int i_0]) (rest := []) ⟨hx, hb, hml, hown, hts⟩ (M98_X12_isLand l G cy H.size a_0 i_0 0 a_1 a_2 a_3 a_4 a_5 i_4 i_5 i_6 i_7 i_8 j_0 i_9 i_10 i_11 i_12 a_6 a_7 a_8 a_9 a_10 a_11 a_12 a_13 a_14 a_15 a_16 a_17 a_18 i_13 i_14 i_15 i_16 i_17 i_18 a_19 i_19 a_20 i_25 i_26 i_27 i_28 i_29 i_30 i_31 i_32 i_33 i_34 i_35 i_36 i_37 i_38 i_39 i_40 i_41 i_42 i_43 i_44 i_45 i_46 i_47 i_48 i_49 i_50 i_51 i_52 i_53 i_54 h6 h7 h8 h9 h10 h11 h12 h13 h14 h15 h16 h17 h18 h19 h20 h21 h22 h23 h24 h25 h26 h27 h28 h29 h30 h31 h32 h33 h34 h35) (cwV 1 hts (mm_gV mm_w641 mm_w642 mm_w643 mm_w5 mm_w644) rfl rfl rfl hd_X12_isLand ⟨by rw [hRf]; exact Nat.le_of_ble_eq_true rfl, by rw [hRl]; exact Nat.le_of_ble_eq_true rfl⟩) (mm_preV hK hZ hS hA hP hD [0, 2] rfl rfl 0 rfl rfl rfl) rfl rfl hl.1 rfl (lv_room (Nat.le_of_ble_eq_true rfl)) dX12_days_7 ⟨by rw [hRc]; exact Nat.le_of_ble_eq_true rfl, by rw [hRs]; exact Nat.le_of_ble_eq_true rfl⟩) hP hD hS hA [0, 2] rfl (fun _ => rfl) ?_
  clear hP hD hS
  clear H locs
  intro v1 _u H locs hw hP hD hS
  rcases hw with rfl | ⟨rfl, w2, w3⟩
  · refine lv_if_eq (tgt := 30) hx hb dX12_days_10 (by decide) (fun c4 => ?_) (fun c4 => ?_)
    · refine lv_bipush (v := (-2)) hx hb dX12_days_30 (by decide) ?_
      subst hAe
      rw [hQ]
      exact W.iret (v := (-2)) hx hb hr (fun t ht hW => ⟨⟨(-2), (i_13, i_14, i_15, f_6, f_7, f_8, f_9), rfl, ⟨h0, h42, h43, h44, h45, trivial⟩, by rw [ht]; exact hP, hK.warm hW, hD⟩, hS.F ht⟩) hS.2.2 dX12_days_32
    · exact absurd rfl (mm_ne c4)
  · have q5 := mm_ltR (lo := 1) w3 w2 h9 (by decide)
    have q6 : mm_rg i_20 1 601 := mm_tl_3 h49 q5 h1 (by decide)
    refine lv_if_eq (tgt := 30) hx hb dX12_days_10 (by decide) (fun c7 => ?_) (fun c7 => ?_)
    · exact mm_eqN c7.symm mm_k0 mm_k1 (by decide)
    · refine lv_aload_n hx hb dX12_days_13 rfl (lv_at hl 0 rfl) ?_
      refine lv_iload_n hx hb dX12_days_14 rfl (lv_at hl 2 rfl) ?_
      obtain ⟨v8, ev8⟩ : ∃ y : Int64, y = i_1.toInt64 := ⟨_, rfl⟩
      refine lv_i2l hx hb dX12_days_15 ev8.symm ?_
      have rv8 : mm_rl v8 (-2147483648) 2147483647 := mm_i2l ev8 (mm_top i_1)
      refine mm_finir (va_runV (As := [.long v8]) (rest := []) ⟨hx, hb, hml, hown, hts⟩ (M96_X12_isText l G cy H.size a_0 v8 0 a_1 a_2 a_3 a_4 a_5 i_4 i_5 i_6 i_7 i_8 j_0 i_9 i_10 i_11 i_12 a_6 a_7 a_8 a_9 a_10 a_11 a_12 a_13 a_14 a_15 a_16 a_17 a_18 i_13 i_14 i_15 i_16 i_17 i_18 a_19 i_19 a_20 i_25 i_26 i_27 i_28 i_29 i_30 i_31 i_32 i_33 i_34 i_35 i_36 i_37 i_38 i_39 i_40 i_41 i_42 i_43 i_44 i_45 i_46 i_47 i_48 i_49 i_50 i_51 i_52 i_53 i_54 h6 h7 h8 (mm_wk q5 (by decide)) h10 h11 h12 h13 h14 h15 h16 h17 h18 h19 h20 h21 h22 h23 h24 h25 h26 h27 h28 h29 h30 h31 h32 h33 h34 h35) (cwV 1 hts (mm_gV mm_w613 mm_w614 mm_w615 mm_w5 mm_w616) rfl rfl rfl hd_X12_isText ⟨by rw [hRf]; exact Nat.le_of_ble_eq_true rfl, by rw [hRl]; exact Nat.le_of_ble_eq_true rfl⟩) (mm_preV hK hZ hS hA hP hD [0, 2] rfl rfl 0 rfl rfl rfl) rfl rfl hl.1 rfl (lv_room (Nat.le_of_ble_eq_true rfl)) dX12_days_16 ⟨by rw [hRc]; exact Nat.le_of_ble_eq_true rfl, by rw [hRs]; exact Nat.le_of_ble_eq_true rfl⟩) hP hD hS hA [0, 2] rfl (fun _ => rfl) ?_
      clear hP hD hS
      clear H locs
      intro v9 _u H locs hw hP hD hS
      rcases hw with rfl | ⟨rfl, w10, w11⟩
      · refine lv_if_eq (tgt := 30) hx hb dX12_days_19 (by decide) (fun c12 => ?_) (fun c12 => ?_)
        · refine lv_bipush (v := (-2)) hx hb dX12_days_30 (by decide) ?_
          subst hAe
          rw [hQ]
          exact W.iret (v := (-2)) hx hb hr (fun t ht hW => ⟨⟨(-2), (i_13, i_14, i_15, f_6, f_7, f_8, f_9), rfl, ⟨h0, h42, h43, h44, h45, trivial⟩, by rw [ht]; exact hP, hK.warm hW, hD⟩, hS.F ht⟩) hS.2.2 dX12_days_32
        · exact absurd rfl (mm_ne c12)
      · have q13 := mm_meet (lo := 0) (hi := 5) (mm_l2x ev8 w10) (mm_top i_1) (by decide)
        have w14 := mm_tx_lt w11 (mm_i2lE ev8)
        have q15 := mm_ltR (lo := 1) w14 q13 h10 (by decide)
        refine lv_if_eq (tgt := 30) hx hb dX12_days_19 (by decide) (fun c16 => ?_) (fun c16 => ?_)
        · exact mm_eqN c16.symm mm_k0 mm_k1 (by decide)
        · refine lv_iload_n hx hb dX12_days_22 rfl (lv_at hl 3 rfl) ?_
          obtain ⟨v17, ev17⟩ : ∃ y : Int64, y = i_2.toInt64 := ⟨_, rfl⟩
          refine lv_i2l hx hb dX12_days_23 ev17.symm ?_
          have rv17 : mm_rl v17 (-2147483648) 2147483647 := mm_i2l ev17 (mm_top i_2)
          refine mm_finir (va_runS (As := [.long v17]) (rest := []) ⟨hx, hb, hml, hown, hts⟩ (M146_X12_isStock l G cy H.size v17 rv17) (va_cwS 1 hts (mm_gS mm_w922 mm_w923 mm_w5 mm_w924) rfl rfl rfl hs_X12_isStock ⟨by rw [hRf]; exact Nat.le_of_ble_eq_true rfl, by rw [hRl]; exact Nat.le_of_ble_eq_true rfl⟩) (mm_preS hK hZ hS hA hP hD [] rfl rfl) rfl rfl hl.1 rfl (lv_room (Nat.le_of_ble_eq_true rfl)) dX12_days_24 ⟨by rw [hRc]; exact Nat.le_of_ble_eq_true rfl, by rw [hRs]; exact Nat.le_of_ble_eq_true rfl⟩) hP hD hS hA [] rfl (fun _ => rfl) ?_
          clear hP hD hS
          clear H locs
          intro v18 _u H locs hw hP hD hS
          rcases hw with rfl | ⟨rfl, w19⟩
          · refine lv_if_ne (tgt := 33) hx hb dX12_days_27 (by decide) (fun c20 => ?_) (fun c20 => ?_)
            · exact absurd rfl (mm_ne c20)
            · refine lv_bipush (v := (-2)) hx hb dX12_days_30 (by decide) ?_
              subst hAe
              rw [hQ]
              exact W.iret (v := (-2)) hx hb hr (fun t ht hW => ⟨⟨(-2), (i_13, i_14, i_15, f_6, f_7, f_8, f_9), rfl, ⟨h0, h42, h43, h44, h45, trivial⟩, by rw [ht]; exact hP, hK.warm hW, hD⟩, hS.F ht⟩) hS.2.2 dX12_days_32
          · have q21 := mm_meet (lo := 0) (hi := 9999) (mm_l2x ev17 w19) (mm_top i_2) (by decide)
            refine lv_if_ne (tgt := 33) hx hb dX12_days_27 (by decide) (fun c22 => ?_) (fun c22 => ?_)
            · refine lv_aload_n hx hb dX12_days_33 rfl (lv_at hl 0 rfl) ?_
              refine mm_finv (va_runV (As := []) (rest := []) ⟨hx, hb, hml, hown, hts⟩ (M125_X12_lays l G cy H.size a_0 0 a_1 a_2 a_3 a_4 a_5 i_4 i_5 i_6 i_7 i_8 j_0 i_9 i_10 i_11 i_12 a_6 a_7 a_8 a_9 a_10 a_11 a_12 a_13 a_14 a_15 a_16 a_17 a_18 i_13 i_14 i_15 i_16 i_17 i_18 a_19 i_19 a_20 i_20 i_21 i_22 i_23 i_24 i_25 i_26 i_27 i_28 i_29 i_30 i_31 i_32 i_33 i_34 i_35 i_36 i_37 i_38 i_39 i_40 i_41 i_42 i_43 i_44 i_45 i_46 i_47 i_48 i_49 i_50 i_51 i_52 i_53 i_54 f_1 f_2 f_5 f_6 f_7 f_8 (mm_wk q6 (by decide)) h2 h3 h4 h5 h6 h7 h8 (mm_wk q5 (by decide)) (mm_wk q15 (by decide)) h11 h12 h13 h14 h15 h16 h17 h18 h19 h20 h21 h22 h23 h24 h25 h26 h27 h28 h29 h30 h31 h32 h33 h34 h35 h37 h38 h41 h42 h43 h44 h46 h48 h49 h50 h52 h53 h54 h56 h57 h58 h60 h61) (cwV 0 hts (mm_gV mm_w686 mm_w687 mm_w688 mm_w5 mm_w689) rfl rfl rfl hd_X12_lays ⟨by rw [hRf]; exact Nat.le_of_ble_eq_true rfl, by rw [hRl]; exact Nat.le_of_ble_eq_true rfl⟩) (mm_preV hK hZ hS hA hP hD [0, 1, 2, 4, 5, 8, 9, 10, 11] rfl rfl 0 rfl rfl rfl) rfl rfl hl.1 rfl (lv_room (Nat.le_of_ble_eq_true rfl)) dX12_days_34 ⟨by rw [hRc]; exact Nat.le_of_ble_eq_true rfl, by rw [hRs]; exact Nat.le_of_ble_eq_true rfl⟩) hP hD hS hA (fun u : (Nat → Int32) × (Nat → Int32) × (Nat → Int32) => [(a_0, .inr (12, [.int 0, .ref a_1, .ref a_2, .ref a_3, .ref a_4, .ref a_5, .int i_4, .int i_5, .int i_6, .int i_7, .int i_8, .long j_0, .int i_9, .int i_10, .int i_11, .int i_12, .ref a_6, .ref a_7, .ref a_8, .ref a_9, .ref a_10, .ref a_11, .ref a_12, .ref a_13, .ref a_14, .ref a_15, .ref a_16, .ref a_17, .ref a_18, .int i_13, .int i_14, .int i_15, .int i_16, .int i_17, .int i_18, .ref a_19, .int i_19, .ref a_20])), (a_6, .inl (cy 1, 5, .inl (mm_g [i_20, i_21, i_22, i_23, i_24]))), (a_7, .inl (cy 1, 30, .inl (mm_g [i_25, i_26, i_27, i_28, i_29, i_30, i_31, i_32, i_33, i_34, i_35, i_36, i_37, i_38, i_39, i_40, i_41, i_42, i_43, i_44, i_45, i_46, i_47, i_48, i_49, i_50, i_51, i_52, i_53, i_54]))), (a_8, .inl (cy 1, 90, .inl f_0)), (a_9, .inl (cy 1, 15, .inl f_1)), (a_10, .inl (cy 1, 1050, .inl f_2)), (a_11, .inl (cy 1, 30, .inl f_3)), (a_12, .inl (cy 1, 240, .inl f_4)), (a_13, .inl (cy 1, 450, .inl f_5)), (a_15, .inl (cy 1, 7200, .inl u.1)), (a_16, .inl (cy 1, 3, .inl u.2.1)), (a_17, .inl (cy 1, 3, .inl u.2.2)), (a_18, .inl (cy 1, 8, .inl f_9))]) [0, 1, 2, 4, 5, 8, 9, 10, 11] [3, 6, 7, 12] (n := 13) (fun _ => rfl) (by decide +kernel) (by decide +kernel) rfl (fun _ => rfl) (wr := [(a_8, .inl (cy 1, 90, .inl f_0)), (a_11, .inl (cy 1, 30, .inl f_3)), (a_12, .inl (cy 1, 240, .inl f_4)), (a_18, .inl (cy 1, 8, .inl f_9))]) rfl (fun _ => rfl) (fun _ => @rfl _ ([a_0, a_6, a_7, a_9, a_10, a_13, a_15, a_16, a_17] : List Nat)) ?_
              clear hP hD hS
              clear H locs
              intro u
              obtain ⟨n23, n24, n25⟩ := u
              intro H locs hw (hP : va_P G vwCl [(a_0, .inr (12, [.int 0, .ref a_1, .ref a_2, .ref a_3, .ref a_4, .ref a_5, .int i_4, .int i_5, .int i_6, .int i_7, .int i_8, .long j_0, .int i_9, .int i_10, .int i_11, .int i_12, .ref a_6, .ref a_7, .ref a_8, .ref a_9, .ref a_10, .ref a_11, .ref a_12, .ref a_13, .ref a_14, .ref a_15, .ref a_16, .ref a_17, .ref a_18, .int i_13, .int i_14, .int i_15, .int i_16, .int i_17, .int i_18, .ref a_19, .int i_19, .ref a_20])), (a_6, .inl (cy 1, 5, .inl (mm_g [i_20, i_21, i_22, i_23, i_24]))), (a_7, .inl (cy 1, 30, .inl (mm_g [i_25, i_26, i_27, i_28, i_29, i_30, i_31, i_32, i_33, i_34, i_35, i_36, i_37, i_38, i_39, i_40, i_41, i_42, i_43, i_44, i_45, i_46, i_47, i_48, i_49, i_50, i_51, i_52, i_53, i_54]))), (a_8, .inl (cy 1, 90, .inl f_0)), (a_9, .inl (cy 1, 15, .inl f_1)), (a_10, .inl (cy 1, 1050, .inl f_2)), (a_11, .inl (cy 1, 30, .inl f_3)), (a_12, .inl (cy 1, 240, .inl f_4)), (a_13, .inl (cy 1, 450, .inl f_5)), (a_15, .inl (cy 1, 7200, .inl n23)), (a_16, .inl (cy 1, 3, .inl n24)), (a_17, .inl (cy 1, 3, .inl n25)), (a_18, .inl (cy 1, 8, .inl f_9))] H) (hD : va_D A [(a_0, .inr (12, [.int 0, .ref a_1, .ref a_2, .ref a_3, .ref a_4, .ref a_5, .int i_4, .int i_5, .int i_6, .int i_7, .int i_8, .long j_0, .int i_9, .int i_10, .int i_11, .int i_12, .ref a_6, .ref a_7, .ref a_8, .ref a_9, .ref a_10, .ref a_11, .ref a_12, .ref a_13, .ref a_14, .ref a_15, .ref a_16, .ref a_17, .ref a_18, .int i_13, .int i_14, .int i_15, .int i_16, .int i_17, .int i_18, .ref a_19, .int i_19, .ref a_20])), (a_6, .inl (cy 1, 5, .inl (mm_g [i_20, i_21, i_22, i_23, i_24]))), (a_7, .inl (cy 1, 30, .inl (mm_g [i_25, i_26, i_27, i_28, i_29, i_30, i_31, i_32, i_33, i_34, i_35, i_36, i_37, i_38, i_39, i_40, i_41, i_42, i_43, i_44, i_45, i_46, i_47, i_48, i_49, i_50, i_51, i_52, i_53, i_54]))), (a_8, .inl (cy 1, 90, .inl f_0)), (a_9, .inl (cy 1, 15, .inl f_1)), (a_10, .inl (cy 1, 1050, .inl f_2)), (a_11, .inl (cy 1, 30, .inl f_3)), (a_12, .inl (cy 1, 240, .inl f_4)), (a_13, .inl (cy 1, 450, .inl f_5)), (a_15, .inl (cy 1, 7200, .inl n23)), (a_16, .inl (cy 1, 3, .inl n24)), (a_17, .inl (cy 1, 3, .inl n25)), (a_18, .inl (cy 1, 8, .inl f_9))]) hS
              obtain ⟨w26, w27, w28, w29, w30⟩ := hw
              replace w29 : mm_laid n24 n25 i_28 := w29
              replace w30 : mm_tab n23 n24 i_27 i_28 := w30
              refine lv_iconst (v := 0) hx hb dX12_days_37 (by decide) ?_
              refine lv_istore (lv' := [(4, .int 0), (0, .ref a_0), (1, .int i_0), (2, .int i_1), (3, .int i_2)]) hx hb dX12_days_38 hl (by decide) rfl ?_
              clear hl
              clear ls
              intro ls hl
              refine lv_iconst (v := 0) hx hb dX12_days_40 (by decide) ?_
              refine lv_istore (lv' := [(5, .int 0), (4, .int 0), (0, .ref a_0), (1, .int i_0), (2, .int i_1), (3, .int i_2)]) hx hb dX12_days_41 hl (by decide) rfl ?_
              clear hl
              clear ls
              intro ls hl
              have L43_536 : ∀ (n : Nat) (x43_5_531 : Int32) (x43_4_532 : Int32) (y43_0_29_533 : Int32) (y43_0_30_534 : Int32) (y43_0_31_535 : Int32) (z43_12_536 : Nat → Int32), mm_rg x43_5_531 0 210 → mm_rg y43_0_29_533 0 8 → mm_ar z43_12_536 0 9 → (210 - x43_5_531.toInt).toNat < n → ∀ (H : Heap) (locs : List Loc), va_P G vwCl [(a_0, .inr (12, [.int 0, .ref a_1, .ref a_2, .ref a_3, .ref a_4, .ref a_5, .int i_4, .int i_5, .int i_6, .int i_7, .int i_8, .long j_0, .int i_9, .int i_10, .int i_11, .int i_12, .ref a_6, .ref a_7, .ref a_8, .ref a_9, .ref a_10, .ref a_11, .ref a_12, .ref a_13, .ref a_14, .ref a_15, .ref a_16, .ref a_17, .ref a_18, .int y43_0_29_533, .int y43_0_30_534, .int y43_0_31_535, .int i_16, .int i_17, .int i_18, .ref a_19, .int i_19, .ref a_20])), (a_6, .inl (cy 1, 5, .inl (mm_g [i_20, i_21, i_22, i_23, i_24]))), (a_7, .inl (cy 1, 30, .inl (mm_g [i_25, i_26, i_27, i_28, i_29, i_30, i_31, i_32, i_33, i_34, i_35, i_36, i_37, i_38, i_39, i_40, i_41, i_42, i_43, i_44, i_45, i_46, i_47, i_48, i_49, i_50, i_51, i_52, i_53, i_54]))), (a_8, .inl (cy 1, 90, .inl f_0)), (a_9, .inl (cy 1, 15, .inl f_1)), (a_10, .inl (cy 1, 1050, .inl f_2)), (a_11, .inl (cy 1, 30, .inl f_3)), (a_12, .inl (cy 1, 240, .inl f_4)), (a_13, .inl (cy 1, 450, .inl f_5)), (a_15, .inl (cy 1, 7200, .inl n23)), (a_16, .inl (cy 1, 3, .inl n24)), (a_17, .inl (cy 1, 3, .inl n25)), (a_18, .inl (cy 1, 8, .inl z43_12_536))] H → va_D A [(a_0, .inr (12, [.int 0, .ref a_1, .ref a_2, .ref a_3, .ref a_4, .ref a_5, .int i_4, .int i_5, .int i_6, .int i_7, .int i_8, .long j_0, .int i_9, .int i_10, .int i_11, .int i_12, .ref a_6, .ref a_7, .ref a_8, .ref a_9, .ref a_10, .ref a_11, .ref a_12, .ref a_13, .ref a_14, .ref a_15, .ref a_16, .ref a_17, .ref a_18, .int y43_0_29_533, .int y43_0_30_534, .int y43_0_31_535, .int i_16, .int i_17, .int i_18, .ref a_19, .int i_19, .ref a_20])), (a_6, .inl (cy 1, 5, .inl (mm_g [i_20, i_21, i_22, i_23, i_24]))), (a_7, .inl (cy 1, 30, .inl (mm_g [i_25, i_26, i_27, i_28, i_29, i_30, i_31, i_32, i_33, i_34, i_35, i_36, i_37, i_38, i_39, i_40, i_41, i_42, i_43, i_44, i_45, i_46, i_47, i_48, i_49, i_50, i_51, i_52, i_53, i_54]))), (a_8, .inl (cy 1, 90, .inl f_0)), (a_9, .inl (cy 1, 15, .inl f_1)), (a_10, .inl (cy 1, 1050, .inl f_2)), (a_11, .inl (cy 1, 30, .inl f_3)), (a_12, .inl (cy 1, 240, .inl f_4)), (a_13, .inl (cy 1, 450, .inl f_5)), (a_15, .inl (cy 1, 7200, .inl n23)), (a_16, .inl (cy 1, 3, .inl n24)), (a_17, .inl (cy 1, 3, .inl n25)), (a_18, .inl (cy 1, 8, .inl z43_12_536))] → va_S A s.heap H locs → ∀ (ls : Array Slot), lv_has ls 6 [(5, .int x43_5_531), (4, .int x43_4_532), (0, .ref a_0), (1, .int i_0), (2, .int i_1), (3, .int i_2)] → W p l e R s m args below meth c H locs 0 0 Q (F0 m 43 ls []) := by
                intro n
                induction n with
                | zero => intro x43_5_531 x43_4_532 y43_0_29_533 y43_0_30_534 y43_0_31_535 z43_12_536 rx43_5_531 ry43_0_29_533 rz43_12_536 hm; exact absurd hm (Nat.not_lt_zero _)
                | succ n ih43 =>
                  intro x43_5_531 x43_4_532 y43_0_29_533 y43_0_30_534 y43_0_31_535 z43_12_536 rx43_5_531 ry43_0_29_533 rz43_12_536 hm43 H locs hP hD hS ls hl
                  refine lv_iload hx hb dX12_days_43 (lv_at hl 0 rfl) ?_
                  refine lv_aload_n hx hb dX12_days_45 rfl (lv_at hl 2 rfl) ?_
                  refine va_get (D := G) (ci := 12) (v := .ref a_17) (C := RX12) (T := TX12) (N := 38) hx hb hts (mm_i inlX12) hown hK.1 hP 0 rfl rfl 27 (by decide) (mm_h hts mm_w159) (fun _ h9 => h9) rfl dX12_days_46 ?_
                  refine lv_iload_n hx hb dX12_days_49 rfl (lv_at hl 3 rfl) ?_
                  refine va_iald hx hb hK.1 hP 11 1 rfl rfl (mm_in w2 (by decide)) dX12_days_50 ?_
                  refine lv_topi (fun v538 ev538 => ?_)
                  have rv538 : mm_rg v538 0 210 := mm_eqv ev538 (w28 _)
                  have q539 : mm_rg v538 1 210 := mm_laid_ld1 w29 w3 ev538 w2 rv538 (by decide)
                  refine lv_icmp_ge (tgt := 82) hx hb dX12_days_51 (by decide) (fun c540 => ?_) (fun c540 => ?_)
                  · have q541 := mm_leR (mm_le c540) q539 rx43_5_531
                    refine lv_iload hx hb dX12_days_82 (lv_at hl 1 rfl) ?_
                    subst hAe
                    rw [hQ]
                    exact W.iret (v := x43_4_532) hx hb hr (fun t ht hW => ⟨⟨x43_4_532, (y43_0_29_533, y43_0_30_534, y43_0_31_535, n23, n24, n25, z43_12_536), rfl, ⟨ry43_0_29_533, w26, w27, w28, rz43_12_536, trivial⟩, by rw [ht]; exact hP, hK.warm hW, hD⟩, hS.F ht⟩) hS.2.2 dX12_days_84
                  · have q542 := mm_ltL (h := 209) (mm_nle c540) rx43_5_531 q539 (by decide)
                    refine lv_iload hx hb dX12_days_54 (lv_at hl 1 rfl) ?_
                    refine lv_aload_n hx hb dX12_days_56 rfl (lv_at hl 2 rfl) ?_
                    refine lv_iload_n hx hb dX12_days_57 rfl (lv_at hl 3 rfl) ?_
                    refine lv_iload hx hb dX12_days_58 (lv_at hl 0 rfl) ?_
                    refine lv_iload_n hx hb dX12_days_60 rfl (lv_at hl 4 rfl) ?_
                    refine mm_fini (va_runV (As := [.int i_0, .int x43_5_531, .int i_1]) (rest := [.int x43_4_532]) ⟨hx, hb, hml, hown, hts⟩ (M141_X12_reads l G cy H.size a_0 i_0 x43_5_531 i_1 0 a_1 a_2 a_3 a_4 a_5 i_4 i_5 i_6 i_7 i_8 j_0 i_9 i_10 i_11 i_12 a_6 a_7 a_8 a_9 a_10 a_11 a_12 a_13 a_14 a_15 a_16 a_17 a_18 y43_0_29_533 y43_0_30_534 y43_0_31_535 i_16 i_17 i_18 a_19 i_19 a_20 i_25 i_26 i_27 i_28 i_29 i_30 i_31 i_32 i_33 i_34 i_35 i_36 i_37 i_38 i_39 i_40 i_41 i_42 i_43 i_44 i_45 i_46 i_47 i_48 i_49 i_50 i_51 i_52 i_53 i_54 f_0 f_3 f_4 f_5 n23 n24 z43_12_536 w2 (mm_wk q542 (by decide)) q13 ry43_0_29_533 h6 h7 h8 (mm_wk q5 (by decide)) (mm_wk q15 (by decide)) h11 h12 h13 h14 h15 h16 h17 h18 h19 h20 h21 h22 h23 h24 h25 h26 h27 h28 h29 h30 h31 h32 h33 h34 h35 h36 h39 h40 h41 w26 w27 rz43_12_536 h47 h48 h51 h52 h55 h56 h59 h60 (mm_f1_l w29 w3 w2 (by decide))) (cwV 3 hts (mm_gV mm_w852 mm_w853 mm_w854 mm_w5 mm_w855) rfl rfl rfl hd_X12_reads ⟨by rw [hRf]; exact Nat.le_of_ble_eq_true rfl, by rw [hRl]; exact Nat.le_of_ble_eq_true rfl⟩) (mm_preV hK hZ hS hA hP hD [0, 2, 3, 6, 7, 8, 9, 10, 12] rfl rfl 0 rfl rfl rfl) rfl rfl hl.1 rfl (lv_room (Nat.le_of_ble_eq_true rfl)) dX12_days_61 ⟨by rw [hRc]; exact Nat.le_of_ble_eq_true rfl, by rw [hRs]; exact Nat.le_of_ble_eq_true rfl⟩) hP hD hS hA (fun u : Int32 × Int32 × Int32 × (Nat → Int32) => [(a_0, .inr (12, [.int 0, .ref a_1, .ref a_2, .ref a_3, .ref a_4, .ref a_5, .int i_4, .int i_5, .int i_6, .int i_7, .int i_8, .long j_0, .int i_9, .int i_10, .int i_11, .int i_12, .ref a_6, .ref a_7, .ref a_8, .ref a_9, .ref a_10, .ref a_11, .ref a_12, .ref a_13, .ref a_14, .ref a_15, .ref a_16, .ref a_17, .ref a_18, .int u.1, .int u.2.1, .int u.2.2.1, .int i_16, .int i_17, .int i_18, .ref a_19, .int i_19, .ref a_20])), (a_6, .inl (cy 1, 5, .inl (mm_g [i_20, i_21, i_22, i_23, i_24]))), (a_7, .inl (cy 1, 30, .inl (mm_g [i_25, i_26, i_27, i_28, i_29, i_30, i_31, i_32, i_33, i_34, i_35, i_36, i_37, i_38, i_39, i_40, i_41, i_42, i_43, i_44, i_45, i_46, i_47, i_48, i_49, i_50, i_51, i_52, i_53, i_54]))), (a_8, .inl (cy 1, 90, .inl f_0)), (a_9, .inl (cy 1, 15, .inl f_1)), (a_10, .inl (cy 1, 1050, .inl f_2)), (a_11, .inl (cy 1, 30, .inl f_3)), (a_12, .inl (cy 1, 240, .inl f_4)), (a_13, .inl (cy 1, 450, .inl f_5)), (a_15, .inl (cy 1, 7200, .inl n23)), (a_16, .inl (cy 1, 3, .inl n24)), (a_17, .inl (cy 1, 3, .inl n25)), (a_18, .inl (cy 1, 8, .inl u.2.2.2))]) [0, 2, 3, 6, 7, 8, 9, 10, 12] [1, 4, 5, 11] (n := 13) (fun _ => rfl) (by decide +kernel) (by decide +kernel) rfl (fun _ => rfl) (wr := [(a_6, .inl (cy 1, 5, .inl (mm_g [i_20, i_21, i_22, i_23, i_24]))), (a_9, .inl (cy 1, 15, .inl f_1)), (a_10, .inl (cy 1, 1050, .inl f_2)), (a_17, .inl (cy 1, 3, .inl n25))]) rfl (fun _ => rfl) (fun _ => @rfl _ ([a_0, a_7, a_8, a_11, a_12, a_13, a_15, a_16, a_18] : List Nat)) ?_
                    clear hP hD hS
                    clear H locs
                    intro v547 u
                    obtain ⟨n543, n544, n545, n546⟩ := u
                    intro H locs hw (hP : va_P G vwCl [(a_0, .inr (12, [.int 0, .ref a_1, .ref a_2, .ref a_3, .ref a_4, .ref a_5, .int i_4, .int i_5, .int i_6, .int i_7, .int i_8, .long j_0, .int i_9, .int i_10, .int i_11, .int i_12, .ref a_6, .ref a_7, .ref a_8, .ref a_9, .ref a_10, .ref a_11, .ref a_12, .ref a_13, .ref a_14, .ref a_15, .ref a_16, .ref a_17, .ref a_18, .int n543, .int n544, .int n545, .int i_16, .int i_17, .int i_18, .ref a_19, .int i_19, .ref a_20])), (a_6, .inl (cy 1, 5, .inl (mm_g [i_20, i_21, i_22, i_23, i_24]))), (a_7, .inl (cy 1, 30, .inl (mm_g [i_25, i_26, i_27, i_28, i_29, i_30, i_31, i_32, i_33, i_34, i_35, i_36, i_37, i_38, i_39, i_40, i_41, i_42, i_43, i_44, i_45, i_46, i_47, i_48, i_49, i_50, i_51, i_52, i_53, i_54]))), (a_8, .inl (cy 1, 90, .inl f_0)), (a_9, .inl (cy 1, 15, .inl f_1)), (a_10, .inl (cy 1, 1050, .inl f_2)), (a_11, .inl (cy 1, 30, .inl f_3)), (a_12, .inl (cy 1, 240, .inl f_4)), (a_13, .inl (cy 1, 450, .inl f_5)), (a_15, .inl (cy 1, 7200, .inl n23)), (a_16, .inl (cy 1, 3, .inl n24)), (a_17, .inl (cy 1, 3, .inl n25)), (a_18, .inl (cy 1, 8, .inl n546))] H) (hD : va_D A [(a_0, .inr (12, [.int 0, .ref a_1, .ref a_2, .ref a_3, .ref a_4, .ref a_5, .int i_4, .int i_5, .int i_6, .int i_7, .int i_8, .long j_0, .int i_9, .int i_10, .int i_11, .int i_12, .ref a_6, .ref a_7, .ref a_8, .ref a_9, .ref a_10, .ref a_11, .ref a_12, .ref a_13, .ref a_14, .ref a_15, .ref a_16, .ref a_17, .ref a_18, .int n543, .int n544, .int n545, .int i_16, .int i_17, .int i_18, .ref a_19, .int i_19, .ref a_20])), (a_6, .inl (cy 1, 5, .inl (mm_g [i_20, i_21, i_22, i_23, i_24]))), (a_7, .inl (cy 1, 30, .inl (mm_g [i_25, i_26, i_27, i_28, i_29, i_30, i_31, i_32, i_33, i_34, i_35, i_36, i_37, i_38, i_39, i_40, i_41, i_42, i_43, i_44, i_45, i_46, i_47, i_48, i_49, i_50, i_51, i_52, i_53, i_54]))), (a_8, .inl (cy 1, 90, .inl f_0)), (a_9, .inl (cy 1, 15, .inl f_1)), (a_10, .inl (cy 1, 1050, .inl f_2)), (a_11, .inl (cy 1, 30, .inl f_3)), (a_12, .inl (cy 1, 240, .inl f_4)), (a_13, .inl (cy 1, 450, .inl f_5)), (a_15, .inl (cy 1, 7200, .inl n23)), (a_16, .inl (cy 1, 3, .inl n24)), (a_17, .inl (cy 1, 3, .inl n25)), (a_18, .inl (cy 1, 8, .inl n546))]) hS
                    obtain ⟨w548, w549, hw⟩ := hw
                    obtain ⟨w550, w551⟩ := hw
                    replace w551 : mm_rd n23 n24 f_0 f_3 f_4 f_5 i_0 x43_5_531 i_1 i_26 i_27 i_30 v547 := w551
                    refine lv_iload_n hx hb dX12_days_64 rfl (lv_at hl 5 rfl) ?_
                    refine lv_icmp_lt (tgt := 72) hx hb dX12_days_65 (by decide) (fun c552 => ?_) (fun c552 => ?_)
                    · have q553 := mm_ltL (h := 9998) (mm_lt c552) w550 q21 (by decide)
                      have q554 := mm_ltR (lo := 1) (mm_lt c552) w550 q21 (by decide)
                      refine lv_iconst (v := 0) hx hb dX12_days_72 (by decide) ?_
                      refine lv_iadd hx hb dX12_days_73 ?_
                      refine lv_topi (fun v555 ev555 => ?_)
                      have rv555 : mm_rg v555 (-2147483648) 2147483647 := mm_add ev555 (mm_top x43_4_532) mm_k0 (by decide) (by decide)
                      have tv555 := mm_addEc ev555 (mm_top x43_4_532) mm_k0 (by decide) (k := 0) (by decide)
                      refine lv_istore (lv' := [(4, .int v555), (5, .int x43_5_531), (0, .ref a_0), (1, .int i_0), (2, .int i_1), (3, .int i_2)]) hx hb dX12_days_74 hl (by decide) rfl ?_
                      clear hl
                      clear ls
                      intro ls hl
                      obtain ⟨v556, ev556⟩ : ∃ y : Int32, y = x43_5_531 + 1 := ⟨_, rfl⟩
                      refine lv_iinc (v := v556) (lv' := [(5, .int v556), (4, .int v555), (0, .ref a_0), (1, .int i_0), (2, .int i_1), (3, .int i_2)]) hx hb dX12_days_76 hl (k := 1) rfl (by rw [ev556]; rfl) (by decide) rfl ?_
                      clear hl
                      clear ls
                      intro ls hl
                      have rv556 : mm_rg v556 1 210 := mm_add ev556 q542 mm_k1 (by decide) (by decide)
                      have tv556 := mm_addEc ev556 q542 mm_k1 (by decide) (k := 1) (by decide)
                      refine lv_goto (tgt := 43) hx hb dX12_days_79 (by decide) ?_
                      exact ih43 v556 v555 n543 n544 n545 n546 (mm_wk rv556 (by decide)) w548 w549 (mm_mu hm43 tv556 (by decide) (rv556).2 (by decide)) H locs hP hD hS ls (lv_sub hl [0, 1, 2, 3, 4, 5] rfl)
                    · refine lv_iconst (v := 1) hx hb dX12_days_68 (by decide) ?_
                      refine lv_goto (tgt := 73) hx hb dX12_days_69 (by decide) ?_
                      refine lv_iadd hx hb dX12_days_73 ?_
                      refine lv_topi (fun v557 ev557 => ?_)
                      refine lv_istore (lv' := [(4, .int v557), (5, .int x43_5_531), (0, .ref a_0), (1, .int i_0), (2, .int i_1), (3, .int i_2)]) hx hb dX12_days_74 hl (by decide) rfl ?_
                      clear hl
                      clear ls
                      intro ls hl
                      obtain ⟨v558, ev558⟩ : ∃ y : Int32, y = x43_5_531 + 1 := ⟨_, rfl⟩
                      refine lv_iinc (v := v558) (lv' := [(5, .int v558), (4, .int v557), (0, .ref a_0), (1, .int i_0), (2, .int i_1), (3, .int i_2)]) hx hb dX12_days_76 hl (k := 1) rfl (by rw [ev558]; rfl) (by decide) rfl ?_
                      clear hl
                      clear ls
                      intro ls hl
                      have rv558 : mm_rg v558 1 210 := mm_add ev558 q542 mm_k1 (by decide) (by decide)
                      have tv558 := mm_addEc ev558 q542 mm_k1 (by decide) (k := 1) (by decide)
                      refine lv_goto (tgt := 43) hx hb dX12_days_79 (by decide) ?_
                      exact ih43 v558 v557 n543 n544 n545 n546 (mm_wk rv558 (by decide)) w548 w549 (mm_mu hm43 tv558 (by decide) (rv558).2 (by decide)) H locs hP hD hS ls (lv_sub hl [0, 1, 2, 3, 4, 5] rfl)
              exact L43_536 _ 0 0 i_13 i_14 i_15 f_9 (mm_wk mm_k0 (by decide)) h0 h45 (Nat.lt_succ_self _) H locs hP hD hS ls (lv_sub hl [0, 1, 2, 3, 4, 5] rfl)
            · exact mm_eqN c22.symm mm_k0 mm_k1 (by decide)

set_option maxHeartbeats 4000000 in
set_option maxRecDepth 100000 in
theorem M158_X12_run (l : Launch) (G : va_G) (cy : Nat → ClassId) (sz : Nat) (a_0 : Nat) (i_0 : Int32) (i_1 : Int32) (i_2 : Int32) (a_1 : Nat) (a_2 : Nat) (a_3 : Nat) (a_4 : Nat) (a_5 : Nat) (i_3 : Int32) (i_4 : Int32) (i_5 : Int32) (i_6 : Int32) (i_7 : Int32) (j_0 : Int64) (i_8 : Int32) (i_9 : Int32) (i_10 : Int32) (i_11 : Int32) (a_6 : Nat) (a_7 : Nat) (a_8 : Nat) (a_9 : Nat) (a_10 : Nat) (a_11 : Nat) (a_12 : Nat) (a_13 : Nat) (a_14 : Nat) (a_15 : Nat) (a_16 : Nat) (a_17 : Nat) (a_18 : Nat) (i_12 : Int32) (i_13 : Int32) (i_14 : Int32) (i_15 : Int32) (i_16 : Int32) (i_17 : Int32) (a_19 : Nat) (i_18 : Int32) (a_20 : Nat) (i_19 : Int32) (i_20 : Int32) (i_21 : Int32) (i_22 : Int32) (i_23 : Int32) (i_24 : Int32) (i_25 : Int32) (i_26 : Int32) (i_27 : Int32) (i_28 : Int32) (i_29 : Int32) (i_30 : Int32) (i_31 : Int32) (i_32 : Int32) (i_33 : Int32) (i_34 : Int32) (i_35 : Int32) (i_36 : Int32) (i_37 : Int32) (i_38 : Int32) (i_39 : Int32) (i_40 : Int32) (i_41 : Int32) (i_42 : Int32) (i_43 : Int32) (i_44 : Int32) (i_45 : Int32) (i_46 : Int32) (i_47 : Int32) (i_48 : Int32) (i_49 : Int32) (i_50 : Int32) (i_51 : Int32) (i_52 : Int32) (i_53 : Int32) (f_0 : Nat → Int32) (f_1 : Nat → Int32) (f_2 : Nat → Int32) (f_3 : Nat → Int32) (f_4 : Nat → Int32) (f_5 : Nat → Int32) (f_6 : Nat → Int32) (f_7 : Nat → Int32) (f_8 : Nat → Int32) (f_9 : Nat → Int32) (h0 : mm_rg i_12 0 8) (h1 : mm_rg i_19 0 601) (h2 : mm_rg i_20 0 601) (h3 : mm_rg i_21 0 601) (h4 : mm_rg i_22 0 601) (h5 : mm_rg i_23 0 601) (h6 : mm_rg i_24 0 10) (h7 : mm_rg i_25 0 99) (h8 : mm_rg i_26 0 9) (h9 : mm_rg i_27 0 3) (h10 : mm_rg i_28 0 6) (h11 : mm_rg i_29 0 30) (h12 : mm_rg i_30 0 10) (h13 : mm_rg i_31 0 99) (h14 : mm_rg i_32 0 9) (h15 : mm_rg i_33 0 3) (h16 : mm_rg i_34 0 6) (h17 : mm_rg i_35 0 30) (h18 : mm_rg i_36 0 10) (h19 : mm_rg i_37 0 99) (h20 : mm_rg i_38 0 9) (h21 : mm_rg i_39 0 3) (h22 : mm_rg i_40 0 6) (h23 : mm_rg i_41 0 30) (h24 : mm_rg i_42 0 10) (h25 : mm_rg i_43 0 99) (h26 : mm_rg i_44 0 9) (h27 : mm_rg i_45 0 3) (h28 : mm_rg i_46 0 6) (h29 : mm_rg i_47 0 30) (h30 : mm_rg i_48 0 10) (h31 : mm_rg i_49 0 99) (h32 : mm_rg i_50 0 9) (h33 : mm_rg i_51 0 3) (h34 : mm_rg i_52 0 6) (h35 : mm_rg i_53 0 30) (h36 : mm_ar f_0 0 99) (h37 : mm_ar f_1 0 7) (h38 : mm_ar f_2 0 9) (h39 : mm_ar f_3 0 8) (h40 : mm_ar f_4 0 9) (h41 : mm_ar f_5 (-1) 99) (h42 : mm_ar f_6 0 9) (h43 : mm_ar f_7 0 210) (h44 : mm_ar f_8 0 210) (h45 : mm_ar f_9 0 9) (h46 : mm_rls f_1 f_2 0 i_26 i_27) (h47 : mm_txs f_3 f_4 0 i_26 i_28) (h48 : mm_acs f_5 0 i_26 i_27 i_29) (h49 : mm_tl i_19 i_27 i_28) (h50 : mm_rls f_1 f_2 1 i_32 i_33) (h51 : mm_txs f_3 f_4 1 i_32 i_34) (h52 : mm_acs f_5 1 i_32 i_33 i_35) (h53 : mm_tl i_20 i_33 i_34) (h54 : mm_rls f_1 f_2 2 i_38 i_39) (h55 : mm_txs f_3 f_4 2 i_38 i_40) (h56 : mm_acs f_5 2 i_38 i_39 i_41) (h57 : mm_tl i_21 i_39 i_40) (h58 : mm_rls f_1 f_2 3 i_44 i_45) (h59 : mm_txs f_3 f_4 3 i_44 i_46) (h60 : mm_acs f_5 3 i_44 i_45 i_47) (h61 : mm_tl i_22 i_45 i_46)  : mm_CI l yX12_run (mm_ws yX12_run cX12_run 6 (some .int)) ({ frames := 14, cells := 0, slots := 0, locals := 300 } : Room) G cy sz [(a_0, .inr (12, [.int i_2, .ref a_1, .ref a_2, .ref a_3, .ref a_4, .ref a_5, .int i_3, .int i_4, .int i_5, .int i_6, .int i_7, .long j_0, .int i_8, .int i_9, .int i_10, .int i_11, .ref a_6, .ref a_7, .ref a_8, .ref a_9, .ref a_10, .ref a_11, .ref a_12, .ref a_13, .ref a_14, .ref a_15, .ref a_16, .ref a_17, .ref a_18, .int i_12, .int i_13, .int i_14, .int i_15, .int i_16, .int i_17, .ref a_19, .int i_18, .ref a_20])), (a_6, .inl (cy 1, 5, .inl (mm_g [i_19, i_20, i_21, i_22, i_23]))), (a_7, .inl (cy 1, 30, .inl (mm_g [i_24, i_25, i_26, i_27, i_28, i_29, i_30, i_31, i_32, i_33, i_34, i_35, i_36, i_37, i_38, i_39, i_40, i_41, i_42, i_43, i_44, i_45, i_46, i_47, i_48, i_49, i_50, i_51, i_52, i_53]))), (a_8, .inl (cy 1, 90, .inl f_0)), (a_9, .inl (cy 1, 15, .inl f_1)), (a_10, .inl (cy 1, 1050, .inl f_2)), (a_11, .inl (cy 1, 30, .inl f_3)), (a_12, .inl (cy 1, 240, .inl f_4)), (a_13, .inl (cy 1, 450, .inl f_5)), (a_15, .inl (cy 1, 7200, .inl f_6)), (a_16, .inl (cy 1, 3, .inl f_7)), (a_17, .inl (cy 1, 3, .inl f_8)), (a_18, .inl (cy 1, 8, .inl f_9))] [.ref a_0, .int i_0, .int i_1] (fun u : Int32 × Int32 × Int32 × (Nat → Int32) × (Nat → Int32) × (Nat → Int32) × (Nat → Int32) => [(a_0, .inr (12, [.int 0, .ref a_1, .ref a_2, .ref a_3, .ref a_4, .ref a_5, .int i_3, .int i_4, .int i_5, .int i_6, .int i_7, .long j_0, .int i_8, .int i_9, .int i_10, .int i_11, .ref a_6, .ref a_7, .ref a_8, .ref a_9, .ref a_10, .ref a_11, .ref a_12, .ref a_13, .ref a_14, .ref a_15, .ref a_16, .ref a_17, .ref a_18, .int u.1, .int u.2.1, .int u.2.2.1, .int i_15, .int i_16, .int i_17, .ref a_19, .int i_18, .ref a_20])), (a_6, .inl (cy 1, 5, .inl (mm_g [i_19, i_20, i_21, i_22, i_23]))), (a_7, .inl (cy 1, 30, .inl (mm_g [i_24, i_25, i_26, i_27, i_28, i_29, i_30, i_31, i_32, i_33, i_34, i_35, i_36, i_37, i_38, i_39, i_40, i_41, i_42, i_43, i_44, i_45, i_46, i_47, i_48, i_49, i_50, i_51, i_52, i_53]))), (a_8, .inl (cy 1, 90, .inl f_0)), (a_9, .inl (cy 1, 15, .inl f_1)), (a_10, .inl (cy 1, 1050, .inl f_2)), (a_11, .inl (cy 1, 30, .inl f_3)), (a_12, .inl (cy 1, 240, .inl f_4)), (a_13, .inl (cy 1, 450, .inl f_5)), (a_15, .inl (cy 1, 7200, .inl u.2.2.2.1)), (a_16, .inl (cy 1, 3, .inl u.2.2.2.2.1)), (a_17, .inl (cy 1, 3, .inl u.2.2.2.2.2.1)), (a_18, .inl (cy 1, 8, .inl u.2.2.2.2.2.2))]) (fun (r : Int32) (u : Int32 × Int32 × Int32 × (Nat → Int32) × (Nat → Int32) × (Nat → Int32) × (Nat → Int32)) => mm_rg u.1 0 8 ∧ mm_ar u.2.2.2.1 0 9 ∧ mm_ar u.2.2.2.2.1 0 210 ∧ mm_ar u.2.2.2.2.2.1 0 210 ∧ mm_ar u.2.2.2.2.2.2 0 9 ∧ mm_rg r (-2) 2147483647) 0 0 := by
  refine mm_begin (lv := [(0, .ref a_0), (1, .int i_0), (2, .int i_1)]) (by decide) (Nat.le_of_ble_eq_true rfl) rfl ?_
  intro p e s m below meth c A ls R args Q H locs hRe hQ hAe hx hb hr hlocks hml hown hnm hts hsz hA hS hP hK hD hZ hl
  have hRf : R.frames = 14 := by rw [hRe]
  have hRl : R.locals = 300 := by rw [hRe]
  have hRc : R.cells = 0 := by rw [hRe]
  have hRs : R.slots = 0 := by rw [hRe]
  refine lv_aload_n hx hb dX12_run_0 rfl (lv_at hl 0 rfl) ?_
  refine lv_iconst (v := 0) hx hb dX12_run_1 (by decide) ?_
  refine va_put (D := G) (ci := 12) (v := .int 0) (ty := tyX12 0) (C := RX12) (T := TX12) (N := 38) hx hb hts (mm_i inlX12) tyX12 tyX12_ok nmX12 hown hK.1 hP hD hS 0 rfl rfl 0 (by decide) (mm_h hts mm_w177) (fun _ h9 => h9) rfl (tyX12_ok 0 (by decide)) rfl rfl (Nat.le_of_ble_eq_true rfl) dX12_run_2 ?_
  clear hP hD hS
  clear H locs
  intro H locs (hP : va_P G vwCl [(a_0, .inr (12, [.int 0, .ref a_1, .ref a_2, .ref a_3, .ref a_4, .ref a_5, .int i_3, .int i_4, .int i_5, .int i_6, .int i_7, .long j_0, .int i_8, .int i_9, .int i_10, .int i_11, .ref a_6, .ref a_7, .ref a_8, .ref a_9, .ref a_10, .ref a_11, .ref a_12, .ref a_13, .ref a_14, .ref a_15, .ref a_16, .ref a_17, .ref a_18, .int i_12, .int i_13, .int i_14, .int i_15, .int i_16, .int i_17, .ref a_19, .int i_18, .ref a_20])), (a_6, .inl (cy 1, 5, .inl (mm_g [i_19, i_20, i_21, i_22, i_23]))), (a_7, .inl (cy 1, 30, .inl (mm_g [i_24, i_25, i_26, i_27, i_28, i_29, i_30, i_31, i_32, i_33, i_34, i_35, i_36, i_37, i_38, i_39, i_40, i_41, i_42, i_43, i_44, i_45, i_46, i_47, i_48, i_49, i_50, i_51, i_52, i_53]))), (a_8, .inl (cy 1, 90, .inl f_0)), (a_9, .inl (cy 1, 15, .inl f_1)), (a_10, .inl (cy 1, 1050, .inl f_2)), (a_11, .inl (cy 1, 30, .inl f_3)), (a_12, .inl (cy 1, 240, .inl f_4)), (a_13, .inl (cy 1, 450, .inl f_5)), (a_15, .inl (cy 1, 7200, .inl f_6)), (a_16, .inl (cy 1, 3, .inl f_7)), (a_17, .inl (cy 1, 3, .inl f_8)), (a_18, .inl (cy 1, 8, .inl f_9))] H) (hD : va_D A [(a_0, .inr (12, [.int 0, .ref a_1, .ref a_2, .ref a_3, .ref a_4, .ref a_5, .int i_3, .int i_4, .int i_5, .int i_6, .int i_7, .long j_0, .int i_8, .int i_9, .int i_10, .int i_11, .ref a_6, .ref a_7, .ref a_8, .ref a_9, .ref a_10, .ref a_11, .ref a_12, .ref a_13, .ref a_14, .ref a_15, .ref a_16, .ref a_17, .ref a_18, .int i_12, .int i_13, .int i_14, .int i_15, .int i_16, .int i_17, .ref a_19, .int i_18, .ref a_20])), (a_6, .inl (cy 1, 5, .inl (mm_g [i_19, i_20, i_21, i_22, i_23]))), (a_7, .inl (cy 1, 30, .inl (mm_g [i_24, i_25, i_26, i_27, i_28, i_29, i_30, i_31, i_32, i_33, i_34, i_35, i_36, i_37, i_38, i_39, i_40, i_41, i_42, i_43, i_44, i_45, i_46, i_47, i_48, i_49, i_50, i_51, i_52, i_53]))), (a_8, .inl (cy 1, 90, .inl f_0)), (a_9, .inl (cy 1, 15, .inl f_1)), (a_10, .inl (cy 1, 1050, .inl f_2)), (a_11, .inl (cy 1, 30, .inl f_3)), (a_12, .inl (cy 1, 240, .inl f_4)), (a_13, .inl (cy 1, 450, .inl f_5)), (a_15, .inl (cy 1, 7200, .inl f_6)), (a_16, .inl (cy 1, 3, .inl f_7)), (a_17, .inl (cy 1, 3, .inl f_8)), (a_18, .inl (cy 1, 8, .inl f_9))]) hS
  refine lv_aload_n hx hb dX12_run_5 rfl (lv_at hl 0 rfl) ?_
  refine lv_iload_n hx hb dX12_run_6 rfl (lv_at hl 1 rfl) ?_
  refine mm_finir (va_runV (As := [.int i_0]) (rest := []) ⟨hx, hb, hml, hown, hts⟩ (M98_X12_isLand l G cy H.size a_0 i_0 0 a_1 a_2 a_3 a_4 a_5 i_3 i_4 i_5 i_6 i_7 j_0 i_8 i_9 i_10 i_11 a_6 a_7 a_8 a_9 a_10 a_11 a_12 a_13 a_14 a_15 a_16 a_17 a_18 i_12 i_13 i_14 i_15 i_16 i_17 a_19 i_18 a_20 i_24 i_25 i_26 i_27 i_28 i_29 i_30 i_31 i_32 i_33 i_34 i_35 i_36 i_37 i_38 i_39 i_40 i_41 i_42 i_43 i_44 i_45 i_46 i_47 i_48 i_49 i_50 i_51 i_52 i_53 h6 h7 h8 h9 h10 h11 h12 h13 h14 h15 h16 h17 h18 h19 h20 h21 h22 h23 h24 h25 h26 h27 h28 h29 h30 h31 h32 h33 h34 h35) (cwV 1 hts (mm_gV mm_w641 mm_w642 mm_w643 mm_w5 mm_w644) rfl rfl rfl hd_X12_isLand ⟨by rw [hRf]; exact Nat.le_of_ble_eq_true rfl, by rw [hRl]; exact Nat.le_of_ble_eq_true rfl⟩) (mm_preV hK hZ hS hA hP hD [0, 2] rfl rfl 0 rfl rfl rfl) rfl rfl hl.1 rfl (lv_room (Nat.le_of_ble_eq_true rfl)) dX12_run_7 ⟨by rw [hRc]; exact Nat.le_of_ble_eq_true rfl, by rw [hRs]; exact Nat.le_of_ble_eq_true rfl⟩) hP hD hS hA [0, 2] rfl (fun _ => rfl) ?_
  clear hP hD hS
  clear H locs
  intro v1 _u H locs hw hP hD hS
  rcases hw with rfl | ⟨rfl, w2, w3⟩
  · refine lv_if_eq (tgt := 22) hx hb dX12_run_10 (by decide) (fun c4 => ?_) (fun c4 => ?_)
    · refine lv_bipush (v := (-2)) hx hb dX12_run_22 (by decide) ?_
      subst hAe
      rw [hQ]
      exact W.iret (v := (-2)) hx hb hr (fun t ht hW => ⟨⟨(-2), (i_12, i_13, i_14, f_6, f_7, f_8, f_9), rfl, ⟨h0, h42, h43, h44, h45, (mm_wk mm_km2 (by decide))⟩, by rw [ht]; exact hP, hK.warm hW, hD⟩, hS.F ht⟩) hS.2.2 dX12_run_24
    · exact absurd rfl (mm_ne c4)
  · have q5 := mm_ltR (lo := 1) w3 w2 h9 (by decide)
    have q6 : mm_rg i_19 1 601 := mm_tl_3 h49 q5 h1 (by decide)
    refine lv_if_eq (tgt := 22) hx hb dX12_run_10 (by decide) (fun c7 => ?_) (fun c7 => ?_)
    · exact mm_eqN c7.symm mm_k0 mm_k1 (by decide)
    · refine lv_aload_n hx hb dX12_run_13 rfl (lv_at hl 0 rfl) ?_
      refine lv_iload_n hx hb dX12_run_14 rfl (lv_at hl 2 rfl) ?_
      obtain ⟨v8, ev8⟩ : ∃ y : Int64, y = i_1.toInt64 := ⟨_, rfl⟩
      refine lv_i2l hx hb dX12_run_15 ev8.symm ?_
      have rv8 : mm_rl v8 (-2147483648) 2147483647 := mm_i2l ev8 (mm_top i_1)
      refine mm_finir (va_runV (As := [.long v8]) (rest := []) ⟨hx, hb, hml, hown, hts⟩ (M96_X12_isText l G cy H.size a_0 v8 0 a_1 a_2 a_3 a_4 a_5 i_3 i_4 i_5 i_6 i_7 j_0 i_8 i_9 i_10 i_11 a_6 a_7 a_8 a_9 a_10 a_11 a_12 a_13 a_14 a_15 a_16 a_17 a_18 i_12 i_13 i_14 i_15 i_16 i_17 a_19 i_18 a_20 i_24 i_25 i_26 i_27 i_28 i_29 i_30 i_31 i_32 i_33 i_34 i_35 i_36 i_37 i_38 i_39 i_40 i_41 i_42 i_43 i_44 i_45 i_46 i_47 i_48 i_49 i_50 i_51 i_52 i_53 h6 h7 h8 (mm_wk q5 (by decide)) h10 h11 h12 h13 h14 h15 h16 h17 h18 h19 h20 h21 h22 h23 h24 h25 h26 h27 h28 h29 h30 h31 h32 h33 h34 h35) (cwV 1 hts (mm_gV mm_w613 mm_w614 mm_w615 mm_w5 mm_w616) rfl rfl rfl hd_X12_isText ⟨by rw [hRf]; exact Nat.le_of_ble_eq_true rfl, by rw [hRl]; exact Nat.le_of_ble_eq_true rfl⟩) (mm_preV hK hZ hS hA hP hD [0, 2] rfl rfl 0 rfl rfl rfl) rfl rfl hl.1 rfl (lv_room (Nat.le_of_ble_eq_true rfl)) dX12_run_16 ⟨by rw [hRc]; exact Nat.le_of_ble_eq_true rfl, by rw [hRs]; exact Nat.le_of_ble_eq_true rfl⟩) hP hD hS hA [0, 2] rfl (fun _ => rfl) ?_
      clear hP hD hS
      clear H locs
      intro v9 _u H locs hw hP hD hS
      rcases hw with rfl | ⟨rfl, w10, w11⟩
      · refine lv_if_ne (tgt := 25) hx hb dX12_run_19 (by decide) (fun c12 => ?_) (fun c12 => ?_)
        · exact absurd rfl (mm_ne c12)
        · refine lv_bipush (v := (-2)) hx hb dX12_run_22 (by decide) ?_
          subst hAe
          rw [hQ]
          exact W.iret (v := (-2)) hx hb hr (fun t ht hW => ⟨⟨(-2), (i_12, i_13, i_14, f_6, f_7, f_8, f_9), rfl, ⟨h0, h42, h43, h44, h45, (mm_wk mm_km2 (by decide))⟩, by rw [ht]; exact hP, hK.warm hW, hD⟩, hS.F ht⟩) hS.2.2 dX12_run_24
      · have q13 := mm_meet (lo := 0) (hi := 5) (mm_l2x ev8 w10) (mm_top i_1) (by decide)
        have w14 := mm_tx_lt w11 (mm_i2lE ev8)
        have q15 := mm_ltR (lo := 1) w14 q13 h10 (by decide)
        refine lv_if_ne (tgt := 25) hx hb dX12_run_19 (by decide) (fun c16 => ?_) (fun c16 => ?_)
        · refine lv_aload_n hx hb dX12_run_25 rfl (lv_at hl 0 rfl) ?_
          refine mm_finv (va_runV (As := []) (rest := []) ⟨hx, hb, hml, hown, hts⟩ (M125_X12_lays l G cy H.size a_0 0 a_1 a_2 a_3 a_4 a_5 i_3 i_4 i_5 i_6 i_7 j_0 i_8 i_9 i_10 i_11 a_6 a_7 a_8 a_9 a_10 a_11 a_12 a_13 a_14 a_15 a_16 a_17 a_18 i_12 i_13 i_14 i_15 i_16 i_17 a_19 i_18 a_20 i_19 i_20 i_21 i_22 i_23 i_24 i_25 i_26 i_27 i_28 i_29 i_30 i_31 i_32 i_33 i_34 i_35 i_36 i_37 i_38 i_39 i_40 i_41 i_42 i_43 i_44 i_45 i_46 i_47 i_48 i_49 i_50 i_51 i_52 i_53 f_1 f_2 f_5 f_6 f_7 f_8 (mm_wk q6 (by decide)) h2 h3 h4 h5 h6 h7 h8 (mm_wk q5 (by decide)) (mm_wk q15 (by decide)) h11 h12 h13 h14 h15 h16 h17 h18 h19 h20 h21 h22 h23 h24 h25 h26 h27 h28 h29 h30 h31 h32 h33 h34 h35 h37 h38 h41 h42 h43 h44 h46 h48 h49 h50 h52 h53 h54 h56 h57 h58 h60 h61) (cwV 0 hts (mm_gV mm_w686 mm_w687 mm_w688 mm_w5 mm_w689) rfl rfl rfl hd_X12_lays ⟨by rw [hRf]; exact Nat.le_of_ble_eq_true rfl, by rw [hRl]; exact Nat.le_of_ble_eq_true rfl⟩) (mm_preV hK hZ hS hA hP hD [0, 1, 2, 4, 5, 8, 9, 10, 11] rfl rfl 0 rfl rfl rfl) rfl rfl hl.1 rfl (lv_room (Nat.le_of_ble_eq_true rfl)) dX12_run_26 ⟨by rw [hRc]; exact Nat.le_of_ble_eq_true rfl, by rw [hRs]; exact Nat.le_of_ble_eq_true rfl⟩) hP hD hS hA (fun u : (Nat → Int32) × (Nat → Int32) × (Nat → Int32) => [(a_0, .inr (12, [.int 0, .ref a_1, .ref a_2, .ref a_3, .ref a_4, .ref a_5, .int i_3, .int i_4, .int i_5, .int i_6, .int i_7, .long j_0, .int i_8, .int i_9, .int i_10, .int i_11, .ref a_6, .ref a_7, .ref a_8, .ref a_9, .ref a_10, .ref a_11, .ref a_12, .ref a_13, .ref a_14, .ref a_15, .ref a_16, .ref a_17, .ref a_18, .int i_12, .int i_13, .int i_14, .int i_15, .int i_16, .int i_17, .ref a_19, .int i_18, .ref a_20])), (a_6, .inl (cy 1, 5, .inl (mm_g [i_19, i_20, i_21, i_22, i_23]))), (a_7, .inl (cy 1, 30, .inl (mm_g [i_24, i_25, i_26, i_27, i_28, i_29, i_30, i_31, i_32, i_33, i_34, i_35, i_36, i_37, i_38, i_39, i_40, i_41, i_42, i_43, i_44, i_45, i_46, i_47, i_48, i_49, i_50, i_51, i_52, i_53]))), (a_8, .inl (cy 1, 90, .inl f_0)), (a_9, .inl (cy 1, 15, .inl f_1)), (a_10, .inl (cy 1, 1050, .inl f_2)), (a_11, .inl (cy 1, 30, .inl f_3)), (a_12, .inl (cy 1, 240, .inl f_4)), (a_13, .inl (cy 1, 450, .inl f_5)), (a_15, .inl (cy 1, 7200, .inl u.1)), (a_16, .inl (cy 1, 3, .inl u.2.1)), (a_17, .inl (cy 1, 3, .inl u.2.2)), (a_18, .inl (cy 1, 8, .inl f_9))]) [0, 1, 2, 4, 5, 8, 9, 10, 11] [3, 6, 7, 12] (n := 13) (fun _ => rfl) (by decide +kernel) (by decide +kernel) rfl (fun _ => rfl) (wr := [(a_8, .inl (cy 1, 90, .inl f_0)), (a_11, .inl (cy 1, 30, .inl f_3)), (a_12, .inl (cy 1, 240, .inl f_4)), (a_18, .inl (cy 1, 8, .inl f_9))]) rfl (fun _ => rfl) (fun _ => @rfl _ ([a_0, a_6, a_7, a_9, a_10, a_13, a_15, a_16, a_17] : List Nat)) ?_
          clear hP hD hS
          clear H locs
          intro u
          obtain ⟨n17, n18, n19⟩ := u
          intro H locs hw (hP : va_P G vwCl [(a_0, .inr (12, [.int 0, .ref a_1, .ref a_2, .ref a_3, .ref a_4, .ref a_5, .int i_3, .int i_4, .int i_5, .int i_6, .int i_7, .long j_0, .int i_8, .int i_9, .int i_10, .int i_11, .ref a_6, .ref a_7, .ref a_8, .ref a_9, .ref a_10, .ref a_11, .ref a_12, .ref a_13, .ref a_14, .ref a_15, .ref a_16, .ref a_17, .ref a_18, .int i_12, .int i_13, .int i_14, .int i_15, .int i_16, .int i_17, .ref a_19, .int i_18, .ref a_20])), (a_6, .inl (cy 1, 5, .inl (mm_g [i_19, i_20, i_21, i_22, i_23]))), (a_7, .inl (cy 1, 30, .inl (mm_g [i_24, i_25, i_26, i_27, i_28, i_29, i_30, i_31, i_32, i_33, i_34, i_35, i_36, i_37, i_38, i_39, i_40, i_41, i_42, i_43, i_44, i_45, i_46, i_47, i_48, i_49, i_50, i_51, i_52, i_53]))), (a_8, .inl (cy 1, 90, .inl f_0)), (a_9, .inl (cy 1, 15, .inl f_1)), (a_10, .inl (cy 1, 1050, .inl f_2)), (a_11, .inl (cy 1, 30, .inl f_3)), (a_12, .inl (cy 1, 240, .inl f_4)), (a_13, .inl (cy 1, 450, .inl f_5)), (a_15, .inl (cy 1, 7200, .inl n17)), (a_16, .inl (cy 1, 3, .inl n18)), (a_17, .inl (cy 1, 3, .inl n19)), (a_18, .inl (cy 1, 8, .inl f_9))] H) (hD : va_D A [(a_0, .inr (12, [.int 0, .ref a_1, .ref a_2, .ref a_3, .ref a_4, .ref a_5, .int i_3, .int i_4, .int i_5, .int i_6, .int i_7, .long j_0, .int i_8, .int i_9, .int i_10, .int i_11, .ref a_6, .ref a_7, .ref a_8, .ref a_9, .ref a_10, .ref a_11, .ref a_12, .ref a_13, .ref a_14, .ref a_15, .ref a_16, .ref a_17, .ref a_18, .int i_12, .int i_13, .int i_14, .int i_15, .int i_16, .int i_17, .ref a_19, .int i_18, .ref a_20])), (a_6, .inl (cy 1, 5, .inl (mm_g [i_19, i_20, i_21, i_22, i_23]))), (a_7, .inl (cy 1, 30, .inl (mm_g [i_24, i_25, i_26, i_27, i_28, i_29, i_30, i_31, i_32, i_33, i_34, i_35, i_36, i_37, i_38, i_39, i_40, i_41, i_42, i_43, i_44, i_45, i_46, i_47, i_48, i_49, i_50, i_51, i_52, i_53]))), (a_8, .inl (cy 1, 90, .inl f_0)), (a_9, .inl (cy 1, 15, .inl f_1)), (a_10, .inl (cy 1, 1050, .inl f_2)), (a_11, .inl (cy 1, 30, .inl f_3)), (a_12, .inl (cy 1, 240, .inl f_4)), (a_13, .inl (cy 1, 450, .inl f_5)), (a_15, .inl (cy 1, 7200, .inl n17)), (a_16, .inl (cy 1, 3, .inl n18)), (a_17, .inl (cy 1, 3, .inl n19)), (a_18, .inl (cy 1, 8, .inl f_9))]) hS
          obtain ⟨w20, w21, w22, w23, w24⟩ := hw
          replace w23 : mm_laid n18 n19 i_27 := w23
          replace w24 : mm_tab n17 n18 i_26 i_27 := w24
          refine lv_iconst (v := 0) hx hb dX12_run_29 (by decide) ?_
          refine lv_istore_n (lv' := [(3, .int 0), (0, .ref a_0), (1, .int i_0), (2, .int i_1)]) hx hb dX12_run_30 rfl hl (by decide) rfl ?_
          clear hl
          clear ls
          intro ls hl
          refine lv_iconst (v := 0) hx hb dX12_run_31 (by decide) ?_
          refine lv_istore (lv' := [(4, .int 0), (3, .int 0), (0, .ref a_0), (1, .int i_0), (2, .int i_1)]) hx hb dX12_run_32 hl (by decide) rfl ?_
          clear hl
          clear ls
          intro ls hl
          refine lv_iconst (v := 0) hx hb dX12_run_34 (by decide) ?_
          refine lv_istore (lv' := [(5, .int 0), (4, .int 0), (3, .int 0), (0, .ref a_0), (1, .int i_0), (2, .int i_1)]) hx hb dX12_run_35 hl (by decide) rfl ?_
          clear hl
          clear ls
          intro ls hl
          have L37_738 : ∀ (n : Nat) (x37_5_732 : Int32) (x37_4_733 : Int32) (x37_3_734 : Int32) (y37_0_29_735 : Int32) (y37_0_30_736 : Int32) (y37_0_31_737 : Int32) (z37_12_738 : Nat → Int32), mm_rg x37_5_732 0 210 → mm_rg x37_3_734 0 2147483647 → mm_rg y37_0_29_735 0 8 → mm_ar z37_12_738 0 9 → (210 - x37_5_732.toInt).toNat < n → ∀ (H : Heap) (locs : List Loc), va_P G vwCl [(a_0, .inr (12, [.int 0, .ref a_1, .ref a_2, .ref a_3, .ref a_4, .ref a_5, .int i_3, .int i_4, .int i_5, .int i_6, .int i_7, .long j_0, .int i_8, .int i_9, .int i_10, .int i_11, .ref a_6, .ref a_7, .ref a_8, .ref a_9, .ref a_10, .ref a_11, .ref a_12, .ref a_13, .ref a_14, .ref a_15, .ref a_16, .ref a_17, .ref a_18, .int y37_0_29_735, .int y37_0_30_736, .int y37_0_31_737, .int i_15, .int i_16, .int i_17, .ref a_19, .int i_18, .ref a_20])), (a_6, .inl (cy 1, 5, .inl (mm_g [i_19, i_20, i_21, i_22, i_23]))), (a_7, .inl (cy 1, 30, .inl (mm_g [i_24, i_25, i_26, i_27, i_28, i_29, i_30, i_31, i_32, i_33, i_34, i_35, i_36, i_37, i_38, i_39, i_40, i_41, i_42, i_43, i_44, i_45, i_46, i_47, i_48, i_49, i_50, i_51, i_52, i_53]))), (a_8, .inl (cy 1, 90, .inl f_0)), (a_9, .inl (cy 1, 15, .inl f_1)), (a_10, .inl (cy 1, 1050, .inl f_2)), (a_11, .inl (cy 1, 30, .inl f_3)), (a_12, .inl (cy 1, 240, .inl f_4)), (a_13, .inl (cy 1, 450, .inl f_5)), (a_15, .inl (cy 1, 7200, .inl n17)), (a_16, .inl (cy 1, 3, .inl n18)), (a_17, .inl (cy 1, 3, .inl n19)), (a_18, .inl (cy 1, 8, .inl z37_12_738))] H → va_D A [(a_0, .inr (12, [.int 0, .ref a_1, .ref a_2, .ref a_3, .ref a_4, .ref a_5, .int i_3, .int i_4, .int i_5, .int i_6, .int i_7, .long j_0, .int i_8, .int i_9, .int i_10, .int i_11, .ref a_6, .ref a_7, .ref a_8, .ref a_9, .ref a_10, .ref a_11, .ref a_12, .ref a_13, .ref a_14, .ref a_15, .ref a_16, .ref a_17, .ref a_18, .int y37_0_29_735, .int y37_0_30_736, .int y37_0_31_737, .int i_15, .int i_16, .int i_17, .ref a_19, .int i_18, .ref a_20])), (a_6, .inl (cy 1, 5, .inl (mm_g [i_19, i_20, i_21, i_22, i_23]))), (a_7, .inl (cy 1, 30, .inl (mm_g [i_24, i_25, i_26, i_27, i_28, i_29, i_30, i_31, i_32, i_33, i_34, i_35, i_36, i_37, i_38, i_39, i_40, i_41, i_42, i_43, i_44, i_45, i_46, i_47, i_48, i_49, i_50, i_51, i_52, i_53]))), (a_8, .inl (cy 1, 90, .inl f_0)), (a_9, .inl (cy 1, 15, .inl f_1)), (a_10, .inl (cy 1, 1050, .inl f_2)), (a_11, .inl (cy 1, 30, .inl f_3)), (a_12, .inl (cy 1, 240, .inl f_4)), (a_13, .inl (cy 1, 450, .inl f_5)), (a_15, .inl (cy 1, 7200, .inl n17)), (a_16, .inl (cy 1, 3, .inl n18)), (a_17, .inl (cy 1, 3, .inl n19)), (a_18, .inl (cy 1, 8, .inl z37_12_738))] → va_S A s.heap H locs → ∀ (ls : Array Slot), lv_has ls 6 [(5, .int x37_5_732), (4, .int x37_4_733), (3, .int x37_3_734), (0, .ref a_0), (1, .int i_0), (2, .int i_1)] → W p l e R s m args below meth c H locs 0 0 Q (F0 m 37 ls []) := by
            intro n
            induction n with
            | zero => intro x37_5_732 x37_4_733 x37_3_734 y37_0_29_735 y37_0_30_736 y37_0_31_737 z37_12_738 rx37_5_732 rx37_3_734 ry37_0_29_735 rz37_12_738 hm; exact absurd hm (Nat.not_lt_zero _)
            | succ n ih37 =>
              intro x37_5_732 x37_4_733 x37_3_734 y37_0_29_735 y37_0_30_736 y37_0_31_737 z37_12_738 rx37_5_732 rx37_3_734 ry37_0_29_735 rz37_12_738 hm37 H locs hP hD hS ls hl
              refine lv_iload hx hb dX12_run_37 (lv_at hl 0 rfl) ?_
              refine lv_aload_n hx hb dX12_run_39 rfl (lv_at hl 3 rfl) ?_
              refine va_get (D := G) (ci := 12) (v := .ref a_17) (C := RX12) (T := TX12) (N := 38) hx hb hts (mm_i inlX12) hown hK.1 hP 0 rfl rfl 27 (by decide) (mm_h hts mm_w159) (fun _ h9 => h9) rfl dX12_run_40 ?_
              refine lv_iload_n hx hb dX12_run_43 rfl (lv_at hl 4 rfl) ?_
              refine va_iald hx hb hK.1 hP 11 1 rfl rfl (mm_in w2 (by decide)) dX12_run_44 ?_
              refine lv_topi (fun v740 ev740 => ?_)
              have rv740 : mm_rg v740 0 210 := mm_eqv ev740 (w22 _)
              have q741 : mm_rg v740 1 210 := mm_laid_ld1 w23 w3 ev740 w2 rv740 (by decide)
              refine lv_icmp_ge (tgt := 92) hx hb dX12_run_45 (by decide) (fun c742 => ?_) (fun c742 => ?_)
              · have q743 := mm_leR (mm_le c742) q741 rx37_5_732
                refine lv_iload_n hx hb dX12_run_92 rfl (lv_at hl 2 rfl) ?_
                subst hAe
                rw [hQ]
                exact W.iret (v := x37_3_734) hx hb hr (fun t ht hW => ⟨⟨x37_3_734, (y37_0_29_735, y37_0_30_736, y37_0_31_737, n17, n18, n19, z37_12_738), rfl, ⟨ry37_0_29_735, w20, w21, w22, rz37_12_738, (mm_wk rx37_3_734 (by decide))⟩, by rw [ht]; exact hP, hK.warm hW, hD⟩, hS.F ht⟩) hS.2.2 dX12_run_93
              · have q744 := mm_ltL (h := 209) (mm_nle c742) rx37_5_732 q741 (by decide)
                refine lv_aload_n hx hb dX12_run_48 rfl (lv_at hl 3 rfl) ?_
                refine lv_iload_n hx hb dX12_run_49 rfl (lv_at hl 4 rfl) ?_
                refine lv_iload hx hb dX12_run_50 (lv_at hl 0 rfl) ?_
                refine lv_iload_n hx hb dX12_run_52 rfl (lv_at hl 5 rfl) ?_
                refine mm_fini (va_runV (As := [.int i_0, .int x37_5_732, .int i_1]) (rest := []) ⟨hx, hb, hml, hown, hts⟩ (M141_X12_reads l G cy H.size a_0 i_0 x37_5_732 i_1 0 a_1 a_2 a_3 a_4 a_5 i_3 i_4 i_5 i_6 i_7 j_0 i_8 i_9 i_10 i_11 a_6 a_7 a_8 a_9 a_10 a_11 a_12 a_13 a_14 a_15 a_16 a_17 a_18 y37_0_29_735 y37_0_30_736 y37_0_31_737 i_15 i_16 i_17 a_19 i_18 a_20 i_24 i_25 i_26 i_27 i_28 i_29 i_30 i_31 i_32 i_33 i_34 i_35 i_36 i_37 i_38 i_39 i_40 i_41 i_42 i_43 i_44 i_45 i_46 i_47 i_48 i_49 i_50 i_51 i_52 i_53 f_0 f_3 f_4 f_5 n17 n18 z37_12_738 w2 (mm_wk q744 (by decide)) q13 ry37_0_29_735 h6 h7 h8 (mm_wk q5 (by decide)) (mm_wk q15 (by decide)) h11 h12 h13 h14 h15 h16 h17 h18 h19 h20 h21 h22 h23 h24 h25 h26 h27 h28 h29 h30 h31 h32 h33 h34 h35 h36 h39 h40 h41 w20 w21 rz37_12_738 h47 h48 h51 h52 h55 h56 h59 h60 (mm_f1_l w23 w3 w2 (by decide))) (cwV 3 hts (mm_gV mm_w852 mm_w853 mm_w854 mm_w5 mm_w855) rfl rfl rfl hd_X12_reads ⟨by rw [hRf]; exact Nat.le_of_ble_eq_true rfl, by rw [hRl]; exact Nat.le_of_ble_eq_true rfl⟩) (mm_preV hK hZ hS hA hP hD [0, 2, 3, 6, 7, 8, 9, 10, 12] rfl rfl 0 rfl rfl rfl) rfl rfl hl.1 rfl (lv_room (Nat.le_of_ble_eq_true rfl)) dX12_run_53 ⟨by rw [hRc]; exact Nat.le_of_ble_eq_true rfl, by rw [hRs]; exact Nat.le_of_ble_eq_true rfl⟩) hP hD hS hA (fun u : Int32 × Int32 × Int32 × (Nat → Int32) => [(a_0, .inr (12, [.int 0, .ref a_1, .ref a_2, .ref a_3, .ref a_4, .ref a_5, .int i_3, .int i_4, .int i_5, .int i_6, .int i_7, .long j_0, .int i_8, .int i_9, .int i_10, .int i_11, .ref a_6, .ref a_7, .ref a_8, .ref a_9, .ref a_10, .ref a_11, .ref a_12, .ref a_13, .ref a_14, .ref a_15, .ref a_16, .ref a_17, .ref a_18, .int u.1, .int u.2.1, .int u.2.2.1, .int i_15, .int i_16, .int i_17, .ref a_19, .int i_18, .ref a_20])), (a_6, .inl (cy 1, 5, .inl (mm_g [i_19, i_20, i_21, i_22, i_23]))), (a_7, .inl (cy 1, 30, .inl (mm_g [i_24, i_25, i_26, i_27, i_28, i_29, i_30, i_31, i_32, i_33, i_34, i_35, i_36, i_37, i_38, i_39, i_40, i_41, i_42, i_43, i_44, i_45, i_46, i_47, i_48, i_49, i_50, i_51, i_52, i_53]))), (a_8, .inl (cy 1, 90, .inl f_0)), (a_9, .inl (cy 1, 15, .inl f_1)), (a_10, .inl (cy 1, 1050, .inl f_2)), (a_11, .inl (cy 1, 30, .inl f_3)), (a_12, .inl (cy 1, 240, .inl f_4)), (a_13, .inl (cy 1, 450, .inl f_5)), (a_15, .inl (cy 1, 7200, .inl n17)), (a_16, .inl (cy 1, 3, .inl n18)), (a_17, .inl (cy 1, 3, .inl n19)), (a_18, .inl (cy 1, 8, .inl u.2.2.2))]) [0, 2, 3, 6, 7, 8, 9, 10, 12] [1, 4, 5, 11] (n := 13) (fun _ => rfl) (by decide +kernel) (by decide +kernel) rfl (fun _ => rfl) (wr := [(a_6, .inl (cy 1, 5, .inl (mm_g [i_19, i_20, i_21, i_22, i_23]))), (a_9, .inl (cy 1, 15, .inl f_1)), (a_10, .inl (cy 1, 1050, .inl f_2)), (a_17, .inl (cy 1, 3, .inl n19))]) rfl (fun _ => rfl) (fun _ => @rfl _ ([a_0, a_7, a_8, a_11, a_12, a_13, a_15, a_16, a_18] : List Nat)) ?_
                clear hP hD hS
                clear H locs
                intro v749 u
                obtain ⟨n745, n746, n747, n748⟩ := u
                intro H locs hw (hP : va_P G vwCl [(a_0, .inr (12, [.int 0, .ref a_1, .ref a_2, .ref a_3, .ref a_4, .ref a_5, .int i_3, .int i_4, .int i_5, .int i_6, .int i_7, .long j_0, .int i_8, .int i_9, .int i_10, .int i_11, .ref a_6, .ref a_7, .ref a_8, .ref a_9, .ref a_10, .ref a_11, .ref a_12, .ref a_13, .ref a_14, .ref a_15, .ref a_16, .ref a_17, .ref a_18, .int n745, .int n746, .int n747, .int i_15, .int i_16, .int i_17, .ref a_19, .int i_18, .ref a_20])), (a_6, .inl (cy 1, 5, .inl (mm_g [i_19, i_20, i_21, i_22, i_23]))), (a_7, .inl (cy 1, 30, .inl (mm_g [i_24, i_25, i_26, i_27, i_28, i_29, i_30, i_31, i_32, i_33, i_34, i_35, i_36, i_37, i_38, i_39, i_40, i_41, i_42, i_43, i_44, i_45, i_46, i_47, i_48, i_49, i_50, i_51, i_52, i_53]))), (a_8, .inl (cy 1, 90, .inl f_0)), (a_9, .inl (cy 1, 15, .inl f_1)), (a_10, .inl (cy 1, 1050, .inl f_2)), (a_11, .inl (cy 1, 30, .inl f_3)), (a_12, .inl (cy 1, 240, .inl f_4)), (a_13, .inl (cy 1, 450, .inl f_5)), (a_15, .inl (cy 1, 7200, .inl n17)), (a_16, .inl (cy 1, 3, .inl n18)), (a_17, .inl (cy 1, 3, .inl n19)), (a_18, .inl (cy 1, 8, .inl n748))] H) (hD : va_D A [(a_0, .inr (12, [.int 0, .ref a_1, .ref a_2, .ref a_3, .ref a_4, .ref a_5, .int i_3, .int i_4, .int i_5, .int i_6, .int i_7, .long j_0, .int i_8, .int i_9, .int i_10, .int i_11, .ref a_6, .ref a_7, .ref a_8, .ref a_9, .ref a_10, .ref a_11, .ref a_12, .ref a_13, .ref a_14, .ref a_15, .ref a_16, .ref a_17, .ref a_18, .int n745, .int n746, .int n747, .int i_15, .int i_16, .int i_17, .ref a_19, .int i_18, .ref a_20])), (a_6, .inl (cy 1, 5, .inl (mm_g [i_19, i_20, i_21, i_22, i_23]))), (a_7, .inl (cy 1, 30, .inl (mm_g [i_24, i_25, i_26, i_27, i_28, i_29, i_30, i_31, i_32, i_33, i_34, i_35, i_36, i_37, i_38, i_39, i_40, i_41, i_42, i_43, i_44, i_45, i_46, i_47, i_48, i_49, i_50, i_51, i_52, i_53]))), (a_8, .inl (cy 1, 90, .inl f_0)), (a_9, .inl (cy 1, 15, .inl f_1)), (a_10, .inl (cy 1, 1050, .inl f_2)), (a_11, .inl (cy 1, 30, .inl f_3)), (a_12, .inl (cy 1, 240, .inl f_4)), (a_13, .inl (cy 1, 450, .inl f_5)), (a_15, .inl (cy 1, 7200, .inl n17)), (a_16, .inl (cy 1, 3, .inl n18)), (a_17, .inl (cy 1, 3, .inl n19)), (a_18, .inl (cy 1, 8, .inl n748))]) hS
                obtain ⟨w750, w751, hw⟩ := hw
                obtain ⟨w752, w753⟩ := hw
                replace w753 : mm_rd n17 n18 f_0 f_3 f_4 f_5 i_0 x37_5_732 i_1 i_25 i_26 i_29 v749 := w753
                refine lv_aload_n hx hb dX12_run_56 rfl (lv_at hl 3 rfl) ?_
                refine mm_finir (va_runV (As := []) (rest := [.int v749]) ⟨hx, hb, hml, hown, hts⟩ (M139_X12_stockNow l G cy H.size a_0 0 a_1 a_2 a_3 a_4 a_5 i_3 i_4 i_5 i_6 i_7 j_0 i_8 i_9 i_10 i_11 a_6 a_7 a_8 a_9 a_10 a_11 a_12 a_13 a_14 a_15 a_16 a_17 a_18 n745 n746 n747 i_15 i_16 i_17 a_19 i_18 a_20 i_24 i_25 i_26 i_27 i_28 i_29 i_30 i_31 i_32 i_33 i_34 i_35 i_36 i_37 i_38 i_39 i_40 i_41 i_42 i_43 i_44 i_45 i_46 i_47 i_48 i_49 i_50 i_51 i_52 i_53 f_5 h6 h7 h8 (mm_wk q5 (by decide)) (mm_wk q15 (by decide)) h11 h12 h13 h14 h15 h16 h17 h18 h19 h20 h21 h22 h23 h24 h25 h26 h27 h28 h29 h30 h31 h32 h33 h34 h35 h41 h48 h52 h56 h60) (cwV 0 hts (mm_gV mm_w861 mm_w862 mm_w863 mm_w5 mm_w864) rfl rfl rfl hd_X12_stockNow ⟨by rw [hRf]; exact Nat.le_of_ble_eq_true rfl, by rw [hRl]; exact Nat.le_of_ble_eq_true rfl⟩) (mm_preV hK hZ hS hA hP hD [0, 2, 8] rfl rfl 0 rfl rfl rfl) rfl rfl hl.1 rfl (lv_room (Nat.le_of_ble_eq_true rfl)) dX12_run_57 ⟨by rw [hRc]; exact Nat.le_of_ble_eq_true rfl, by rw [hRs]; exact Nat.le_of_ble_eq_true rfl⟩) hP hD hS hA [0, 2, 8] rfl (fun _ => rfl) ?_
                clear hP hD hS
                clear H locs
                intro v754 _u H locs hw hP hD hS
                obtain ⟨w755, w756⟩ := hw
                refine lv_icmp_le (tgt := 70) hx hb dX12_run_60 (by decide) (fun c757 => ?_) (fun c757 => ?_)
                · have q758 := mm_leL (mm_le c757) w752 w755
                  refine lv_iconst (v := 0) hx hb dX12_run_70 (by decide) ?_
                  refine lv_istore (lv' := [(4, .int 0), (5, .int x37_5_732), (3, .int x37_3_734), (0, .ref a_0), (1, .int i_0), (2, .int i_1)]) hx hb dX12_run_71 hl (by decide) rfl ?_
                  clear hl
                  clear ls
                  intro ls hl
                  refine lv_iload hx hb dX12_run_73 (lv_at hl 0 rfl) ?_
                  refine lv_iload_n hx hb dX12_run_75 rfl (lv_at hl 2 rfl) ?_
                  refine lv_icmp_le (tgt := 84) hx hb dX12_run_76 (by decide) (fun c759 => ?_) (fun c759 => ?_)
                  · refine lv_iload_n hx hb dX12_run_84 rfl (lv_at hl 2 rfl) ?_
                    refine lv_istore_n (lv' := [(3, .int x37_3_734), (4, .int 0), (5, .int x37_5_732), (0, .ref a_0), (1, .int i_0), (2, .int i_1)]) hx hb dX12_run_85 rfl hl (by decide) rfl ?_
                    clear hl
                    clear ls
                    intro ls hl
                    obtain ⟨v760, ev760⟩ : ∃ y : Int32, y = x37_5_732 + 1 := ⟨_, rfl⟩
                    refine lv_iinc (v := v760) (lv' := [(5, .int v760), (3, .int x37_3_734), (4, .int 0), (0, .ref a_0), (1, .int i_0), (2, .int i_1)]) hx hb dX12_run_86 hl (k := 2) rfl (by rw [ev760]; rfl) (by decide) rfl ?_
                    clear hl
                    clear ls
                    intro ls hl
                    have rv760 : mm_rg v760 1 210 := mm_add ev760 q744 mm_k1 (by decide) (by decide)
                    have tv760 := mm_addEc ev760 q744 mm_k1 (by decide) (k := 1) (by decide)
                    refine lv_goto (tgt := 37) hx hb dX12_run_89 (by decide) ?_
                    exact ih37 v760 0 x37_3_734 n745 n746 n747 n748 (mm_wk rv760 (by decide)) rx37_3_734 w750 w751 (mm_mu hm37 tv760 (by decide) (rv760).2 (by decide)) H locs hP hD hS ls (lv_sub hl [0, 2, 1, 3, 4, 5] rfl)
                  · have q761 := mm_ltL (h := (-1)) (mm_nle c759) rx37_3_734 mm_k0 (by decide)
                    exact mm_no q761 (by decide)
                · have q762 := mm_ltR (lo := 1) (mm_nle c757) w755 w752 (by decide)
                  refine lv_iload hx hb dX12_run_63 (lv_at hl 1 rfl) ?_
                  refine lv_iconst (v := 1) hx hb dX12_run_65 (by decide) ?_
                  refine lv_iadd hx hb dX12_run_66 ?_
                  refine lv_topi (fun v763 ev763 => ?_)
                  refine lv_goto (tgt := 71) hx hb dX12_run_67 (by decide) ?_
                  refine lv_istore (lv' := [(4, .int v763), (5, .int x37_5_732), (3, .int x37_3_734), (0, .ref a_0), (1, .int i_0), (2, .int i_1)]) hx hb dX12_run_71 hl (by decide) rfl ?_
                  clear hl
                  clear ls
                  intro ls hl
                  refine lv_iload hx hb dX12_run_73 (lv_at hl 0 rfl) ?_
                  refine lv_iload_n hx hb dX12_run_75 rfl (lv_at hl 2 rfl) ?_
                  refine lv_icmp_le (tgt := 84) hx hb dX12_run_76 (by decide) (fun c764 => ?_) (fun c764 => ?_)
                  · refine lv_iload_n hx hb dX12_run_84 rfl (lv_at hl 2 rfl) ?_
                    refine lv_istore_n (lv' := [(3, .int x37_3_734), (4, .int v763), (5, .int x37_5_732), (0, .ref a_0), (1, .int i_0), (2, .int i_1)]) hx hb dX12_run_85 rfl hl (by decide) rfl ?_
                    clear hl
                    clear ls
                    intro ls hl
                    obtain ⟨v765, ev765⟩ : ∃ y : Int32, y = x37_5_732 + 1 := ⟨_, rfl⟩
                    refine lv_iinc (v := v765) (lv' := [(5, .int v765), (3, .int x37_3_734), (4, .int v763), (0, .ref a_0), (1, .int i_0), (2, .int i_1)]) hx hb dX12_run_86 hl (k := 2) rfl (by rw [ev765]; rfl) (by decide) rfl ?_
                    clear hl
                    clear ls
                    intro ls hl
                    have rv765 : mm_rg v765 1 210 := mm_add ev765 q744 mm_k1 (by decide) (by decide)
                    have tv765 := mm_addEc ev765 q744 mm_k1 (by decide) (k := 1) (by decide)
                    refine lv_goto (tgt := 37) hx hb dX12_run_89 (by decide) ?_
                    exact ih37 v765 v763 x37_3_734 n745 n746 n747 n748 (mm_wk rv765 (by decide)) rx37_3_734 w750 w751 (mm_mu hm37 tv765 (by decide) (rv765).2 (by decide)) H locs hP hD hS ls (lv_sub hl [0, 2, 1, 3, 4, 5] rfl)
                  · have q766 := mm_ltL (h := 2147483646) (mm_nle c764) rx37_3_734 (mm_top v763) (by decide)
                    have q767 := mm_ltR (lo := 1) (mm_nle c764) rx37_3_734 (mm_top v763) (by decide)
                    refine lv_iload hx hb dX12_run_79 (lv_at hl 0 rfl) ?_
                    refine lv_goto (tgt := 85) hx hb dX12_run_81 (by decide) ?_
                    refine lv_istore_n (lv' := [(3, .int v763), (4, .int v763), (5, .int x37_5_732), (0, .ref a_0), (1, .int i_0), (2, .int i_1)]) hx hb dX12_run_85 rfl hl (by decide) rfl ?_
                    clear hl
                    clear ls
                    intro ls hl
                    obtain ⟨v768, ev768⟩ : ∃ y : Int32, y = x37_5_732 + 1 := ⟨_, rfl⟩
                    refine lv_iinc (v := v768) (lv' := [(5, .int v768), (3, .int v763), (4, .int v763), (0, .ref a_0), (1, .int i_0), (2, .int i_1)]) hx hb dX12_run_86 hl (k := 2) rfl (by rw [ev768]; rfl) (by decide) rfl ?_
                    clear hl
                    clear ls
                    intro ls hl
                    have rv768 : mm_rg v768 1 210 := mm_add ev768 q744 mm_k1 (by decide) (by decide)
                    have tv768 := mm_addEc ev768 q744 mm_k1 (by decide) (k := 1) (by decide)
                    refine lv_goto (tgt := 37) hx hb dX12_run_89 (by decide) ?_
                    exact ih37 v768 v763 v763 n745 n746 n747 n748 (mm_wk rv768 (by decide)) (mm_wk q767 (by decide)) w750 w751 (mm_mu hm37 tv768 (by decide) (rv768).2 (by decide)) H locs hP hD hS ls (lv_sub hl [0, 2, 1, 3, 4, 5] rfl)
          exact L37_738 _ 0 0 0 i_12 i_13 i_14 f_9 (mm_wk mm_k0 (by decide)) (mm_wk mm_k0 (by decide)) h0 h45 (Nat.lt_succ_self _) H locs hP hD hS ls (lv_sub hl [0, 1, 2, 3, 4, 5] rfl)
        · exact mm_eqN c16.symm mm_k0 mm_k1 (by decide)

set_option maxHeartbeats 4000000 in
set_option maxRecDepth 100000 in
theorem M159_X12_common_ (l : Launch) (G : va_G) (cy : Nat → ClassId) (sz : Nat) (j_0 : Int64) (j_1 : Int64) (h0 : mm_rl j_0 1 1) (h1 : mm_rl j_1 0 0) (h2 : (j_1 : Int64).toInt < (j_0 : Int64).toInt)  : mm_CL l yX12_common_ (mm_ws yX12_common_ cX12_common_ 4 (some .long)) ({ frames := 0, cells := 0, slots := 0, locals := 0 } : Room) G cy sz [] [.long j_0, .long j_1] (fun u : Unit => []) (fun (r : Int64) (u : Unit) => j_0 = r) 0 0 := by
  refine mm_begin (lv := [(0, .long j_0), (2, .long j_1)]) (by decide) (Nat.le_of_ble_eq_true rfl) rfl ?_
  intro p e s m below meth c A ls R args Q H locs hRe hQ hAe hx hb hr hlocks hml hown hnm hts hsz hA hS hP hK hD hZ hl
  have hRf : R.frames = 0 := by rw [hRe]
  have hRl : R.locals = 0 := by rw [hRe]
  have hRc : R.cells = 0 := by rw [hRe]
  have hRs : R.slots = 0 := by rw [hRe]
  refine lv_lload_n hx hb dX12_common__0 rfl (lv_at hl 1 rfl) ?_
  refine lv_lconst (v := 0) hx hb dX12_common__1 (by decide) ?_
  refine W.lcmp hx hb dX12_common__2 ?_
  refine lv_topi (fun v1 ev1 => ?_)
  refine lv_if_ne (tgt := 10) hx hb dX12_common__3 (by decide) (fun c2 => ?_) (fun c2 => ?_)
  · have q3 := mm_neLl (lo := 1) (mm_cmp_ne ev1 c2) h1 mm_kl0 (by decide) (by decide)
    exact mm_nol q3 (by decide)
  · refine lv_lload_n hx hb dX12_common__6 rfl (lv_at hl 0 rfl) ?_
    refine lv_goto (tgt := 17) hx hb dX12_common__7 (by decide) ?_
    subst hAe
    rw [hQ]
    exact W.lret (v := j_0) hx hb hr (fun t ht hW => ⟨⟨j_0, (), rfl, rfl, by rw [ht]; exact hP, hK.warm hW, hD⟩, hS.F ht⟩) hS.2.2 dX12_common__17

set_option maxHeartbeats 4000000 in
set_option maxRecDepth 100000 in
theorem M160_X12_common_ (l : Launch) (G : va_G) (cy : Nat → ClassId) (sz : Nat) (j_0 : Int64) (j_1 : Int64) (h0 : mm_rl j_0 1 4611686018427387904) (h1 : mm_rl j_1 0 1)  : mm_CL l yX12_common_ (mm_ws yX12_common_ cX12_common_ 4 (some .long)) ({ frames := 1, cells := 0, slots := 0, locals := 23 } : Room) G cy sz [] [.long j_0, .long j_1] (fun u : Unit => []) (fun (r : Int64) (u : Unit) => mm_rl r 1 4611686018427387904) 0 0 := by
  refine mm_begin (lv := [(0, .long j_0), (2, .long j_1)]) (by decide) (Nat.le_of_ble_eq_true rfl) rfl ?_
  intro p e s m below meth c A ls R args Q H locs hRe hQ hAe hx hb hr hlocks hml hown hnm hts hsz hA hS hP hK hD hZ hl
  have hRf : R.frames = 1 := by rw [hRe]
  have hRl : R.locals = 23 := by rw [hRe]
  have hRc : R.cells = 0 := by rw [hRe]
  have hRs : R.slots = 0 := by rw [hRe]
  refine lv_lload_n hx hb dX12_common__0 rfl (lv_at hl 1 rfl) ?_
  refine lv_lconst (v := 0) hx hb dX12_common__1 (by decide) ?_
  refine W.lcmp hx hb dX12_common__2 ?_
  refine lv_topi (fun v1 ev1 => ?_)
  refine lv_if_ne (tgt := 10) hx hb dX12_common__3 (by decide) (fun c2 => ?_) (fun c2 => ?_)
  · have q3 := mm_neLl (lo := 1) (mm_cmp_ne ev1 c2) h1 mm_kl0 (by decide) (by decide)
    refine lv_lload_n hx hb dX12_common__10 rfl (lv_at hl 1 rfl) ?_
    refine lv_lload_n hx hb dX12_common__11 rfl (lv_at hl 0 rfl) ?_
    refine lv_lload_n hx hb dX12_common__12 rfl (lv_at hl 1 rfl) ?_
    refine lv_lrem hx hb dX12_common__13 (mm_nzl q3 (by decide)) ?_
    refine lv_topl (fun v4 ev4 => ?_)
    have rv4 : mm_rl v4 0 0 := mm_reml ev4 h0 q3 (by decide) (by decide)
    have w5 := mm_remlLt ev4 h0 q3 (by decide)
    refine mm_finlr (va_runS (As := [.long j_1, .long v4]) (rest := []) ⟨hx, hb, hml, hown, hts⟩ (M159_X12_common_ l G cy H.size j_1 v4 q3 rv4 w5) (va_cwS 2 hts (mm_gS mm_w1043 mm_w1044 mm_w5 mm_w1045) rfl rfl rfl hs_X12_common_ ⟨by rw [hRf]; exact Nat.le_of_ble_eq_true rfl, by rw [hRl]; exact Nat.le_of_ble_eq_true rfl⟩) (mm_preS hK hZ hS hA hP hD [] rfl rfl) rfl rfl hl.1 rfl (lv_room (Nat.le_of_ble_eq_true rfl)) dX12_common__14 ⟨by rw [hRc]; exact Nat.le_of_ble_eq_true rfl, by rw [hRs]; exact Nat.le_of_ble_eq_true rfl⟩) hP hD hS hA [] rfl (fun _ => rfl) ?_
    clear hP hD hS
    clear H locs
    intro v6 _u H locs hw hP hD hS
    subst hw
    subst hAe
    rw [hQ]
    exact W.lret (v := j_1) hx hb hr (fun t ht hW => ⟨⟨j_1, (), rfl, (mm_wkl q3 (by decide)), by rw [ht]; exact hP, hK.warm hW, hD⟩, hS.F ht⟩) hS.2.2 dX12_common__17
  · have q7 := mm_eqIl (lo := 0) (hi := 0) (mm_cmp_eq ev1 c2) h1 mm_kl0 (by decide)
    refine lv_lload_n hx hb dX12_common__6 rfl (lv_at hl 0 rfl) ?_
    refine lv_goto (tgt := 17) hx hb dX12_common__7 (by decide) ?_
    subst hAe
    rw [hQ]
    exact W.lret (v := j_0) hx hb hr (fun t ht hW => ⟨⟨j_0, (), rfl, h0, by rw [ht]; exact hP, hK.warm hW, hD⟩, hS.F ht⟩) hS.2.2 dX12_common__17

set_option maxHeartbeats 4000000 in
set_option maxRecDepth 100000 in
theorem M161_X12_common_ (l : Launch) (G : va_G) (cy : Nat → ClassId) (sz : Nat) (j_0 : Int64) (j_1 : Int64) (h0 : mm_rl j_0 1 3) (h1 : mm_rl j_1 0 2) (h2 : (j_1 : Int64).toInt < (j_0 : Int64).toInt)  : mm_CL l yX12_common_ (mm_ws yX12_common_ cX12_common_ 4 (some .long)) ({ frames := 2, cells := 0, slots := 0, locals := 46 } : Room) G cy sz [] [.long j_0, .long j_1] (fun u : Unit => []) (fun (r : Int64) (u : Unit) => mm_rl r 1 4611686018427387904) 0 0 := by
  refine mm_begin (lv := [(0, .long j_0), (2, .long j_1)]) (by decide) (Nat.le_of_ble_eq_true rfl) rfl ?_
  intro p e s m below meth c A ls R args Q H locs hRe hQ hAe hx hb hr hlocks hml hown hnm hts hsz hA hS hP hK hD hZ hl
  have hRf : R.frames = 2 := by rw [hRe]
  have hRl : R.locals = 46 := by rw [hRe]
  have hRc : R.cells = 0 := by rw [hRe]
  have hRs : R.slots = 0 := by rw [hRe]
  refine lv_lload_n hx hb dX12_common__0 rfl (lv_at hl 1 rfl) ?_
  refine lv_lconst (v := 0) hx hb dX12_common__1 (by decide) ?_
  refine W.lcmp hx hb dX12_common__2 ?_
  refine lv_topi (fun v1 ev1 => ?_)
  refine lv_if_ne (tgt := 10) hx hb dX12_common__3 (by decide) (fun c2 => ?_) (fun c2 => ?_)
  · have q3 := mm_neLl (lo := 1) (mm_cmp_ne ev1 c2) h1 mm_kl0 (by decide) (by decide)
    refine lv_lload_n hx hb dX12_common__10 rfl (lv_at hl 1 rfl) ?_
    refine lv_lload_n hx hb dX12_common__11 rfl (lv_at hl 0 rfl) ?_
    refine lv_lload_n hx hb dX12_common__12 rfl (lv_at hl 1 rfl) ?_
    refine lv_lrem hx hb dX12_common__13 (mm_nzl q3 (by decide)) ?_
    refine lv_topl (fun v4 ev4 => ?_)
    have rv4 : mm_rl v4 0 1 := mm_reml ev4 h0 q3 (by decide) (by decide)
    have w5 := mm_remlLt ev4 h0 q3 (by decide)
    refine mm_finlr (va_runS (As := [.long j_1, .long v4]) (rest := []) ⟨hx, hb, hml, hown, hts⟩ (M160_X12_common_ l G cy H.size j_1 v4 (mm_wkl q3 (by decide)) rv4) (va_cwS 2 hts (mm_gS mm_w1043 mm_w1044 mm_w5 mm_w1045) rfl rfl rfl hs_X12_common_ ⟨by rw [hRf]; exact Nat.le_of_ble_eq_true rfl, by rw [hRl]; exact Nat.le_of_ble_eq_true rfl⟩) (mm_preS hK hZ hS hA hP hD [] rfl rfl) rfl rfl hl.1 rfl (lv_room (Nat.le_of_ble_eq_true rfl)) dX12_common__14 ⟨by rw [hRc]; exact Nat.le_of_ble_eq_true rfl, by rw [hRs]; exact Nat.le_of_ble_eq_true rfl⟩) hP hD hS hA [] rfl (fun _ => rfl) ?_
    clear hP hD hS
    clear H locs
    intro v6 _u H locs hw hP hD hS
    have w7 := hw
    subst hAe
    rw [hQ]
    exact W.lret (v := v6) hx hb hr (fun t ht hW => ⟨⟨v6, (), rfl, w7, by rw [ht]; exact hP, hK.warm hW, hD⟩, hS.F ht⟩) hS.2.2 dX12_common__17
  · have q8 := mm_eqIl (lo := 0) (hi := 0) (mm_cmp_eq ev1 c2) h1 mm_kl0 (by decide)
    refine lv_lload_n hx hb dX12_common__6 rfl (lv_at hl 0 rfl) ?_
    refine lv_goto (tgt := 17) hx hb dX12_common__7 (by decide) ?_
    subst hAe
    rw [hQ]
    exact W.lret (v := j_0) hx hb hr (fun t ht hW => ⟨⟨j_0, (), rfl, (mm_wkl h0 (by decide)), by rw [ht]; exact hP, hK.warm hW, hD⟩, hS.F ht⟩) hS.2.2 dX12_common__17

set_option maxHeartbeats 4000000 in
set_option maxRecDepth 100000 in
theorem M162_X12_common_ (l : Launch) (G : va_G) (cy : Nat → ClassId) (sz : Nat) (j_0 : Int64) (j_1 : Int64) (h0 : mm_rl j_0 1 4611686018427387904) (h1 : mm_rl j_1 0 3)  : mm_CL l yX12_common_ (mm_ws yX12_common_ cX12_common_ 4 (some .long)) ({ frames := 3, cells := 0, slots := 0, locals := 69 } : Room) G cy sz [] [.long j_0, .long j_1] (fun u : Unit => []) (fun (r : Int64) (u : Unit) => mm_rl r 1 4611686018427387904) 0 0 := by
  refine mm_begin (lv := [(0, .long j_0), (2, .long j_1)]) (by decide) (Nat.le_of_ble_eq_true rfl) rfl ?_
  intro p e s m below meth c A ls R args Q H locs hRe hQ hAe hx hb hr hlocks hml hown hnm hts hsz hA hS hP hK hD hZ hl
  have hRf : R.frames = 3 := by rw [hRe]
  have hRl : R.locals = 69 := by rw [hRe]
  have hRc : R.cells = 0 := by rw [hRe]
  have hRs : R.slots = 0 := by rw [hRe]
  refine lv_lload_n hx hb dX12_common__0 rfl (lv_at hl 1 rfl) ?_
  refine lv_lconst (v := 0) hx hb dX12_common__1 (by decide) ?_
  refine W.lcmp hx hb dX12_common__2 ?_
  refine lv_topi (fun v1 ev1 => ?_)
  refine lv_if_ne (tgt := 10) hx hb dX12_common__3 (by decide) (fun c2 => ?_) (fun c2 => ?_)
  · have q3 := mm_neLl (lo := 1) (mm_cmp_ne ev1 c2) h1 mm_kl0 (by decide) (by decide)
    refine lv_lload_n hx hb dX12_common__10 rfl (lv_at hl 1 rfl) ?_
    refine lv_lload_n hx hb dX12_common__11 rfl (lv_at hl 0 rfl) ?_
    refine lv_lload_n hx hb dX12_common__12 rfl (lv_at hl 1 rfl) ?_
    refine lv_lrem hx hb dX12_common__13 (mm_nzl q3 (by decide)) ?_
    refine lv_topl (fun v4 ev4 => ?_)
    have rv4 : mm_rl v4 0 2 := mm_reml ev4 h0 q3 (by decide) (by decide)
    have w5 := mm_remlLt ev4 h0 q3 (by decide)
    refine mm_finlr (va_runS (As := [.long j_1, .long v4]) (rest := []) ⟨hx, hb, hml, hown, hts⟩ (M161_X12_common_ l G cy H.size j_1 v4 q3 rv4 w5) (va_cwS 2 hts (mm_gS mm_w1043 mm_w1044 mm_w5 mm_w1045) rfl rfl rfl hs_X12_common_ ⟨by rw [hRf]; exact Nat.le_of_ble_eq_true rfl, by rw [hRl]; exact Nat.le_of_ble_eq_true rfl⟩) (mm_preS hK hZ hS hA hP hD [] rfl rfl) rfl rfl hl.1 rfl (lv_room (Nat.le_of_ble_eq_true rfl)) dX12_common__14 ⟨by rw [hRc]; exact Nat.le_of_ble_eq_true rfl, by rw [hRs]; exact Nat.le_of_ble_eq_true rfl⟩) hP hD hS hA [] rfl (fun _ => rfl) ?_
    clear hP hD hS
    clear H locs
    intro v6 _u H locs hw hP hD hS
    have w7 := hw
    subst hAe
    rw [hQ]
    exact W.lret (v := v6) hx hb hr (fun t ht hW => ⟨⟨v6, (), rfl, w7, by rw [ht]; exact hP, hK.warm hW, hD⟩, hS.F ht⟩) hS.2.2 dX12_common__17
  · have q8 := mm_eqIl (lo := 0) (hi := 0) (mm_cmp_eq ev1 c2) h1 mm_kl0 (by decide)
    refine lv_lload_n hx hb dX12_common__6 rfl (lv_at hl 0 rfl) ?_
    refine lv_goto (tgt := 17) hx hb dX12_common__7 (by decide) ?_
    subst hAe
    rw [hQ]
    exact W.lret (v := j_0) hx hb hr (fun t ht hW => ⟨⟨j_0, (), rfl, h0, by rw [ht]; exact hP, hK.warm hW, hD⟩, hS.F ht⟩) hS.2.2 dX12_common__17

set_option maxHeartbeats 4000000 in
set_option maxRecDepth 100000 in
theorem M163_X12_common_ (l : Launch) (G : va_G) (cy : Nat → ClassId) (sz : Nat) (j_0 : Int64) (j_1 : Int64) (h0 : mm_rl j_0 1 7) (h1 : mm_rl j_1 0 6) (h2 : (j_1 : Int64).toInt < (j_0 : Int64).toInt)  : mm_CL l yX12_common_ (mm_ws yX12_common_ cX12_common_ 4 (some .long)) ({ frames := 4, cells := 0, slots := 0, locals := 92 } : Room) G cy sz [] [.long j_0, .long j_1] (fun u : Unit => []) (fun (r : Int64) (u : Unit) => mm_rl r 1 4611686018427387904) 0 0 := by
  refine mm_begin (lv := [(0, .long j_0), (2, .long j_1)]) (by decide) (Nat.le_of_ble_eq_true rfl) rfl ?_
  intro p e s m below meth c A ls R args Q H locs hRe hQ hAe hx hb hr hlocks hml hown hnm hts hsz hA hS hP hK hD hZ hl
  have hRf : R.frames = 4 := by rw [hRe]
  have hRl : R.locals = 92 := by rw [hRe]
  have hRc : R.cells = 0 := by rw [hRe]
  have hRs : R.slots = 0 := by rw [hRe]
  refine lv_lload_n hx hb dX12_common__0 rfl (lv_at hl 1 rfl) ?_
  refine lv_lconst (v := 0) hx hb dX12_common__1 (by decide) ?_
  refine W.lcmp hx hb dX12_common__2 ?_
  refine lv_topi (fun v1 ev1 => ?_)
  refine lv_if_ne (tgt := 10) hx hb dX12_common__3 (by decide) (fun c2 => ?_) (fun c2 => ?_)
  · have q3 := mm_neLl (lo := 1) (mm_cmp_ne ev1 c2) h1 mm_kl0 (by decide) (by decide)
    refine lv_lload_n hx hb dX12_common__10 rfl (lv_at hl 1 rfl) ?_
    refine lv_lload_n hx hb dX12_common__11 rfl (lv_at hl 0 rfl) ?_
    refine lv_lload_n hx hb dX12_common__12 rfl (lv_at hl 1 rfl) ?_
    refine lv_lrem hx hb dX12_common__13 (mm_nzl q3 (by decide)) ?_
    refine lv_topl (fun v4 ev4 => ?_)
    have rv4 : mm_rl v4 0 5 := mm_reml ev4 h0 q3 (by decide) (by decide)
    have w5 := mm_remlLt ev4 h0 q3 (by decide)
    have q6 : mm_rl v4 0 3 := mm_remlHalf ev4 (Int.le_of_lt h2) h0 q3 (by decide)
    refine mm_finlr (va_runS (As := [.long j_1, .long v4]) (rest := []) ⟨hx, hb, hml, hown, hts⟩ (M162_X12_common_ l G cy H.size j_1 v4 (mm_wkl q3 (by decide)) q6) (va_cwS 2 hts (mm_gS mm_w1043 mm_w1044 mm_w5 mm_w1045) rfl rfl rfl hs_X12_common_ ⟨by rw [hRf]; exact Nat.le_of_ble_eq_true rfl, by rw [hRl]; exact Nat.le_of_ble_eq_true rfl⟩) (mm_preS hK hZ hS hA hP hD [] rfl rfl) rfl rfl hl.1 rfl (lv_room (Nat.le_of_ble_eq_true rfl)) dX12_common__14 ⟨by rw [hRc]; exact Nat.le_of_ble_eq_true rfl, by rw [hRs]; exact Nat.le_of_ble_eq_true rfl⟩) hP hD hS hA [] rfl (fun _ => rfl) ?_
    clear hP hD hS
    clear H locs
    intro v7 _u H locs hw hP hD hS
    have w8 := hw
    subst hAe
    rw [hQ]
    exact W.lret (v := v7) hx hb hr (fun t ht hW => ⟨⟨v7, (), rfl, w8, by rw [ht]; exact hP, hK.warm hW, hD⟩, hS.F ht⟩) hS.2.2 dX12_common__17
  · have q9 := mm_eqIl (lo := 0) (hi := 0) (mm_cmp_eq ev1 c2) h1 mm_kl0 (by decide)
    refine lv_lload_n hx hb dX12_common__6 rfl (lv_at hl 0 rfl) ?_
    refine lv_goto (tgt := 17) hx hb dX12_common__7 (by decide) ?_
    subst hAe
    rw [hQ]
    exact W.lret (v := j_0) hx hb hr (fun t ht hW => ⟨⟨j_0, (), rfl, (mm_wkl h0 (by decide)), by rw [ht]; exact hP, hK.warm hW, hD⟩, hS.F ht⟩) hS.2.2 dX12_common__17

set_option maxHeartbeats 4000000 in
set_option maxRecDepth 100000 in
theorem M164_X12_common_ (l : Launch) (G : va_G) (cy : Nat → ClassId) (sz : Nat) (j_0 : Int64) (j_1 : Int64) (h0 : mm_rl j_0 1 4611686018427387904) (h1 : mm_rl j_1 0 7)  : mm_CL l yX12_common_ (mm_ws yX12_common_ cX12_common_ 4 (some .long)) ({ frames := 5, cells := 0, slots := 0, locals := 115 } : Room) G cy sz [] [.long j_0, .long j_1] (fun u : Unit => []) (fun (r : Int64) (u : Unit) => mm_rl r 1 4611686018427387904) 0 0 := by
  refine mm_begin (lv := [(0, .long j_0), (2, .long j_1)]) (by decide) (Nat.le_of_ble_eq_true rfl) rfl ?_
  intro p e s m below meth c A ls R args Q H locs hRe hQ hAe hx hb hr hlocks hml hown hnm hts hsz hA hS hP hK hD hZ hl
  have hRf : R.frames = 5 := by rw [hRe]
  have hRl : R.locals = 115 := by rw [hRe]
  have hRc : R.cells = 0 := by rw [hRe]
  have hRs : R.slots = 0 := by rw [hRe]
  refine lv_lload_n hx hb dX12_common__0 rfl (lv_at hl 1 rfl) ?_
  refine lv_lconst (v := 0) hx hb dX12_common__1 (by decide) ?_
  refine W.lcmp hx hb dX12_common__2 ?_
  refine lv_topi (fun v1 ev1 => ?_)
  refine lv_if_ne (tgt := 10) hx hb dX12_common__3 (by decide) (fun c2 => ?_) (fun c2 => ?_)
  · have q3 := mm_neLl (lo := 1) (mm_cmp_ne ev1 c2) h1 mm_kl0 (by decide) (by decide)
    refine lv_lload_n hx hb dX12_common__10 rfl (lv_at hl 1 rfl) ?_
    refine lv_lload_n hx hb dX12_common__11 rfl (lv_at hl 0 rfl) ?_
    refine lv_lload_n hx hb dX12_common__12 rfl (lv_at hl 1 rfl) ?_
    refine lv_lrem hx hb dX12_common__13 (mm_nzl q3 (by decide)) ?_
    refine lv_topl (fun v4 ev4 => ?_)
    have rv4 : mm_rl v4 0 6 := mm_reml ev4 h0 q3 (by decide) (by decide)
    have w5 := mm_remlLt ev4 h0 q3 (by decide)
    refine mm_finlr (va_runS (As := [.long j_1, .long v4]) (rest := []) ⟨hx, hb, hml, hown, hts⟩ (M163_X12_common_ l G cy H.size j_1 v4 q3 rv4 w5) (va_cwS 2 hts (mm_gS mm_w1043 mm_w1044 mm_w5 mm_w1045) rfl rfl rfl hs_X12_common_ ⟨by rw [hRf]; exact Nat.le_of_ble_eq_true rfl, by rw [hRl]; exact Nat.le_of_ble_eq_true rfl⟩) (mm_preS hK hZ hS hA hP hD [] rfl rfl) rfl rfl hl.1 rfl (lv_room (Nat.le_of_ble_eq_true rfl)) dX12_common__14 ⟨by rw [hRc]; exact Nat.le_of_ble_eq_true rfl, by rw [hRs]; exact Nat.le_of_ble_eq_true rfl⟩) hP hD hS hA [] rfl (fun _ => rfl) ?_
    clear hP hD hS
    clear H locs
    intro v6 _u H locs hw hP hD hS
    have w7 := hw
    subst hAe
    rw [hQ]
    exact W.lret (v := v6) hx hb hr (fun t ht hW => ⟨⟨v6, (), rfl, w7, by rw [ht]; exact hP, hK.warm hW, hD⟩, hS.F ht⟩) hS.2.2 dX12_common__17
  · have q8 := mm_eqIl (lo := 0) (hi := 0) (mm_cmp_eq ev1 c2) h1 mm_kl0 (by decide)
    refine lv_lload_n hx hb dX12_common__6 rfl (lv_at hl 0 rfl) ?_
    refine lv_goto (tgt := 17) hx hb dX12_common__7 (by decide) ?_
    subst hAe
    rw [hQ]
    exact W.lret (v := j_0) hx hb hr (fun t ht hW => ⟨⟨j_0, (), rfl, h0, by rw [ht]; exact hP, hK.warm hW, hD⟩, hS.F ht⟩) hS.2.2 dX12_common__17

set_option maxHeartbeats 4000000 in
set_option maxRecDepth 100000 in
theorem M165_X12_common_ (l : Launch) (G : va_G) (cy : Nat → ClassId) (sz : Nat) (j_0 : Int64) (j_1 : Int64) (h0 : mm_rl j_0 1 15) (h1 : mm_rl j_1 0 14) (h2 : (j_1 : Int64).toInt < (j_0 : Int64).toInt)  : mm_CL l yX12_common_ (mm_ws yX12_common_ cX12_common_ 4 (some .long)) ({ frames := 6, cells := 0, slots := 0, locals := 138 } : Room) G cy sz [] [.long j_0, .long j_1] (fun u : Unit => []) (fun (r : Int64) (u : Unit) => mm_rl r 1 4611686018427387904) 0 0 := by
  refine mm_begin (lv := [(0, .long j_0), (2, .long j_1)]) (by decide) (Nat.le_of_ble_eq_true rfl) rfl ?_
  intro p e s m below meth c A ls R args Q H locs hRe hQ hAe hx hb hr hlocks hml hown hnm hts hsz hA hS hP hK hD hZ hl
  have hRf : R.frames = 6 := by rw [hRe]
  have hRl : R.locals = 138 := by rw [hRe]
  have hRc : R.cells = 0 := by rw [hRe]
  have hRs : R.slots = 0 := by rw [hRe]
  refine lv_lload_n hx hb dX12_common__0 rfl (lv_at hl 1 rfl) ?_
  refine lv_lconst (v := 0) hx hb dX12_common__1 (by decide) ?_
  refine W.lcmp hx hb dX12_common__2 ?_
  refine lv_topi (fun v1 ev1 => ?_)
  refine lv_if_ne (tgt := 10) hx hb dX12_common__3 (by decide) (fun c2 => ?_) (fun c2 => ?_)
  · have q3 := mm_neLl (lo := 1) (mm_cmp_ne ev1 c2) h1 mm_kl0 (by decide) (by decide)
    refine lv_lload_n hx hb dX12_common__10 rfl (lv_at hl 1 rfl) ?_
    refine lv_lload_n hx hb dX12_common__11 rfl (lv_at hl 0 rfl) ?_
    refine lv_lload_n hx hb dX12_common__12 rfl (lv_at hl 1 rfl) ?_
    refine lv_lrem hx hb dX12_common__13 (mm_nzl q3 (by decide)) ?_
    refine lv_topl (fun v4 ev4 => ?_)
    have rv4 : mm_rl v4 0 13 := mm_reml ev4 h0 q3 (by decide) (by decide)
    have w5 := mm_remlLt ev4 h0 q3 (by decide)
    have q6 : mm_rl v4 0 7 := mm_remlHalf ev4 (Int.le_of_lt h2) h0 q3 (by decide)
    refine mm_finlr (va_runS (As := [.long j_1, .long v4]) (rest := []) ⟨hx, hb, hml, hown, hts⟩ (M164_X12_common_ l G cy H.size j_1 v4 (mm_wkl q3 (by decide)) q6) (va_cwS 2 hts (mm_gS mm_w1043 mm_w1044 mm_w5 mm_w1045) rfl rfl rfl hs_X12_common_ ⟨by rw [hRf]; exact Nat.le_of_ble_eq_true rfl, by rw [hRl]; exact Nat.le_of_ble_eq_true rfl⟩) (mm_preS hK hZ hS hA hP hD [] rfl rfl) rfl rfl hl.1 rfl (lv_room (Nat.le_of_ble_eq_true rfl)) dX12_common__14 ⟨by rw [hRc]; exact Nat.le_of_ble_eq_true rfl, by rw [hRs]; exact Nat.le_of_ble_eq_true rfl⟩) hP hD hS hA [] rfl (fun _ => rfl) ?_
    clear hP hD hS
    clear H locs
    intro v7 _u H locs hw hP hD hS
    have w8 := hw
    subst hAe
    rw [hQ]
    exact W.lret (v := v7) hx hb hr (fun t ht hW => ⟨⟨v7, (), rfl, w8, by rw [ht]; exact hP, hK.warm hW, hD⟩, hS.F ht⟩) hS.2.2 dX12_common__17
  · have q9 := mm_eqIl (lo := 0) (hi := 0) (mm_cmp_eq ev1 c2) h1 mm_kl0 (by decide)
    refine lv_lload_n hx hb dX12_common__6 rfl (lv_at hl 0 rfl) ?_
    refine lv_goto (tgt := 17) hx hb dX12_common__7 (by decide) ?_
    subst hAe
    rw [hQ]
    exact W.lret (v := j_0) hx hb hr (fun t ht hW => ⟨⟨j_0, (), rfl, (mm_wkl h0 (by decide)), by rw [ht]; exact hP, hK.warm hW, hD⟩, hS.F ht⟩) hS.2.2 dX12_common__17

set_option maxHeartbeats 4000000 in
set_option maxRecDepth 100000 in
theorem M166_X12_common_ (l : Launch) (G : va_G) (cy : Nat → ClassId) (sz : Nat) (j_0 : Int64) (j_1 : Int64) (h0 : mm_rl j_0 1 4611686018427387904) (h1 : mm_rl j_1 0 15)  : mm_CL l yX12_common_ (mm_ws yX12_common_ cX12_common_ 4 (some .long)) ({ frames := 7, cells := 0, slots := 0, locals := 161 } : Room) G cy sz [] [.long j_0, .long j_1] (fun u : Unit => []) (fun (r : Int64) (u : Unit) => mm_rl r 1 4611686018427387904) 0 0 := by
  refine mm_begin (lv := [(0, .long j_0), (2, .long j_1)]) (by decide) (Nat.le_of_ble_eq_true rfl) rfl ?_
  intro p e s m below meth c A ls R args Q H locs hRe hQ hAe hx hb hr hlocks hml hown hnm hts hsz hA hS hP hK hD hZ hl
  have hRf : R.frames = 7 := by rw [hRe]
  have hRl : R.locals = 161 := by rw [hRe]
  have hRc : R.cells = 0 := by rw [hRe]
  have hRs : R.slots = 0 := by rw [hRe]
  refine lv_lload_n hx hb dX12_common__0 rfl (lv_at hl 1 rfl) ?_
  refine lv_lconst (v := 0) hx hb dX12_common__1 (by decide) ?_
  refine W.lcmp hx hb dX12_common__2 ?_
  refine lv_topi (fun v1 ev1 => ?_)
  refine lv_if_ne (tgt := 10) hx hb dX12_common__3 (by decide) (fun c2 => ?_) (fun c2 => ?_)
  · have q3 := mm_neLl (lo := 1) (mm_cmp_ne ev1 c2) h1 mm_kl0 (by decide) (by decide)
    refine lv_lload_n hx hb dX12_common__10 rfl (lv_at hl 1 rfl) ?_
    refine lv_lload_n hx hb dX12_common__11 rfl (lv_at hl 0 rfl) ?_
    refine lv_lload_n hx hb dX12_common__12 rfl (lv_at hl 1 rfl) ?_
    refine lv_lrem hx hb dX12_common__13 (mm_nzl q3 (by decide)) ?_
    refine lv_topl (fun v4 ev4 => ?_)
    have rv4 : mm_rl v4 0 14 := mm_reml ev4 h0 q3 (by decide) (by decide)
    have w5 := mm_remlLt ev4 h0 q3 (by decide)
    refine mm_finlr (va_runS (As := [.long j_1, .long v4]) (rest := []) ⟨hx, hb, hml, hown, hts⟩ (M165_X12_common_ l G cy H.size j_1 v4 q3 rv4 w5) (va_cwS 2 hts (mm_gS mm_w1043 mm_w1044 mm_w5 mm_w1045) rfl rfl rfl hs_X12_common_ ⟨by rw [hRf]; exact Nat.le_of_ble_eq_true rfl, by rw [hRl]; exact Nat.le_of_ble_eq_true rfl⟩) (mm_preS hK hZ hS hA hP hD [] rfl rfl) rfl rfl hl.1 rfl (lv_room (Nat.le_of_ble_eq_true rfl)) dX12_common__14 ⟨by rw [hRc]; exact Nat.le_of_ble_eq_true rfl, by rw [hRs]; exact Nat.le_of_ble_eq_true rfl⟩) hP hD hS hA [] rfl (fun _ => rfl) ?_
    clear hP hD hS
    clear H locs
    intro v6 _u H locs hw hP hD hS
    have w7 := hw
    subst hAe
    rw [hQ]
    exact W.lret (v := v6) hx hb hr (fun t ht hW => ⟨⟨v6, (), rfl, w7, by rw [ht]; exact hP, hK.warm hW, hD⟩, hS.F ht⟩) hS.2.2 dX12_common__17
  · have q8 := mm_eqIl (lo := 0) (hi := 0) (mm_cmp_eq ev1 c2) h1 mm_kl0 (by decide)
    refine lv_lload_n hx hb dX12_common__6 rfl (lv_at hl 0 rfl) ?_
    refine lv_goto (tgt := 17) hx hb dX12_common__7 (by decide) ?_
    subst hAe
    rw [hQ]
    exact W.lret (v := j_0) hx hb hr (fun t ht hW => ⟨⟨j_0, (), rfl, h0, by rw [ht]; exact hP, hK.warm hW, hD⟩, hS.F ht⟩) hS.2.2 dX12_common__17

set_option maxHeartbeats 4000000 in
set_option maxRecDepth 100000 in
theorem M167_X12_common_ (l : Launch) (G : va_G) (cy : Nat → ClassId) (sz : Nat) (j_0 : Int64) (j_1 : Int64) (h0 : mm_rl j_0 1 31) (h1 : mm_rl j_1 0 30) (h2 : (j_1 : Int64).toInt < (j_0 : Int64).toInt)  : mm_CL l yX12_common_ (mm_ws yX12_common_ cX12_common_ 4 (some .long)) ({ frames := 8, cells := 0, slots := 0, locals := 184 } : Room) G cy sz [] [.long j_0, .long j_1] (fun u : Unit => []) (fun (r : Int64) (u : Unit) => mm_rl r 1 4611686018427387904) 0 0 := by
  refine mm_begin (lv := [(0, .long j_0), (2, .long j_1)]) (by decide) (Nat.le_of_ble_eq_true rfl) rfl ?_
  intro p e s m below meth c A ls R args Q H locs hRe hQ hAe hx hb hr hlocks hml hown hnm hts hsz hA hS hP hK hD hZ hl
  have hRf : R.frames = 8 := by rw [hRe]
  have hRl : R.locals = 184 := by rw [hRe]
  have hRc : R.cells = 0 := by rw [hRe]
  have hRs : R.slots = 0 := by rw [hRe]
  refine lv_lload_n hx hb dX12_common__0 rfl (lv_at hl 1 rfl) ?_
  refine lv_lconst (v := 0) hx hb dX12_common__1 (by decide) ?_
  refine W.lcmp hx hb dX12_common__2 ?_
  refine lv_topi (fun v1 ev1 => ?_)
  refine lv_if_ne (tgt := 10) hx hb dX12_common__3 (by decide) (fun c2 => ?_) (fun c2 => ?_)
  · have q3 := mm_neLl (lo := 1) (mm_cmp_ne ev1 c2) h1 mm_kl0 (by decide) (by decide)
    refine lv_lload_n hx hb dX12_common__10 rfl (lv_at hl 1 rfl) ?_
    refine lv_lload_n hx hb dX12_common__11 rfl (lv_at hl 0 rfl) ?_
    refine lv_lload_n hx hb dX12_common__12 rfl (lv_at hl 1 rfl) ?_
    refine lv_lrem hx hb dX12_common__13 (mm_nzl q3 (by decide)) ?_
    refine lv_topl (fun v4 ev4 => ?_)
    have rv4 : mm_rl v4 0 29 := mm_reml ev4 h0 q3 (by decide) (by decide)
    have w5 := mm_remlLt ev4 h0 q3 (by decide)
    have q6 : mm_rl v4 0 15 := mm_remlHalf ev4 (Int.le_of_lt h2) h0 q3 (by decide)
    refine mm_finlr (va_runS (As := [.long j_1, .long v4]) (rest := []) ⟨hx, hb, hml, hown, hts⟩ (M166_X12_common_ l G cy H.size j_1 v4 (mm_wkl q3 (by decide)) q6) (va_cwS 2 hts (mm_gS mm_w1043 mm_w1044 mm_w5 mm_w1045) rfl rfl rfl hs_X12_common_ ⟨by rw [hRf]; exact Nat.le_of_ble_eq_true rfl, by rw [hRl]; exact Nat.le_of_ble_eq_true rfl⟩) (mm_preS hK hZ hS hA hP hD [] rfl rfl) rfl rfl hl.1 rfl (lv_room (Nat.le_of_ble_eq_true rfl)) dX12_common__14 ⟨by rw [hRc]; exact Nat.le_of_ble_eq_true rfl, by rw [hRs]; exact Nat.le_of_ble_eq_true rfl⟩) hP hD hS hA [] rfl (fun _ => rfl) ?_
    clear hP hD hS
    clear H locs
    intro v7 _u H locs hw hP hD hS
    have w8 := hw
    subst hAe
    rw [hQ]
    exact W.lret (v := v7) hx hb hr (fun t ht hW => ⟨⟨v7, (), rfl, w8, by rw [ht]; exact hP, hK.warm hW, hD⟩, hS.F ht⟩) hS.2.2 dX12_common__17
  · have q9 := mm_eqIl (lo := 0) (hi := 0) (mm_cmp_eq ev1 c2) h1 mm_kl0 (by decide)
    refine lv_lload_n hx hb dX12_common__6 rfl (lv_at hl 0 rfl) ?_
    refine lv_goto (tgt := 17) hx hb dX12_common__7 (by decide) ?_
    subst hAe
    rw [hQ]
    exact W.lret (v := j_0) hx hb hr (fun t ht hW => ⟨⟨j_0, (), rfl, (mm_wkl h0 (by decide)), by rw [ht]; exact hP, hK.warm hW, hD⟩, hS.F ht⟩) hS.2.2 dX12_common__17

set_option maxHeartbeats 4000000 in
set_option maxRecDepth 100000 in
theorem M168_X12_common_ (l : Launch) (G : va_G) (cy : Nat → ClassId) (sz : Nat) (j_0 : Int64) (j_1 : Int64) (h0 : mm_rl j_0 1 4611686018427387904) (h1 : mm_rl j_1 0 31)  : mm_CL l yX12_common_ (mm_ws yX12_common_ cX12_common_ 4 (some .long)) ({ frames := 9, cells := 0, slots := 0, locals := 207 } : Room) G cy sz [] [.long j_0, .long j_1] (fun u : Unit => []) (fun (r : Int64) (u : Unit) => mm_rl r 1 4611686018427387904) 0 0 := by
  refine mm_begin (lv := [(0, .long j_0), (2, .long j_1)]) (by decide) (Nat.le_of_ble_eq_true rfl) rfl ?_
  intro p e s m below meth c A ls R args Q H locs hRe hQ hAe hx hb hr hlocks hml hown hnm hts hsz hA hS hP hK hD hZ hl
  have hRf : R.frames = 9 := by rw [hRe]
  have hRl : R.locals = 207 := by rw [hRe]
  have hRc : R.cells = 0 := by rw [hRe]
  have hRs : R.slots = 0 := by rw [hRe]
  refine lv_lload_n hx hb dX12_common__0 rfl (lv_at hl 1 rfl) ?_
  refine lv_lconst (v := 0) hx hb dX12_common__1 (by decide) ?_
  refine W.lcmp hx hb dX12_common__2 ?_
  refine lv_topi (fun v1 ev1 => ?_)
  refine lv_if_ne (tgt := 10) hx hb dX12_common__3 (by decide) (fun c2 => ?_) (fun c2 => ?_)
  · have q3 := mm_neLl (lo := 1) (mm_cmp_ne ev1 c2) h1 mm_kl0 (by decide) (by decide)
    refine lv_lload_n hx hb dX12_common__10 rfl (lv_at hl 1 rfl) ?_
    refine lv_lload_n hx hb dX12_common__11 rfl (lv_at hl 0 rfl) ?_
    refine lv_lload_n hx hb dX12_common__12 rfl (lv_at hl 1 rfl) ?_
    refine lv_lrem hx hb dX12_common__13 (mm_nzl q3 (by decide)) ?_
    refine lv_topl (fun v4 ev4 => ?_)
    have rv4 : mm_rl v4 0 30 := mm_reml ev4 h0 q3 (by decide) (by decide)
    have w5 := mm_remlLt ev4 h0 q3 (by decide)
    refine mm_finlr (va_runS (As := [.long j_1, .long v4]) (rest := []) ⟨hx, hb, hml, hown, hts⟩ (M167_X12_common_ l G cy H.size j_1 v4 q3 rv4 w5) (va_cwS 2 hts (mm_gS mm_w1043 mm_w1044 mm_w5 mm_w1045) rfl rfl rfl hs_X12_common_ ⟨by rw [hRf]; exact Nat.le_of_ble_eq_true rfl, by rw [hRl]; exact Nat.le_of_ble_eq_true rfl⟩) (mm_preS hK hZ hS hA hP hD [] rfl rfl) rfl rfl hl.1 rfl (lv_room (Nat.le_of_ble_eq_true rfl)) dX12_common__14 ⟨by rw [hRc]; exact Nat.le_of_ble_eq_true rfl, by rw [hRs]; exact Nat.le_of_ble_eq_true rfl⟩) hP hD hS hA [] rfl (fun _ => rfl) ?_
    clear hP hD hS
    clear H locs
    intro v6 _u H locs hw hP hD hS
    have w7 := hw
    subst hAe
    rw [hQ]
    exact W.lret (v := v6) hx hb hr (fun t ht hW => ⟨⟨v6, (), rfl, w7, by rw [ht]; exact hP, hK.warm hW, hD⟩, hS.F ht⟩) hS.2.2 dX12_common__17
  · have q8 := mm_eqIl (lo := 0) (hi := 0) (mm_cmp_eq ev1 c2) h1 mm_kl0 (by decide)
    refine lv_lload_n hx hb dX12_common__6 rfl (lv_at hl 0 rfl) ?_
    refine lv_goto (tgt := 17) hx hb dX12_common__7 (by decide) ?_
    subst hAe
    rw [hQ]
    exact W.lret (v := j_0) hx hb hr (fun t ht hW => ⟨⟨j_0, (), rfl, h0, by rw [ht]; exact hP, hK.warm hW, hD⟩, hS.F ht⟩) hS.2.2 dX12_common__17

set_option maxHeartbeats 4000000 in
set_option maxRecDepth 100000 in
theorem M169_X12_common_ (l : Launch) (G : va_G) (cy : Nat → ClassId) (sz : Nat) (j_0 : Int64) (j_1 : Int64) (h0 : mm_rl j_0 1 63) (h1 : mm_rl j_1 0 62) (h2 : (j_1 : Int64).toInt < (j_0 : Int64).toInt)  : mm_CL l yX12_common_ (mm_ws yX12_common_ cX12_common_ 4 (some .long)) ({ frames := 10, cells := 0, slots := 0, locals := 230 } : Room) G cy sz [] [.long j_0, .long j_1] (fun u : Unit => []) (fun (r : Int64) (u : Unit) => mm_rl r 1 4611686018427387904) 0 0 := by
  refine mm_begin (lv := [(0, .long j_0), (2, .long j_1)]) (by decide) (Nat.le_of_ble_eq_true rfl) rfl ?_
  intro p e s m below meth c A ls R args Q H locs hRe hQ hAe hx hb hr hlocks hml hown hnm hts hsz hA hS hP hK hD hZ hl
  have hRf : R.frames = 10 := by rw [hRe]
  have hRl : R.locals = 230 := by rw [hRe]
  have hRc : R.cells = 0 := by rw [hRe]
  have hRs : R.slots = 0 := by rw [hRe]
  refine lv_lload_n hx hb dX12_common__0 rfl (lv_at hl 1 rfl) ?_
  refine lv_lconst (v := 0) hx hb dX12_common__1 (by decide) ?_
  refine W.lcmp hx hb dX12_common__2 ?_
  refine lv_topi (fun v1 ev1 => ?_)
  refine lv_if_ne (tgt := 10) hx hb dX12_common__3 (by decide) (fun c2 => ?_) (fun c2 => ?_)
  · have q3 := mm_neLl (lo := 1) (mm_cmp_ne ev1 c2) h1 mm_kl0 (by decide) (by decide)
    refine lv_lload_n hx hb dX12_common__10 rfl (lv_at hl 1 rfl) ?_
    refine lv_lload_n hx hb dX12_common__11 rfl (lv_at hl 0 rfl) ?_
    refine lv_lload_n hx hb dX12_common__12 rfl (lv_at hl 1 rfl) ?_
    refine lv_lrem hx hb dX12_common__13 (mm_nzl q3 (by decide)) ?_
    refine lv_topl (fun v4 ev4 => ?_)
    have rv4 : mm_rl v4 0 61 := mm_reml ev4 h0 q3 (by decide) (by decide)
    have w5 := mm_remlLt ev4 h0 q3 (by decide)
    have q6 : mm_rl v4 0 31 := mm_remlHalf ev4 (Int.le_of_lt h2) h0 q3 (by decide)
    refine mm_finlr (va_runS (As := [.long j_1, .long v4]) (rest := []) ⟨hx, hb, hml, hown, hts⟩ (M168_X12_common_ l G cy H.size j_1 v4 (mm_wkl q3 (by decide)) q6) (va_cwS 2 hts (mm_gS mm_w1043 mm_w1044 mm_w5 mm_w1045) rfl rfl rfl hs_X12_common_ ⟨by rw [hRf]; exact Nat.le_of_ble_eq_true rfl, by rw [hRl]; exact Nat.le_of_ble_eq_true rfl⟩) (mm_preS hK hZ hS hA hP hD [] rfl rfl) rfl rfl hl.1 rfl (lv_room (Nat.le_of_ble_eq_true rfl)) dX12_common__14 ⟨by rw [hRc]; exact Nat.le_of_ble_eq_true rfl, by rw [hRs]; exact Nat.le_of_ble_eq_true rfl⟩) hP hD hS hA [] rfl (fun _ => rfl) ?_
    clear hP hD hS
    clear H locs
    intro v7 _u H locs hw hP hD hS
    have w8 := hw
    subst hAe
    rw [hQ]
    exact W.lret (v := v7) hx hb hr (fun t ht hW => ⟨⟨v7, (), rfl, w8, by rw [ht]; exact hP, hK.warm hW, hD⟩, hS.F ht⟩) hS.2.2 dX12_common__17
  · have q9 := mm_eqIl (lo := 0) (hi := 0) (mm_cmp_eq ev1 c2) h1 mm_kl0 (by decide)
    refine lv_lload_n hx hb dX12_common__6 rfl (lv_at hl 0 rfl) ?_
    refine lv_goto (tgt := 17) hx hb dX12_common__7 (by decide) ?_
    subst hAe
    rw [hQ]
    exact W.lret (v := j_0) hx hb hr (fun t ht hW => ⟨⟨j_0, (), rfl, (mm_wkl h0 (by decide)), by rw [ht]; exact hP, hK.warm hW, hD⟩, hS.F ht⟩) hS.2.2 dX12_common__17

set_option maxHeartbeats 4000000 in
set_option maxRecDepth 100000 in
theorem M170_X12_common_ (l : Launch) (G : va_G) (cy : Nat → ClassId) (sz : Nat) (j_0 : Int64) (j_1 : Int64) (h0 : mm_rl j_0 1 4611686018427387904) (h1 : mm_rl j_1 0 63)  : mm_CL l yX12_common_ (mm_ws yX12_common_ cX12_common_ 4 (some .long)) ({ frames := 11, cells := 0, slots := 0, locals := 253 } : Room) G cy sz [] [.long j_0, .long j_1] (fun u : Unit => []) (fun (r : Int64) (u : Unit) => mm_rl r 1 4611686018427387904) 0 0 := by
  refine mm_begin (lv := [(0, .long j_0), (2, .long j_1)]) (by decide) (Nat.le_of_ble_eq_true rfl) rfl ?_
  intro p e s m below meth c A ls R args Q H locs hRe hQ hAe hx hb hr hlocks hml hown hnm hts hsz hA hS hP hK hD hZ hl
  have hRf : R.frames = 11 := by rw [hRe]
  have hRl : R.locals = 253 := by rw [hRe]
  have hRc : R.cells = 0 := by rw [hRe]
  have hRs : R.slots = 0 := by rw [hRe]
  refine lv_lload_n hx hb dX12_common__0 rfl (lv_at hl 1 rfl) ?_
  refine lv_lconst (v := 0) hx hb dX12_common__1 (by decide) ?_
  refine W.lcmp hx hb dX12_common__2 ?_
  refine lv_topi (fun v1 ev1 => ?_)
  refine lv_if_ne (tgt := 10) hx hb dX12_common__3 (by decide) (fun c2 => ?_) (fun c2 => ?_)
  · have q3 := mm_neLl (lo := 1) (mm_cmp_ne ev1 c2) h1 mm_kl0 (by decide) (by decide)
    refine lv_lload_n hx hb dX12_common__10 rfl (lv_at hl 1 rfl) ?_
    refine lv_lload_n hx hb dX12_common__11 rfl (lv_at hl 0 rfl) ?_
    refine lv_lload_n hx hb dX12_common__12 rfl (lv_at hl 1 rfl) ?_
    refine lv_lrem hx hb dX12_common__13 (mm_nzl q3 (by decide)) ?_
    refine lv_topl (fun v4 ev4 => ?_)
    have rv4 : mm_rl v4 0 62 := mm_reml ev4 h0 q3 (by decide) (by decide)
    have w5 := mm_remlLt ev4 h0 q3 (by decide)
    refine mm_finlr (va_runS (As := [.long j_1, .long v4]) (rest := []) ⟨hx, hb, hml, hown, hts⟩ (M169_X12_common_ l G cy H.size j_1 v4 q3 rv4 w5) (va_cwS 2 hts (mm_gS mm_w1043 mm_w1044 mm_w5 mm_w1045) rfl rfl rfl hs_X12_common_ ⟨by rw [hRf]; exact Nat.le_of_ble_eq_true rfl, by rw [hRl]; exact Nat.le_of_ble_eq_true rfl⟩) (mm_preS hK hZ hS hA hP hD [] rfl rfl) rfl rfl hl.1 rfl (lv_room (Nat.le_of_ble_eq_true rfl)) dX12_common__14 ⟨by rw [hRc]; exact Nat.le_of_ble_eq_true rfl, by rw [hRs]; exact Nat.le_of_ble_eq_true rfl⟩) hP hD hS hA [] rfl (fun _ => rfl) ?_
    clear hP hD hS
    clear H locs
    intro v6 _u H locs hw hP hD hS
    have w7 := hw
    subst hAe
    rw [hQ]
    exact W.lret (v := v6) hx hb hr (fun t ht hW => ⟨⟨v6, (), rfl, w7, by rw [ht]; exact hP, hK.warm hW, hD⟩, hS.F ht⟩) hS.2.2 dX12_common__17
  · have q8 := mm_eqIl (lo := 0) (hi := 0) (mm_cmp_eq ev1 c2) h1 mm_kl0 (by decide)
    refine lv_lload_n hx hb dX12_common__6 rfl (lv_at hl 0 rfl) ?_
    refine lv_goto (tgt := 17) hx hb dX12_common__7 (by decide) ?_
    subst hAe
    rw [hQ]
    exact W.lret (v := j_0) hx hb hr (fun t ht hW => ⟨⟨j_0, (), rfl, h0, by rw [ht]; exact hP, hK.warm hW, hD⟩, hS.F ht⟩) hS.2.2 dX12_common__17

set_option maxHeartbeats 4000000 in
set_option maxRecDepth 100000 in
theorem M171_X12_common_ (l : Launch) (G : va_G) (cy : Nat → ClassId) (sz : Nat) (j_0 : Int64) (j_1 : Int64) (h0 : mm_rl j_0 1 127) (h1 : mm_rl j_1 0 126) (h2 : (j_1 : Int64).toInt < (j_0 : Int64).toInt)  : mm_CL l yX12_common_ (mm_ws yX12_common_ cX12_common_ 4 (some .long)) ({ frames := 12, cells := 0, slots := 0, locals := 276 } : Room) G cy sz [] [.long j_0, .long j_1] (fun u : Unit => []) (fun (r : Int64) (u : Unit) => mm_rl r 1 4611686018427387904) 0 0 := by
  refine mm_begin (lv := [(0, .long j_0), (2, .long j_1)]) (by decide) (Nat.le_of_ble_eq_true rfl) rfl ?_
  intro p e s m below meth c A ls R args Q H locs hRe hQ hAe hx hb hr hlocks hml hown hnm hts hsz hA hS hP hK hD hZ hl
  have hRf : R.frames = 12 := by rw [hRe]
  have hRl : R.locals = 276 := by rw [hRe]
  have hRc : R.cells = 0 := by rw [hRe]
  have hRs : R.slots = 0 := by rw [hRe]
  refine lv_lload_n hx hb dX12_common__0 rfl (lv_at hl 1 rfl) ?_
  refine lv_lconst (v := 0) hx hb dX12_common__1 (by decide) ?_
  refine W.lcmp hx hb dX12_common__2 ?_
  refine lv_topi (fun v1 ev1 => ?_)
  refine lv_if_ne (tgt := 10) hx hb dX12_common__3 (by decide) (fun c2 => ?_) (fun c2 => ?_)
  · have q3 := mm_neLl (lo := 1) (mm_cmp_ne ev1 c2) h1 mm_kl0 (by decide) (by decide)
    refine lv_lload_n hx hb dX12_common__10 rfl (lv_at hl 1 rfl) ?_
    refine lv_lload_n hx hb dX12_common__11 rfl (lv_at hl 0 rfl) ?_
    refine lv_lload_n hx hb dX12_common__12 rfl (lv_at hl 1 rfl) ?_
    refine lv_lrem hx hb dX12_common__13 (mm_nzl q3 (by decide)) ?_
    refine lv_topl (fun v4 ev4 => ?_)
    have rv4 : mm_rl v4 0 125 := mm_reml ev4 h0 q3 (by decide) (by decide)
    have w5 := mm_remlLt ev4 h0 q3 (by decide)
    have q6 : mm_rl v4 0 63 := mm_remlHalf ev4 (Int.le_of_lt h2) h0 q3 (by decide)
    refine mm_finlr (va_runS (As := [.long j_1, .long v4]) (rest := []) ⟨hx, hb, hml, hown, hts⟩ (M170_X12_common_ l G cy H.size j_1 v4 (mm_wkl q3 (by decide)) q6) (va_cwS 2 hts (mm_gS mm_w1043 mm_w1044 mm_w5 mm_w1045) rfl rfl rfl hs_X12_common_ ⟨by rw [hRf]; exact Nat.le_of_ble_eq_true rfl, by rw [hRl]; exact Nat.le_of_ble_eq_true rfl⟩) (mm_preS hK hZ hS hA hP hD [] rfl rfl) rfl rfl hl.1 rfl (lv_room (Nat.le_of_ble_eq_true rfl)) dX12_common__14 ⟨by rw [hRc]; exact Nat.le_of_ble_eq_true rfl, by rw [hRs]; exact Nat.le_of_ble_eq_true rfl⟩) hP hD hS hA [] rfl (fun _ => rfl) ?_
    clear hP hD hS
    clear H locs
    intro v7 _u H locs hw hP hD hS
    have w8 := hw
    subst hAe
    rw [hQ]
    exact W.lret (v := v7) hx hb hr (fun t ht hW => ⟨⟨v7, (), rfl, w8, by rw [ht]; exact hP, hK.warm hW, hD⟩, hS.F ht⟩) hS.2.2 dX12_common__17
  · have q9 := mm_eqIl (lo := 0) (hi := 0) (mm_cmp_eq ev1 c2) h1 mm_kl0 (by decide)
    refine lv_lload_n hx hb dX12_common__6 rfl (lv_at hl 0 rfl) ?_
    refine lv_goto (tgt := 17) hx hb dX12_common__7 (by decide) ?_
    subst hAe
    rw [hQ]
    exact W.lret (v := j_0) hx hb hr (fun t ht hW => ⟨⟨j_0, (), rfl, (mm_wkl h0 (by decide)), by rw [ht]; exact hP, hK.warm hW, hD⟩, hS.F ht⟩) hS.2.2 dX12_common__17

set_option maxHeartbeats 4000000 in
set_option maxRecDepth 100000 in
theorem M172_X12_common_ (l : Launch) (G : va_G) (cy : Nat → ClassId) (sz : Nat) (j_0 : Int64) (j_1 : Int64) (h0 : mm_rl j_0 1 4611686018427387904) (h1 : mm_rl j_1 0 127)  : mm_CL l yX12_common_ (mm_ws yX12_common_ cX12_common_ 4 (some .long)) ({ frames := 13, cells := 0, slots := 0, locals := 299 } : Room) G cy sz [] [.long j_0, .long j_1] (fun u : Unit => []) (fun (r : Int64) (u : Unit) => mm_rl r 1 4611686018427387904) 0 0 := by
  refine mm_begin (lv := [(0, .long j_0), (2, .long j_1)]) (by decide) (Nat.le_of_ble_eq_true rfl) rfl ?_
  intro p e s m below meth c A ls R args Q H locs hRe hQ hAe hx hb hr hlocks hml hown hnm hts hsz hA hS hP hK hD hZ hl
  have hRf : R.frames = 13 := by rw [hRe]
  have hRl : R.locals = 299 := by rw [hRe]
  have hRc : R.cells = 0 := by rw [hRe]
  have hRs : R.slots = 0 := by rw [hRe]
  refine lv_lload_n hx hb dX12_common__0 rfl (lv_at hl 1 rfl) ?_
  refine lv_lconst (v := 0) hx hb dX12_common__1 (by decide) ?_
  refine W.lcmp hx hb dX12_common__2 ?_
  refine lv_topi (fun v1 ev1 => ?_)
  refine lv_if_ne (tgt := 10) hx hb dX12_common__3 (by decide) (fun c2 => ?_) (fun c2 => ?_)
  · have q3 := mm_neLl (lo := 1) (mm_cmp_ne ev1 c2) h1 mm_kl0 (by decide) (by decide)
    refine lv_lload_n hx hb dX12_common__10 rfl (lv_at hl 1 rfl) ?_
    refine lv_lload_n hx hb dX12_common__11 rfl (lv_at hl 0 rfl) ?_
    refine lv_lload_n hx hb dX12_common__12 rfl (lv_at hl 1 rfl) ?_
    refine lv_lrem hx hb dX12_common__13 (mm_nzl q3 (by decide)) ?_
    refine lv_topl (fun v4 ev4 => ?_)
    have rv4 : mm_rl v4 0 126 := mm_reml ev4 h0 q3 (by decide) (by decide)
    have w5 := mm_remlLt ev4 h0 q3 (by decide)
    refine mm_finlr (va_runS (As := [.long j_1, .long v4]) (rest := []) ⟨hx, hb, hml, hown, hts⟩ (M171_X12_common_ l G cy H.size j_1 v4 q3 rv4 w5) (va_cwS 2 hts (mm_gS mm_w1043 mm_w1044 mm_w5 mm_w1045) rfl rfl rfl hs_X12_common_ ⟨by rw [hRf]; exact Nat.le_of_ble_eq_true rfl, by rw [hRl]; exact Nat.le_of_ble_eq_true rfl⟩) (mm_preS hK hZ hS hA hP hD [] rfl rfl) rfl rfl hl.1 rfl (lv_room (Nat.le_of_ble_eq_true rfl)) dX12_common__14 ⟨by rw [hRc]; exact Nat.le_of_ble_eq_true rfl, by rw [hRs]; exact Nat.le_of_ble_eq_true rfl⟩) hP hD hS hA [] rfl (fun _ => rfl) ?_
    clear hP hD hS
    clear H locs
    intro v6 _u H locs hw hP hD hS
    have w7 := hw
    subst hAe
    rw [hQ]
    exact W.lret (v := v6) hx hb hr (fun t ht hW => ⟨⟨v6, (), rfl, w7, by rw [ht]; exact hP, hK.warm hW, hD⟩, hS.F ht⟩) hS.2.2 dX12_common__17
  · have q8 := mm_eqIl (lo := 0) (hi := 0) (mm_cmp_eq ev1 c2) h1 mm_kl0 (by decide)
    refine lv_lload_n hx hb dX12_common__6 rfl (lv_at hl 0 rfl) ?_
    refine lv_goto (tgt := 17) hx hb dX12_common__7 (by decide) ?_
    subst hAe
    rw [hQ]
    exact W.lret (v := j_0) hx hb hr (fun t ht hW => ⟨⟨j_0, (), rfl, h0, by rw [ht]; exact hP, hK.warm hW, hD⟩, hS.F ht⟩) hS.2.2 dX12_common__17

set_option maxHeartbeats 4000000 in
set_option maxRecDepth 100000 in
theorem M173_X12_common_ (l : Launch) (G : va_G) (cy : Nat → ClassId) (sz : Nat) (j_0 : Int64) (j_1 : Int64) (h0 : mm_rl j_0 1 255) (h1 : mm_rl j_1 0 254) (h2 : (j_1 : Int64).toInt < (j_0 : Int64).toInt)  : mm_CL l yX12_common_ (mm_ws yX12_common_ cX12_common_ 4 (some .long)) ({ frames := 14, cells := 0, slots := 0, locals := 322 } : Room) G cy sz [] [.long j_0, .long j_1] (fun u : Unit => []) (fun (r : Int64) (u : Unit) => mm_rl r 1 4611686018427387904) 0 0 := by
  refine mm_begin (lv := [(0, .long j_0), (2, .long j_1)]) (by decide) (Nat.le_of_ble_eq_true rfl) rfl ?_
  intro p e s m below meth c A ls R args Q H locs hRe hQ hAe hx hb hr hlocks hml hown hnm hts hsz hA hS hP hK hD hZ hl
  have hRf : R.frames = 14 := by rw [hRe]
  have hRl : R.locals = 322 := by rw [hRe]
  have hRc : R.cells = 0 := by rw [hRe]
  have hRs : R.slots = 0 := by rw [hRe]
  refine lv_lload_n hx hb dX12_common__0 rfl (lv_at hl 1 rfl) ?_
  refine lv_lconst (v := 0) hx hb dX12_common__1 (by decide) ?_
  refine W.lcmp hx hb dX12_common__2 ?_
  refine lv_topi (fun v1 ev1 => ?_)
  refine lv_if_ne (tgt := 10) hx hb dX12_common__3 (by decide) (fun c2 => ?_) (fun c2 => ?_)
  · have q3 := mm_neLl (lo := 1) (mm_cmp_ne ev1 c2) h1 mm_kl0 (by decide) (by decide)
    refine lv_lload_n hx hb dX12_common__10 rfl (lv_at hl 1 rfl) ?_
    refine lv_lload_n hx hb dX12_common__11 rfl (lv_at hl 0 rfl) ?_
    refine lv_lload_n hx hb dX12_common__12 rfl (lv_at hl 1 rfl) ?_
    refine lv_lrem hx hb dX12_common__13 (mm_nzl q3 (by decide)) ?_
    refine lv_topl (fun v4 ev4 => ?_)
    have rv4 : mm_rl v4 0 253 := mm_reml ev4 h0 q3 (by decide) (by decide)
    have w5 := mm_remlLt ev4 h0 q3 (by decide)
    have q6 : mm_rl v4 0 127 := mm_remlHalf ev4 (Int.le_of_lt h2) h0 q3 (by decide)
    refine mm_finlr (va_runS (As := [.long j_1, .long v4]) (rest := []) ⟨hx, hb, hml, hown, hts⟩ (M172_X12_common_ l G cy H.size j_1 v4 (mm_wkl q3 (by decide)) q6) (va_cwS 2 hts (mm_gS mm_w1043 mm_w1044 mm_w5 mm_w1045) rfl rfl rfl hs_X12_common_ ⟨by rw [hRf]; exact Nat.le_of_ble_eq_true rfl, by rw [hRl]; exact Nat.le_of_ble_eq_true rfl⟩) (mm_preS hK hZ hS hA hP hD [] rfl rfl) rfl rfl hl.1 rfl (lv_room (Nat.le_of_ble_eq_true rfl)) dX12_common__14 ⟨by rw [hRc]; exact Nat.le_of_ble_eq_true rfl, by rw [hRs]; exact Nat.le_of_ble_eq_true rfl⟩) hP hD hS hA [] rfl (fun _ => rfl) ?_
    clear hP hD hS
    clear H locs
    intro v7 _u H locs hw hP hD hS
    have w8 := hw
    subst hAe
    rw [hQ]
    exact W.lret (v := v7) hx hb hr (fun t ht hW => ⟨⟨v7, (), rfl, w8, by rw [ht]; exact hP, hK.warm hW, hD⟩, hS.F ht⟩) hS.2.2 dX12_common__17
  · have q9 := mm_eqIl (lo := 0) (hi := 0) (mm_cmp_eq ev1 c2) h1 mm_kl0 (by decide)
    refine lv_lload_n hx hb dX12_common__6 rfl (lv_at hl 0 rfl) ?_
    refine lv_goto (tgt := 17) hx hb dX12_common__7 (by decide) ?_
    subst hAe
    rw [hQ]
    exact W.lret (v := j_0) hx hb hr (fun t ht hW => ⟨⟨j_0, (), rfl, (mm_wkl h0 (by decide)), by rw [ht]; exact hP, hK.warm hW, hD⟩, hS.F ht⟩) hS.2.2 dX12_common__17

set_option maxHeartbeats 4000000 in
set_option maxRecDepth 100000 in
theorem M174_X12_common_ (l : Launch) (G : va_G) (cy : Nat → ClassId) (sz : Nat) (j_0 : Int64) (j_1 : Int64) (h0 : mm_rl j_0 0 4611686018427387904) (h1 : mm_rl j_1 1 255)  : mm_CL l yX12_common_ (mm_ws yX12_common_ cX12_common_ 4 (some .long)) ({ frames := 15, cells := 0, slots := 0, locals := 345 } : Room) G cy sz [] [.long j_0, .long j_1] (fun u : Unit => []) (fun (r : Int64) (u : Unit) => mm_rl r 1 4611686018427387904) 0 0 := by
  refine mm_begin (lv := [(0, .long j_0), (2, .long j_1)]) (by decide) (Nat.le_of_ble_eq_true rfl) rfl ?_
  intro p e s m below meth c A ls R args Q H locs hRe hQ hAe hx hb hr hlocks hml hown hnm hts hsz hA hS hP hK hD hZ hl
  have hRf : R.frames = 15 := by rw [hRe]
  have hRl : R.locals = 345 := by rw [hRe]
  have hRc : R.cells = 0 := by rw [hRe]
  have hRs : R.slots = 0 := by rw [hRe]
  refine lv_lload_n hx hb dX12_common__0 rfl (lv_at hl 1 rfl) ?_
  refine lv_lconst (v := 0) hx hb dX12_common__1 (by decide) ?_
  refine W.lcmp hx hb dX12_common__2 ?_
  refine lv_topi (fun v1 ev1 => ?_)
  refine lv_if_ne (tgt := 10) hx hb dX12_common__3 (by decide) (fun c2 => ?_) (fun c2 => ?_)
  · refine lv_lload_n hx hb dX12_common__10 rfl (lv_at hl 1 rfl) ?_
    refine lv_lload_n hx hb dX12_common__11 rfl (lv_at hl 0 rfl) ?_
    refine lv_lload_n hx hb dX12_common__12 rfl (lv_at hl 1 rfl) ?_
    refine lv_lrem hx hb dX12_common__13 (mm_nzl h1 (by decide)) ?_
    refine lv_topl (fun v3 ev3 => ?_)
    have rv3 : mm_rl v3 0 254 := mm_reml ev3 h0 h1 (by decide) (by decide)
    have w4 := mm_remlLt ev3 h0 h1 (by decide)
    refine mm_finlr (va_runS (As := [.long j_1, .long v3]) (rest := []) ⟨hx, hb, hml, hown, hts⟩ (M173_X12_common_ l G cy H.size j_1 v3 h1 rv3 w4) (va_cwS 2 hts (mm_gS mm_w1043 mm_w1044 mm_w5 mm_w1045) rfl rfl rfl hs_X12_common_ ⟨by rw [hRf]; exact Nat.le_of_ble_eq_true rfl, by rw [hRl]; exact Nat.le_of_ble_eq_true rfl⟩) (mm_preS hK hZ hS hA hP hD [] rfl rfl) rfl rfl hl.1 rfl (lv_room (Nat.le_of_ble_eq_true rfl)) dX12_common__14 ⟨by rw [hRc]; exact Nat.le_of_ble_eq_true rfl, by rw [hRs]; exact Nat.le_of_ble_eq_true rfl⟩) hP hD hS hA [] rfl (fun _ => rfl) ?_
    clear hP hD hS
    clear H locs
    intro v5 _u H locs hw hP hD hS
    have w6 := hw
    subst hAe
    rw [hQ]
    exact W.lret (v := v5) hx hb hr (fun t ht hW => ⟨⟨v5, (), rfl, w6, by rw [ht]; exact hP, hK.warm hW, hD⟩, hS.F ht⟩) hS.2.2 dX12_common__17
  · exact mm_eqNl (mm_cmp_eq ev1 c2).symm mm_kl0 h1 (by decide)

set_option maxHeartbeats 4000000 in
set_option maxRecDepth 100000 in
theorem M175_X12_part (l : Launch) (G : va_G) (cy : Nat → ClassId) (sz : Nat) (j_0 : Int64) (j_1 : Int64) (i_0 : Int32) (h0 : mm_rl j_0 0 4611686018427387904) (h1 : mm_rl j_1 1 210) (h2 : mm_rg i_0 0 1)  : mm_CL l yX12_part (mm_ws yX12_part cX12_part 5 (some .long)) ({ frames := 16, cells := 0, slots := 0, locals := 368 } : Room) G cy sz [] [.long j_0, .long j_1, .int i_0] (fun u : Unit => []) (fun (r : Int64) (u : Unit) => mm_rl r 0 4611686018427387904) 0 0 := by
  refine mm_begin (lv := [(0, .long j_0), (2, .long j_1), (4, .int i_0)]) (by decide) (Nat.le_of_ble_eq_true rfl) rfl ?_
  intro p e s m below meth c A ls R args Q H locs hRe hQ hAe hx hb hr hlocks hml hown hnm hts hsz hA hS hP hK hD hZ hl
  have hRf : R.frames = 16 := by rw [hRe]
  have hRl : R.locals = 368 := by rw [hRe]
  have hRc : R.cells = 0 := by rw [hRe]
  have hRs : R.slots = 0 := by rw [hRe]
  refine lv_iload hx hb dX12_part_0 (lv_at hl 2 rfl) ?_
  refine lv_if_ne (tgt := 9) hx hb dX12_part_2 (by decide) (fun c1 => ?_) (fun c1 => ?_)
  · have q2 := mm_neL (lo := 1) (mm_ne c1) h2 mm_k0 (by decide) (by decide)
    refine lv_lload_n hx hb dX12_part_9 rfl (lv_at hl 1 rfl) ?_
    refine lv_lload_n hx hb dX12_part_10 rfl (lv_at hl 0 rfl) ?_
    refine lv_lload_n hx hb dX12_part_11 rfl (lv_at hl 1 rfl) ?_
    refine mm_finlr (va_runS (As := [.long j_0, .long j_1]) (rest := [.long j_1]) ⟨hx, hb, hml, hown, hts⟩ (M174_X12_common_ l G cy H.size j_0 j_1 h0 (mm_wkl h1 (by decide))) (va_cwS 2 hts (mm_gS mm_w1043 mm_w1044 mm_w5 mm_w1045) rfl rfl rfl hs_X12_common_ ⟨by rw [hRf]; exact Nat.le_of_ble_eq_true rfl, by rw [hRl]; exact Nat.le_of_ble_eq_true rfl⟩) (mm_preS hK hZ hS hA hP hD [] rfl rfl) rfl rfl hl.1 rfl (lv_room (Nat.le_of_ble_eq_true rfl)) dX12_part_12 ⟨by rw [hRc]; exact Nat.le_of_ble_eq_true rfl, by rw [hRs]; exact Nat.le_of_ble_eq_true rfl⟩) hP hD hS hA [] rfl (fun _ => rfl) ?_
    clear hP hD hS
    clear H locs
    intro v3 _u H locs hw hP hD hS
    have w4 := hw
    refine lv_ldiv hx hb dX12_part_15 (mm_nzl w4 (by decide)) ?_
    refine lv_topl (fun v5 ev5 => ?_)
    have rv5 : mm_rl v5 0 210 := mm_divl ev5 h1 w4 (by decide) (by decide)
    subst hAe
    rw [hQ]
    exact W.lret (v := v5) hx hb hr (fun t ht hW => ⟨⟨v5, (), rfl, (mm_wkl rv5 (by decide)), by rw [ht]; exact hP, hK.warm hW, hD⟩, hS.F ht⟩) hS.2.2 dX12_part_16
  · have q6 := mm_eqI (lo := 0) (hi := 0) c1 h2 mm_k0 (by decide)
    refine lv_lload_n hx hb dX12_part_5 rfl (lv_at hl 0 rfl) ?_
    refine lv_goto (tgt := 10) hx hb dX12_part_6 (by decide) ?_
    refine lv_lload_n hx hb dX12_part_10 rfl (lv_at hl 0 rfl) ?_
    refine lv_lload_n hx hb dX12_part_11 rfl (lv_at hl 1 rfl) ?_
    refine mm_finlr (va_runS (As := [.long j_0, .long j_1]) (rest := [.long j_0]) ⟨hx, hb, hml, hown, hts⟩ (M174_X12_common_ l G cy H.size j_0 j_1 h0 (mm_wkl h1 (by decide))) (va_cwS 2 hts (mm_gS mm_w1043 mm_w1044 mm_w5 mm_w1045) rfl rfl rfl hs_X12_common_ ⟨by rw [hRf]; exact Nat.le_of_ble_eq_true rfl, by rw [hRl]; exact Nat.le_of_ble_eq_true rfl⟩) (mm_preS hK hZ hS hA hP hD [] rfl rfl) rfl rfl hl.1 rfl (lv_room (Nat.le_of_ble_eq_true rfl)) dX12_part_12 ⟨by rw [hRc]; exact Nat.le_of_ble_eq_true rfl, by rw [hRs]; exact Nat.le_of_ble_eq_true rfl⟩) hP hD hS hA [] rfl (fun _ => rfl) ?_
    clear hP hD hS
    clear H locs
    intro v7 _u H locs hw hP hD hS
    have w8 := hw
    refine lv_ldiv hx hb dX12_part_15 (mm_nzl w8 (by decide)) ?_
    refine lv_topl (fun v9 ev9 => ?_)
    have rv9 : mm_rl v9 0 4611686018427387904 := mm_divl ev9 h0 w8 (by decide) (by decide)
    subst hAe
    rw [hQ]
    exact W.lret (v := v9) hx hb hr (fun t ht hW => ⟨⟨v9, (), rfl, rv9, by rw [ht]; exact hP, hK.warm hW, hD⟩, hS.F ht⟩) hS.2.2 dX12_part_16

set_option maxHeartbeats 4000000 in
set_option maxRecDepth 100000 in
theorem M176_X12_average (l : Launch) (G : va_G) (cy : Nat → ClassId) (sz : Nat) (a_0 : Nat) (i_0 : Int32) (i_1 : Int32) (i_2 : Int32) (i_3 : Int32) (a_1 : Nat) (a_2 : Nat) (a_3 : Nat) (a_4 : Nat) (a_5 : Nat) (i_4 : Int32) (i_5 : Int32) (i_6 : Int32) (i_7 : Int32) (i_8 : Int32) (j_0 : Int64) (i_9 : Int32) (i_10 : Int32) (i_11 : Int32) (i_12 : Int32) (a_6 : Nat) (a_7 : Nat) (a_8 : Nat) (a_9 : Nat) (a_10 : Nat) (a_11 : Nat) (a_12 : Nat) (a_13 : Nat) (a_14 : Nat) (a_15 : Nat) (a_16 : Nat) (a_17 : Nat) (a_18 : Nat) (i_13 : Int32) (i_14 : Int32) (i_15 : Int32) (i_16 : Int32) (i_17 : Int32) (i_18 : Int32) (a_19 : Nat) (i_19 : Int32) (a_20 : Nat) (i_20 : Int32) (i_21 : Int32) (i_22 : Int32) (i_23 : Int32) (i_24 : Int32) (i_25 : Int32) (i_26 : Int32) (i_27 : Int32) (i_28 : Int32) (i_29 : Int32) (i_30 : Int32) (i_31 : Int32) (i_32 : Int32) (i_33 : Int32) (i_34 : Int32) (i_35 : Int32) (i_36 : Int32) (i_37 : Int32) (i_38 : Int32) (i_39 : Int32) (i_40 : Int32) (i_41 : Int32) (i_42 : Int32) (i_43 : Int32) (i_44 : Int32) (i_45 : Int32) (i_46 : Int32) (i_47 : Int32) (i_48 : Int32) (i_49 : Int32) (i_50 : Int32) (i_51 : Int32) (i_52 : Int32) (i_53 : Int32) (i_54 : Int32) (f_0 : Nat → Int32) (f_1 : Nat → Int32) (f_2 : Nat → Int32) (f_3 : Nat → Int32) (f_4 : Nat → Int32) (f_5 : Nat → Int32) (f_6 : Nat → Int32) (f_7 : Nat → Int32) (f_8 : Nat → Int32) (f_9 : Nat → Int32) (h0 : mm_rg i_13 0 8) (h1 : mm_rg i_20 0 601) (h2 : mm_rg i_21 0 601) (h3 : mm_rg i_22 0 601) (h4 : mm_rg i_23 0 601) (h5 : mm_rg i_24 0 601) (h6 : mm_rg i_25 0 10) (h7 : mm_rg i_26 0 99) (h8 : mm_rg i_27 0 9) (h9 : mm_rg i_28 0 3) (h10 : mm_rg i_29 0 6) (h11 : mm_rg i_30 0 30) (h12 : mm_rg i_31 0 10) (h13 : mm_rg i_32 0 99) (h14 : mm_rg i_33 0 9) (h15 : mm_rg i_34 0 3) (h16 : mm_rg i_35 0 6) (h17 : mm_rg i_36 0 30) (h18 : mm_rg i_37 0 10) (h19 : mm_rg i_38 0 99) (h20 : mm_rg i_39 0 9) (h21 : mm_rg i_40 0 3) (h22 : mm_rg i_41 0 6) (h23 : mm_rg i_42 0 30) (h24 : mm_rg i_43 0 10) (h25 : mm_rg i_44 0 99) (h26 : mm_rg i_45 0 9) (h27 : mm_rg i_46 0 3) (h28 : mm_rg i_47 0 6) (h29 : mm_rg i_48 0 30) (h30 : mm_rg i_49 0 10) (h31 : mm_rg i_50 0 99) (h32 : mm_rg i_51 0 9) (h33 : mm_rg i_52 0 3) (h34 : mm_rg i_53 0 6) (h35 : mm_rg i_54 0 30) (h36 : mm_ar f_0 0 99) (h37 : mm_ar f_1 0 7) (h38 : mm_ar f_2 0 9) (h39 : mm_ar f_3 0 8) (h40 : mm_ar f_4 0 9) (h41 : mm_ar f_5 (-1) 99) (h42 : mm_ar f_6 0 9) (h43 : mm_ar f_7 0 210) (h44 : mm_ar f_8 0 210) (h45 : mm_ar f_9 0 9) (h46 : mm_rls f_1 f_2 0 i_27 i_28) (h47 : mm_txs f_3 f_4 0 i_27 i_29) (h48 : mm_acs f_5 0 i_27 i_28 i_30) (h49 : mm_tl i_20 i_28 i_29) (h50 : mm_rls f_1 f_2 1 i_33 i_34) (h51 : mm_txs f_3 f_4 1 i_33 i_35) (h52 : mm_acs f_5 1 i_33 i_34 i_36) (h53 : mm_tl i_21 i_34 i_35) (h54 : mm_rls f_1 f_2 2 i_39 i_40) (h55 : mm_txs f_3 f_4 2 i_39 i_41) (h56 : mm_acs f_5 2 i_39 i_40 i_42) (h57 : mm_tl i_22 i_40 i_41) (h58 : mm_rls f_1 f_2 3 i_45 i_46) (h59 : mm_txs f_3 f_4 3 i_45 i_47) (h60 : mm_acs f_5 3 i_45 i_46 i_48) (h61 : mm_tl i_23 i_46 i_47)  : mm_CI l yX12_average (mm_ws yX12_average cX12_average 7 (some .int)) ({ frames := 17, cells := 0, slots := 0, locals := 392 } : Room) G cy sz [(a_0, .inr (12, [.int i_3, .ref a_1, .ref a_2, .ref a_3, .ref a_4, .ref a_5, .int i_4, .int i_5, .int i_6, .int i_7, .int i_8, .long j_0, .int i_9, .int i_10, .int i_11, .int i_12, .ref a_6, .ref a_7, .ref a_8, .ref a_9, .ref a_10, .ref a_11, .ref a_12, .ref a_13, .ref a_14, .ref a_15, .ref a_16, .ref a_17, .ref a_18, .int i_13, .int i_14, .int i_15, .int i_16, .int i_17, .int i_18, .ref a_19, .int i_19, .ref a_20])), (a_6, .inl (cy 1, 5, .inl (mm_g [i_20, i_21, i_22, i_23, i_24]))), (a_7, .inl (cy 1, 30, .inl (mm_g [i_25, i_26, i_27, i_28, i_29, i_30, i_31, i_32, i_33, i_34, i_35, i_36, i_37, i_38, i_39, i_40, i_41, i_42, i_43, i_44, i_45, i_46, i_47, i_48, i_49, i_50, i_51, i_52, i_53, i_54]))), (a_8, .inl (cy 1, 90, .inl f_0)), (a_9, .inl (cy 1, 15, .inl f_1)), (a_10, .inl (cy 1, 1050, .inl f_2)), (a_11, .inl (cy 1, 30, .inl f_3)), (a_12, .inl (cy 1, 240, .inl f_4)), (a_13, .inl (cy 1, 450, .inl f_5)), (a_15, .inl (cy 1, 7200, .inl f_6)), (a_16, .inl (cy 1, 3, .inl f_7)), (a_17, .inl (cy 1, 3, .inl f_8)), (a_18, .inl (cy 1, 8, .inl f_9))] [.ref a_0, .int i_0, .int i_1, .int i_2] (fun u : Int32 × Int32 × Int32 × (Nat → Int32) × (Nat → Int32) × (Nat → Int32) × (Nat → Int32) => [(a_0, .inr (12, [.int 0, .ref a_1, .ref a_2, .ref a_3, .ref a_4, .ref a_5, .int i_4, .int i_5, .int i_6, .int i_7, .int i_8, .long j_0, .int i_9, .int i_10, .int i_11, .int i_12, .ref a_6, .ref a_7, .ref a_8, .ref a_9, .ref a_10, .ref a_11, .ref a_12, .ref a_13, .ref a_14, .ref a_15, .ref a_16, .ref a_17, .ref a_18, .int u.1, .int u.2.1, .int u.2.2.1, .int i_16, .int i_17, .int i_18, .ref a_19, .int i_19, .ref a_20])), (a_6, .inl (cy 1, 5, .inl (mm_g [i_20, i_21, i_22, i_23, i_24]))), (a_7, .inl (cy 1, 30, .inl (mm_g [i_25, i_26, i_27, i_28, i_29, i_30, i_31, i_32, i_33, i_34, i_35, i_36, i_37, i_38, i_39, i_40, i_41, i_42, i_43, i_44, i_45, i_46, i_47, i_48, i_49, i_50, i_51, i_52, i_53, i_54]))), (a_8, .inl (cy 1, 90, .inl f_0)), (a_9, .inl (cy 1, 15, .inl f_1)), (a_10, .inl (cy 1, 1050, .inl f_2)), (a_11, .inl (cy 1, 30, .inl f_3)), (a_12, .inl (cy 1, 240, .inl f_4)), (a_13, .inl (cy 1, 450, .inl f_5)), (a_15, .inl (cy 1, 7200, .inl u.2.2.2.1)), (a_16, .inl (cy 1, 3, .inl u.2.2.2.2.1)), (a_17, .inl (cy 1, 3, .inl u.2.2.2.2.2.1)), (a_18, .inl (cy 1, 8, .inl u.2.2.2.2.2.2))]) (fun (r : Int32) (u : Int32 × Int32 × Int32 × (Nat → Int32) × (Nat → Int32) × (Nat → Int32) × (Nat → Int32)) => mm_rg u.1 0 8 ∧ mm_ar u.2.2.2.1 0 9 ∧ mm_ar u.2.2.2.2.1 0 210 ∧ mm_ar u.2.2.2.2.2.1 0 210 ∧ mm_ar u.2.2.2.2.2.2 0 9 ∧ True) 0 0 := by
  refine mm_begin (lv := [(0, .ref a_0), (1, .int i_0), (2, .int i_1), (3, .int i_2)]) (by decide) (Nat.le_of_ble_eq_true rfl) rfl ?_
  intro p e s m below meth c A ls R args Q H locs hRe hQ hAe hx hb hr hlocks hml hown hnm hts hsz hA hS hP hK hD hZ hl
  have hRf : R.frames = 17 := by rw [hRe]
  have hRl : R.locals = 392 := by rw [hRe]
  have hRc : R.cells = 0 := by rw [hRe]
  have hRs : R.slots = 0 := by rw [hRe]
  refine lv_aload_n hx hb dX12_average_0 rfl (lv_at hl 0 rfl) ?_
  refine lv_iconst (v := 0) hx hb dX12_average_1 (by decide) ?_
  refine va_put (D := G) (ci := 12) (v := .int 0) (ty := tyX12 0) (C := RX12) (T := TX12) (N := 38) hx hb hts (mm_i inlX12) tyX12 tyX12_ok nmX12 hown hK.1 hP hD hS 0 rfl rfl 0 (by decide) (mm_h hts mm_w177) (fun _ h9 => h9) rfl (tyX12_ok 0 (by decide)) rfl rfl (Nat.le_of_ble_eq_true rfl) dX12_average_2 ?_
  clear hP hD hS
  clear H locs
  intro H locs (hP : va_P G vwCl [(a_0, .inr (12, [.int 0, .ref a_1, .ref a_2, .ref a_3, .ref a_4, .ref a_5, .int i_4, .int i_5, .int i_6, .int i_7, .int i_8, .long j_0, .int i_9, .int i_10, .int i_11, .int i_12, .ref a_6, .ref a_7, .ref a_8, .ref a_9, .ref a_10, .ref a_11, .ref a_12, .ref a_13, .ref a_14, .ref a_15, .ref a_16, .ref a_17, .ref a_18, .int i_13, .int i_14, .int i_15, .int i_16, .int i_17, .int i_18, .ref a_19, .int i_19, .ref a_20])), (a_6, .inl (cy 1, 5, .inl (mm_g [i_20, i_21, i_22, i_23, i_24]))), (a_7, .inl (cy 1, 30, .inl (mm_g [i_25, i_26, i_27, i_28, i_29, i_30, i_31, i_32, i_33, i_34, i_35, i_36, i_37, i_38, i_39, i_40, i_41, i_42, i_43, i_44, i_45, i_46, i_47, i_48, i_49, i_50, i_51, i_52, i_53, i_54]))), (a_8, .inl (cy 1, 90, .inl f_0)), (a_9, .inl (cy 1, 15, .inl f_1)), (a_10, .inl (cy 1, 1050, .inl f_2)), (a_11, .inl (cy 1, 30, .inl f_3)), (a_12, .inl (cy 1, 240, .inl f_4)), (a_13, .inl (cy 1, 450, .inl f_5)), (a_15, .inl (cy 1, 7200, .inl f_6)), (a_16, .inl (cy 1, 3, .inl f_7)), (a_17, .inl (cy 1, 3, .inl f_8)), (a_18, .inl (cy 1, 8, .inl f_9))] H) (hD : va_D A [(a_0, .inr (12, [.int 0, .ref a_1, .ref a_2, .ref a_3, .ref a_4, .ref a_5, .int i_4, .int i_5, .int i_6, .int i_7, .int i_8, .long j_0, .int i_9, .int i_10, .int i_11, .int i_12, .ref a_6, .ref a_7, .ref a_8, .ref a_9, .ref a_10, .ref a_11, .ref a_12, .ref a_13, .ref a_14, .ref a_15, .ref a_16, .ref a_17, .ref a_18, .int i_13, .int i_14, .int i_15, .int i_16, .int i_17, .int i_18, .ref a_19, .int i_19, .ref a_20])), (a_6, .inl (cy 1, 5, .inl (mm_g [i_20, i_21, i_22, i_23, i_24]))), (a_7, .inl (cy 1, 30, .inl (mm_g [i_25, i_26, i_27, i_28, i_29, i_30, i_31, i_32, i_33, i_34, i_35, i_36, i_37, i_38, i_39, i_40, i_41, i_42, i_43, i_44, i_45, i_46, i_47, i_48, i_49, i_50, i_51, i_52, i_53, i_54]))), (a_8, .inl (cy 1, 90, .inl f_0)), (a_9, .inl (cy 1, 15, .inl f_1)), (a_10, .inl (cy 1, 1050, .inl f_2)), (a_11, .inl (cy 1, 30, .inl f_3)), (a_12, .inl (cy 1, 240, .inl f_4)), (a_13, .inl (cy 1, 450, .inl f_5)), (a_15, .inl (cy 1, 7200, .inl f_6)), (a_16, .inl (cy 1, 3, .inl f_7)), (a_17, .inl (cy 1, 3, .inl f_8)), (a_18, .inl (cy 1, 8, .inl f_9))]) hS
  refine lv_aload_n hx hb dX12_average_5 rfl (lv_at hl 0 rfl) ?_
  refine lv_iload_n hx hb dX12_average_6 rfl (lv_at hl 1 rfl) ?_
  refine mm_finir (va_runV (As := [.int i_0]) (rest := []) ⟨hx, hb, hml, hown, hts⟩ (M98_X12_isLand l G cy H.size a_0 i_0 0 a_1 a_2 a_3 a_4 a_5 i_4 i_5 i_6 i_7 i_8 j_0 i_9 i_10 i_11 i_12 a_6 a_7 a_8 a_9 a_10 a_11 a_12 a_13 a_14 a_15 a_16 a_17 a_18 i_13 i_14 i_15 i_16 i_17 i_18 a_19 i_19 a_20 i_25 i_26 i_27 i_28 i_29 i_30 i_31 i_32 i_33 i_34 i_35 i_36 i_37 i_38 i_39 i_40 i_41 i_42 i_43 i_44 i_45 i_46 i_47 i_48 i_49 i_50 i_51 i_52 i_53 i_54 h6 h7 h8 h9 h10 h11 h12 h13 h14 h15 h16 h17 h18 h19 h20 h21 h22 h23 h24 h25 h26 h27 h28 h29 h30 h31 h32 h33 h34 h35) (cwV 1 hts (mm_gV mm_w641 mm_w642 mm_w643 mm_w5 mm_w644) rfl rfl rfl hd_X12_isLand ⟨by rw [hRf]; exact Nat.le_of_ble_eq_true rfl, by rw [hRl]; exact Nat.le_of_ble_eq_true rfl⟩) (mm_preV hK hZ hS hA hP hD [0, 2] rfl rfl 0 rfl rfl rfl) rfl rfl hl.1 rfl (lv_room (Nat.le_of_ble_eq_true rfl)) dX12_average_7 ⟨by rw [hRc]; exact Nat.le_of_ble_eq_true rfl, by rw [hRs]; exact Nat.le_of_ble_eq_true rfl⟩) hP hD hS hA [0, 2] rfl (fun _ => rfl) ?_
  clear hP hD hS
  clear H locs
  intro v1 _u H locs hw hP hD hS
  rcases hw with rfl | ⟨rfl, w2, w3⟩
  · refine lv_if_eq (tgt := 29) hx hb dX12_average_10 (by decide) (fun c4 => ?_) (fun c4 => ?_)
    · refine lv_bipush (v := (-2)) hx hb dX12_average_29 (by decide) ?_
      subst hAe
      rw [hQ]
      exact W.iret (v := (-2)) hx hb hr (fun t ht hW => ⟨⟨(-2), (i_13, i_14, i_15, f_6, f_7, f_8, f_9), rfl, ⟨h0, h42, h43, h44, h45, trivial⟩, by rw [ht]; exact hP, hK.warm hW, hD⟩, hS.F ht⟩) hS.2.2 dX12_average_31
    · exact absurd rfl (mm_ne c4)
  · have q5 := mm_ltR (lo := 1) w3 w2 h9 (by decide)
    have q6 : mm_rg i_20 1 601 := mm_tl_3 h49 q5 h1 (by decide)
    refine lv_if_eq (tgt := 29) hx hb dX12_average_10 (by decide) (fun c7 => ?_) (fun c7 => ?_)
    · exact mm_eqN c7.symm mm_k0 mm_k1 (by decide)
    · refine lv_aload_n hx hb dX12_average_13 rfl (lv_at hl 0 rfl) ?_
      refine lv_iload_n hx hb dX12_average_14 rfl (lv_at hl 2 rfl) ?_
      obtain ⟨v8, ev8⟩ : ∃ y : Int64, y = i_1.toInt64 := ⟨_, rfl⟩
      refine lv_i2l hx hb dX12_average_15 ev8.symm ?_
      have rv8 : mm_rl v8 (-2147483648) 2147483647 := mm_i2l ev8 (mm_top i_1)
      refine mm_finir (va_runV (As := [.long v8]) (rest := []) ⟨hx, hb, hml, hown, hts⟩ (M96_X12_isText l G cy H.size a_0 v8 0 a_1 a_2 a_3 a_4 a_5 i_4 i_5 i_6 i_7 i_8 j_0 i_9 i_10 i_11 i_12 a_6 a_7 a_8 a_9 a_10 a_11 a_12 a_13 a_14 a_15 a_16 a_17 a_18 i_13 i_14 i_15 i_16 i_17 i_18 a_19 i_19 a_20 i_25 i_26 i_27 i_28 i_29 i_30 i_31 i_32 i_33 i_34 i_35 i_36 i_37 i_38 i_39 i_40 i_41 i_42 i_43 i_44 i_45 i_46 i_47 i_48 i_49 i_50 i_51 i_52 i_53 i_54 h6 h7 h8 (mm_wk q5 (by decide)) h10 h11 h12 h13 h14 h15 h16 h17 h18 h19 h20 h21 h22 h23 h24 h25 h26 h27 h28 h29 h30 h31 h32 h33 h34 h35) (cwV 1 hts (mm_gV mm_w613 mm_w614 mm_w615 mm_w5 mm_w616) rfl rfl rfl hd_X12_isText ⟨by rw [hRf]; exact Nat.le_of_ble_eq_true rfl, by rw [hRl]; exact Nat.le_of_ble_eq_true rfl⟩) (mm_preV hK hZ hS hA hP hD [0, 2] rfl rfl 0 rfl rfl rfl) rfl rfl hl.1 rfl (lv_room (Nat.le_of_ble_eq_true rfl)) dX12_average_16 ⟨by rw [hRc]; exact Nat.le_of_ble_eq_true rfl, by rw [hRs]; exact Nat.le_of_ble_eq_true rfl⟩) hP hD hS hA [0, 2] rfl (fun _ => rfl) ?_
      clear hP hD hS
      clear H locs
      intro v9 _u H locs hw hP hD hS
      rcases hw with rfl | ⟨rfl, w10, w11⟩
      · refine lv_if_eq (tgt := 29) hx hb dX12_average_19 (by decide) (fun c12 => ?_) (fun c12 => ?_)
        · refine lv_bipush (v := (-2)) hx hb dX12_average_29 (by decide) ?_
          subst hAe
          rw [hQ]
          exact W.iret (v := (-2)) hx hb hr (fun t ht hW => ⟨⟨(-2), (i_13, i_14, i_15, f_6, f_7, f_8, f_9), rfl, ⟨h0, h42, h43, h44, h45, trivial⟩, by rw [ht]; exact hP, hK.warm hW, hD⟩, hS.F ht⟩) hS.2.2 dX12_average_31
        · exact absurd rfl (mm_ne c12)
      · have q13 := mm_meet (lo := 0) (hi := 5) (mm_l2x ev8 w10) (mm_top i_1) (by decide)
        have w14 := mm_tx_lt w11 (mm_i2lE ev8)
        have q15 := mm_ltR (lo := 1) w14 q13 h10 (by decide)
        refine lv_if_eq (tgt := 29) hx hb dX12_average_19 (by decide) (fun c16 => ?_) (fun c16 => ?_)
        · exact mm_eqN c16.symm mm_k0 mm_k1 (by decide)
        · refine lv_iload_n hx hb dX12_average_22 rfl (lv_at hl 3 rfl) ?_
          refine mm_finir (va_runS (As := [.int i_2]) (rest := []) ⟨hx, hb, hml, hown, hts⟩ (M93_X12_isHalf l G cy H.size i_2 ) (va_cwS 1 hts (mm_gS mm_w592 mm_w593 mm_w5 mm_w594) rfl rfl rfl hs_X12_isHalf ⟨by rw [hRf]; exact Nat.le_of_ble_eq_true rfl, by rw [hRl]; exact Nat.le_of_ble_eq_true rfl⟩) (mm_preS hK hZ hS hA hP hD [] rfl rfl) rfl rfl hl.1 rfl (lv_room (Nat.le_of_ble_eq_true rfl)) dX12_average_23 ⟨by rw [hRc]; exact Nat.le_of_ble_eq_true rfl, by rw [hRs]; exact Nat.le_of_ble_eq_true rfl⟩) hP hD hS hA [] rfl (fun _ => rfl) ?_
          clear hP hD hS
          clear H locs
          intro v17 _u H locs hw hP hD hS
          rcases hw with rfl | ⟨rfl, w18⟩
          · refine lv_if_ne (tgt := 32) hx hb dX12_average_26 (by decide) (fun c19 => ?_) (fun c19 => ?_)
            · exact absurd rfl (mm_ne c19)
            · refine lv_bipush (v := (-2)) hx hb dX12_average_29 (by decide) ?_
              subst hAe
              rw [hQ]
              exact W.iret (v := (-2)) hx hb hr (fun t ht hW => ⟨⟨(-2), (i_13, i_14, i_15, f_6, f_7, f_8, f_9), rfl, ⟨h0, h42, h43, h44, h45, trivial⟩, by rw [ht]; exact hP, hK.warm hW, hD⟩, hS.F ht⟩) hS.2.2 dX12_average_31
          · refine lv_if_ne (tgt := 32) hx hb dX12_average_26 (by decide) (fun c20 => ?_) (fun c20 => ?_)
            · refine lv_aload_n hx hb dX12_average_32 rfl (lv_at hl 0 rfl) ?_
              refine mm_finv (va_runV (As := []) (rest := []) ⟨hx, hb, hml, hown, hts⟩ (M125_X12_lays l G cy H.size a_0 0 a_1 a_2 a_3 a_4 a_5 i_4 i_5 i_6 i_7 i_8 j_0 i_9 i_10 i_11 i_12 a_6 a_7 a_8 a_9 a_10 a_11 a_12 a_13 a_14 a_15 a_16 a_17 a_18 i_13 i_14 i_15 i_16 i_17 i_18 a_19 i_19 a_20 i_20 i_21 i_22 i_23 i_24 i_25 i_26 i_27 i_28 i_29 i_30 i_31 i_32 i_33 i_34 i_35 i_36 i_37 i_38 i_39 i_40 i_41 i_42 i_43 i_44 i_45 i_46 i_47 i_48 i_49 i_50 i_51 i_52 i_53 i_54 f_1 f_2 f_5 f_6 f_7 f_8 (mm_wk q6 (by decide)) h2 h3 h4 h5 h6 h7 h8 (mm_wk q5 (by decide)) (mm_wk q15 (by decide)) h11 h12 h13 h14 h15 h16 h17 h18 h19 h20 h21 h22 h23 h24 h25 h26 h27 h28 h29 h30 h31 h32 h33 h34 h35 h37 h38 h41 h42 h43 h44 h46 h48 h49 h50 h52 h53 h54 h56 h57 h58 h60 h61) (cwV 0 hts (mm_gV mm_w686 mm_w687 mm_w688 mm_w5 mm_w689) rfl rfl rfl hd_X12_lays ⟨by rw [hRf]; exact Nat.le_of_ble_eq_true rfl, by rw [hRl]; exact Nat.le_of_ble_eq_true rfl⟩) (mm_preV hK hZ hS hA hP hD [0, 1, 2, 4, 5, 8, 9, 10, 11] rfl rfl 0 rfl rfl rfl) rfl rfl hl.1 rfl (lv_room (Nat.le_of_ble_eq_true rfl)) dX12_average_33 ⟨by rw [hRc]; exact Nat.le_of_ble_eq_true rfl, by rw [hRs]; exact Nat.le_of_ble_eq_true rfl⟩) hP hD hS hA (fun u : (Nat → Int32) × (Nat → Int32) × (Nat → Int32) => [(a_0, .inr (12, [.int 0, .ref a_1, .ref a_2, .ref a_3, .ref a_4, .ref a_5, .int i_4, .int i_5, .int i_6, .int i_7, .int i_8, .long j_0, .int i_9, .int i_10, .int i_11, .int i_12, .ref a_6, .ref a_7, .ref a_8, .ref a_9, .ref a_10, .ref a_11, .ref a_12, .ref a_13, .ref a_14, .ref a_15, .ref a_16, .ref a_17, .ref a_18, .int i_13, .int i_14, .int i_15, .int i_16, .int i_17, .int i_18, .ref a_19, .int i_19, .ref a_20])), (a_6, .inl (cy 1, 5, .inl (mm_g [i_20, i_21, i_22, i_23, i_24]))), (a_7, .inl (cy 1, 30, .inl (mm_g [i_25, i_26, i_27, i_28, i_29, i_30, i_31, i_32, i_33, i_34, i_35, i_36, i_37, i_38, i_39, i_40, i_41, i_42, i_43, i_44, i_45, i_46, i_47, i_48, i_49, i_50, i_51, i_52, i_53, i_54]))), (a_8, .inl (cy 1, 90, .inl f_0)), (a_9, .inl (cy 1, 15, .inl f_1)), (a_10, .inl (cy 1, 1050, .inl f_2)), (a_11, .inl (cy 1, 30, .inl f_3)), (a_12, .inl (cy 1, 240, .inl f_4)), (a_13, .inl (cy 1, 450, .inl f_5)), (a_15, .inl (cy 1, 7200, .inl u.1)), (a_16, .inl (cy 1, 3, .inl u.2.1)), (a_17, .inl (cy 1, 3, .inl u.2.2)), (a_18, .inl (cy 1, 8, .inl f_9))]) [0, 1, 2, 4, 5, 8, 9, 10, 11] [3, 6, 7, 12] (n := 13) (fun _ => rfl) (by decide +kernel) (by decide +kernel) rfl (fun _ => rfl) (wr := [(a_8, .inl (cy 1, 90, .inl f_0)), (a_11, .inl (cy 1, 30, .inl f_3)), (a_12, .inl (cy 1, 240, .inl f_4)), (a_18, .inl (cy 1, 8, .inl f_9))]) rfl (fun _ => rfl) (fun _ => @rfl _ ([a_0, a_6, a_7, a_9, a_10, a_13, a_15, a_16, a_17] : List Nat)) ?_
              clear hP hD hS
              clear H locs
              intro u
              obtain ⟨n21, n22, n23⟩ := u
              intro H locs hw (hP : va_P G vwCl [(a_0, .inr (12, [.int 0, .ref a_1, .ref a_2, .ref a_3, .ref a_4, .ref a_5, .int i_4, .int i_5, .int i_6, .int i_7, .int i_8, .long j_0, .int i_9, .int i_10, .int i_11, .int i_12, .ref a_6, .ref a_7, .ref a_8, .ref a_9, .ref a_10, .ref a_11, .ref a_12, .ref a_13, .ref a_14, .ref a_15, .ref a_16, .ref a_17, .ref a_18, .int i_13, .int i_14, .int i_15, .int i_16, .int i_17, .int i_18, .ref a_19, .int i_19, .ref a_20])), (a_6, .inl (cy 1, 5, .inl (mm_g [i_20, i_21, i_22, i_23, i_24]))), (a_7, .inl (cy 1, 30, .inl (mm_g [i_25, i_26, i_27, i_28, i_29, i_30, i_31, i_32, i_33, i_34, i_35, i_36, i_37, i_38, i_39, i_40, i_41, i_42, i_43, i_44, i_45, i_46, i_47, i_48, i_49, i_50, i_51, i_52, i_53, i_54]))), (a_8, .inl (cy 1, 90, .inl f_0)), (a_9, .inl (cy 1, 15, .inl f_1)), (a_10, .inl (cy 1, 1050, .inl f_2)), (a_11, .inl (cy 1, 30, .inl f_3)), (a_12, .inl (cy 1, 240, .inl f_4)), (a_13, .inl (cy 1, 450, .inl f_5)), (a_15, .inl (cy 1, 7200, .inl n21)), (a_16, .inl (cy 1, 3, .inl n22)), (a_17, .inl (cy 1, 3, .inl n23)), (a_18, .inl (cy 1, 8, .inl f_9))] H) (hD : va_D A [(a_0, .inr (12, [.int 0, .ref a_1, .ref a_2, .ref a_3, .ref a_4, .ref a_5, .int i_4, .int i_5, .int i_6, .int i_7, .int i_8, .long j_0, .int i_9, .int i_10, .int i_11, .int i_12, .ref a_6, .ref a_7, .ref a_8, .ref a_9, .ref a_10, .ref a_11, .ref a_12, .ref a_13, .ref a_14, .ref a_15, .ref a_16, .ref a_17, .ref a_18, .int i_13, .int i_14, .int i_15, .int i_16, .int i_17, .int i_18, .ref a_19, .int i_19, .ref a_20])), (a_6, .inl (cy 1, 5, .inl (mm_g [i_20, i_21, i_22, i_23, i_24]))), (a_7, .inl (cy 1, 30, .inl (mm_g [i_25, i_26, i_27, i_28, i_29, i_30, i_31, i_32, i_33, i_34, i_35, i_36, i_37, i_38, i_39, i_40, i_41, i_42, i_43, i_44, i_45, i_46, i_47, i_48, i_49, i_50, i_51, i_52, i_53, i_54]))), (a_8, .inl (cy 1, 90, .inl f_0)), (a_9, .inl (cy 1, 15, .inl f_1)), (a_10, .inl (cy 1, 1050, .inl f_2)), (a_11, .inl (cy 1, 30, .inl f_3)), (a_12, .inl (cy 1, 240, .inl f_4)), (a_13, .inl (cy 1, 450, .inl f_5)), (a_15, .inl (cy 1, 7200, .inl n21)), (a_16, .inl (cy 1, 3, .inl n22)), (a_17, .inl (cy 1, 3, .inl n23)), (a_18, .inl (cy 1, 8, .inl f_9))]) hS
              obtain ⟨w24, w25, w26, w27, w28⟩ := hw
              replace w27 : mm_laid n22 n23 i_28 := w27
              replace w28 : mm_tab n21 n22 i_27 i_28 := w28
              refine lv_lconst (v := 0) hx hb dX12_average_36 (by decide) ?_
              refine lv_lstore (lv' := [(4, .long 0), (0, .ref a_0), (1, .int i_0), (2, .int i_1), (3, .int i_2)]) hx hb dX12_average_37 hl (by decide) rfl ?_
              clear hl
              clear ls
              intro ls hl
              refine lv_iconst (v := 0) hx hb dX12_average_39 (by decide) ?_
              refine lv_istore (lv' := [(6, .int 0), (4, .long 0), (0, .ref a_0), (1, .int i_0), (2, .int i_1), (3, .int i_2)]) hx hb dX12_average_40 hl (by decide) rfl ?_
              clear hl
              clear ls
              intro ls hl
              have L42_319 : ∀ (n : Nat) (x42_6_313 : Int32) (x42_4_314 : Int64) (y42_0_29_315 : Int32) (y42_0_30_316 : Int32) (y42_0_31_317 : Int32) (z42_12_318 : Nat → Int32), mm_rg x42_6_313 0 210 → mm_rl x42_4_314 0 2099790 → mm_rg y42_0_29_315 0 8 → mm_ar z42_12_318 0 9 → mm_sv 9999 x42_6_313 x42_4_314 → (210 - x42_6_313.toInt).toNat < n → ∀ (H : Heap) (locs : List Loc), va_P G vwCl [(a_0, .inr (12, [.int 0, .ref a_1, .ref a_2, .ref a_3, .ref a_4, .ref a_5, .int i_4, .int i_5, .int i_6, .int i_7, .int i_8, .long j_0, .int i_9, .int i_10, .int i_11, .int i_12, .ref a_6, .ref a_7, .ref a_8, .ref a_9, .ref a_10, .ref a_11, .ref a_12, .ref a_13, .ref a_14, .ref a_15, .ref a_16, .ref a_17, .ref a_18, .int y42_0_29_315, .int y42_0_30_316, .int y42_0_31_317, .int i_16, .int i_17, .int i_18, .ref a_19, .int i_19, .ref a_20])), (a_6, .inl (cy 1, 5, .inl (mm_g [i_20, i_21, i_22, i_23, i_24]))), (a_7, .inl (cy 1, 30, .inl (mm_g [i_25, i_26, i_27, i_28, i_29, i_30, i_31, i_32, i_33, i_34, i_35, i_36, i_37, i_38, i_39, i_40, i_41, i_42, i_43, i_44, i_45, i_46, i_47, i_48, i_49, i_50, i_51, i_52, i_53, i_54]))), (a_8, .inl (cy 1, 90, .inl f_0)), (a_9, .inl (cy 1, 15, .inl f_1)), (a_10, .inl (cy 1, 1050, .inl f_2)), (a_11, .inl (cy 1, 30, .inl f_3)), (a_12, .inl (cy 1, 240, .inl f_4)), (a_13, .inl (cy 1, 450, .inl f_5)), (a_15, .inl (cy 1, 7200, .inl n21)), (a_16, .inl (cy 1, 3, .inl n22)), (a_17, .inl (cy 1, 3, .inl n23)), (a_18, .inl (cy 1, 8, .inl z42_12_318))] H → va_D A [(a_0, .inr (12, [.int 0, .ref a_1, .ref a_2, .ref a_3, .ref a_4, .ref a_5, .int i_4, .int i_5, .int i_6, .int i_7, .int i_8, .long j_0, .int i_9, .int i_10, .int i_11, .int i_12, .ref a_6, .ref a_7, .ref a_8, .ref a_9, .ref a_10, .ref a_11, .ref a_12, .ref a_13, .ref a_14, .ref a_15, .ref a_16, .ref a_17, .ref a_18, .int y42_0_29_315, .int y42_0_30_316, .int y42_0_31_317, .int i_16, .int i_17, .int i_18, .ref a_19, .int i_19, .ref a_20])), (a_6, .inl (cy 1, 5, .inl (mm_g [i_20, i_21, i_22, i_23, i_24]))), (a_7, .inl (cy 1, 30, .inl (mm_g [i_25, i_26, i_27, i_28, i_29, i_30, i_31, i_32, i_33, i_34, i_35, i_36, i_37, i_38, i_39, i_40, i_41, i_42, i_43, i_44, i_45, i_46, i_47, i_48, i_49, i_50, i_51, i_52, i_53, i_54]))), (a_8, .inl (cy 1, 90, .inl f_0)), (a_9, .inl (cy 1, 15, .inl f_1)), (a_10, .inl (cy 1, 1050, .inl f_2)), (a_11, .inl (cy 1, 30, .inl f_3)), (a_12, .inl (cy 1, 240, .inl f_4)), (a_13, .inl (cy 1, 450, .inl f_5)), (a_15, .inl (cy 1, 7200, .inl n21)), (a_16, .inl (cy 1, 3, .inl n22)), (a_17, .inl (cy 1, 3, .inl n23)), (a_18, .inl (cy 1, 8, .inl z42_12_318))] → va_S A s.heap H locs → ∀ (ls : Array Slot), lv_has ls 7 [(6, .int x42_6_313), (4, .long x42_4_314), (0, .ref a_0), (1, .int i_0), (2, .int i_1), (3, .int i_2)] → W p l e R s m args below meth c H locs 0 0 Q (F0 m 42 ls []) := by
                intro n
                induction n with
                | zero => intro x42_6_313 x42_4_314 y42_0_29_315 y42_0_30_316 y42_0_31_317 z42_12_318 rx42_6_313 rx42_4_314 ry42_0_29_315 rz42_12_318 w319 hm; exact absurd hm (Nat.not_lt_zero _)
                | succ n ih42 =>
                  intro x42_6_313 x42_4_314 y42_0_29_315 y42_0_30_316 y42_0_31_317 z42_12_318 rx42_6_313 rx42_4_314 ry42_0_29_315 rz42_12_318 w319 hm42 H locs hP hD hS ls hl
                  refine lv_iload hx hb dX12_average_42 (lv_at hl 0 rfl) ?_
                  refine lv_aload_n hx hb dX12_average_44 rfl (lv_at hl 2 rfl) ?_
                  refine va_get (D := G) (ci := 12) (v := .ref a_17) (C := RX12) (T := TX12) (N := 38) hx hb hts (mm_i inlX12) hown hK.1 hP 0 rfl rfl 27 (by decide) (mm_h hts mm_w159) (fun _ h9 => h9) rfl dX12_average_45 ?_
                  refine lv_iload_n hx hb dX12_average_48 rfl (lv_at hl 3 rfl) ?_
                  refine va_iald hx hb hK.1 hP 11 1 rfl rfl (mm_in w2 (by decide)) dX12_average_49 ?_
                  refine lv_topi (fun v321 ev321 => ?_)
                  have rv321 : mm_rg v321 0 210 := mm_eqv ev321 (w26 _)
                  have q322 : mm_rg v321 1 210 := mm_laid_ld1 w27 w3 ev321 w2 rv321 (by decide)
                  refine lv_icmp_ge (tgt := 73) hx hb dX12_average_50 (by decide) (fun c323 => ?_) (fun c323 => ?_)
                  · have q324 := mm_leR (mm_le c323) q322 rx42_6_313
                    refine lv_lload hx hb dX12_average_73 (lv_at hl 1 rfl) ?_
                    refine lv_aload_n hx hb dX12_average_75 rfl (lv_at hl 2 rfl) ?_
                    refine va_get (D := G) (ci := 12) (v := .ref a_17) (C := RX12) (T := TX12) (N := 38) hx hb hts (mm_i inlX12) hown hK.1 hP 0 rfl rfl 27 (by decide) (mm_h hts mm_w159) (fun _ h9 => h9) rfl dX12_average_76 ?_
                    refine lv_iload_n hx hb dX12_average_79 rfl (lv_at hl 3 rfl) ?_
                    refine va_iald hx hb hK.1 hP 11 1 rfl rfl (mm_in w2 (by decide)) dX12_average_80 ?_
                    refine lv_topi (fun v325 ev325 => ?_)
                    have rv325 : mm_rg v325 0 210 := mm_eqv ev325 (w26 _)
                    have q326 : mm_rg v325 1 210 := mm_laid_ld1 w27 w3 ev325 w2 rv325 (by decide)
                    obtain rfl : v321 = v325 := ev321.trans ev325.symm
                    obtain ⟨v327, ev327⟩ : ∃ y : Int64, y = v321.toInt64 := ⟨_, rfl⟩
                    refine lv_i2l hx hb dX12_average_81 ev327.symm ?_
                    have rv327 : mm_rl v327 1 210 := mm_i2l ev327 q322
                    refine lv_iload_n hx hb dX12_average_82 rfl (lv_at hl 5 rfl) ?_
                    refine mm_finlr (va_runS (As := [.long x42_4_314, .long v327, .int i_2]) (rest := []) ⟨hx, hb, hml, hown, hts⟩ (M175_X12_part l G cy H.size x42_4_314 v327 i_2 (mm_wkl rx42_4_314 (by decide)) rv327 w18) (va_cwS 3 hts (mm_gS mm_w1040 mm_w1041 mm_w5 mm_w1042) rfl rfl rfl hs_X12_part ⟨by rw [hRf]; exact Nat.le_of_ble_eq_true rfl, by rw [hRl]; exact Nat.le_of_ble_eq_true rfl⟩) (mm_preS hK hZ hS hA hP hD [] rfl rfl) rfl rfl hl.1 rfl (lv_room (Nat.le_of_ble_eq_true rfl)) dX12_average_83 ⟨by rw [hRc]; exact Nat.le_of_ble_eq_true rfl, by rw [hRs]; exact Nat.le_of_ble_eq_true rfl⟩) hP hD hS hA [] rfl (fun _ => rfl) ?_
                    clear hP hD hS
                    clear H locs
                    intro v328 _u H locs hw hP hD hS
                    have w329 := hw
                    obtain ⟨v330, ev330⟩ : ∃ y : Int32, y = v328.toInt32 := ⟨_, rfl⟩
                    refine lv_l2i hx hb dX12_average_86 ev330.symm ?_
                    subst hAe
                    rw [hQ]
                    exact W.iret (v := v330) hx hb hr (fun t ht hW => ⟨⟨v330, (y42_0_29_315, y42_0_30_316, y42_0_31_317, n21, n22, n23, z42_12_318), rfl, ⟨ry42_0_29_315, w24, w25, w26, rz42_12_318, trivial⟩, by rw [ht]; exact hP, hK.warm hW, hD⟩, hS.F ht⟩) hS.2.2 dX12_average_87
                  · have q331 := mm_ltL (h := 209) (mm_nle c323) rx42_6_313 q322 (by decide)
                    have q332 : mm_rl x42_4_314 0 2089791 := mm_sv_rl w319 q331 (by decide)
                    refine lv_lload hx hb dX12_average_53 (lv_at hl 1 rfl) ?_
                    refine lv_aload_n hx hb dX12_average_55 rfl (lv_at hl 2 rfl) ?_
                    refine lv_iload_n hx hb dX12_average_56 rfl (lv_at hl 3 rfl) ?_
                    refine lv_iload hx hb dX12_average_57 (lv_at hl 0 rfl) ?_
                    refine lv_iload_n hx hb dX12_average_59 rfl (lv_at hl 4 rfl) ?_
                    refine mm_fini (va_runV (As := [.int i_0, .int x42_6_313, .int i_1]) (rest := [.long x42_4_314]) ⟨hx, hb, hml, hown, hts⟩ (M141_X12_reads l G cy H.size a_0 i_0 x42_6_313 i_1 0 a_1 a_2 a_3 a_4 a_5 i_4 i_5 i_6 i_7 i_8 j_0 i_9 i_10 i_11 i_12 a_6 a_7 a_8 a_9 a_10 a_11 a_12 a_13 a_14 a_15 a_16 a_17 a_18 y42_0_29_315 y42_0_30_316 y42_0_31_317 i_16 i_17 i_18 a_19 i_19 a_20 i_25 i_26 i_27 i_28 i_29 i_30 i_31 i_32 i_33 i_34 i_35 i_36 i_37 i_38 i_39 i_40 i_41 i_42 i_43 i_44 i_45 i_46 i_47 i_48 i_49 i_50 i_51 i_52 i_53 i_54 f_0 f_3 f_4 f_5 n21 n22 z42_12_318 w2 (mm_wk q331 (by decide)) q13 ry42_0_29_315 h6 h7 h8 (mm_wk q5 (by decide)) (mm_wk q15 (by decide)) h11 h12 h13 h14 h15 h16 h17 h18 h19 h20 h21 h22 h23 h24 h25 h26 h27 h28 h29 h30 h31 h32 h33 h34 h35 h36 h39 h40 h41 w24 w25 rz42_12_318 h47 h48 h51 h52 h55 h56 h59 h60 (mm_f1_l w27 w3 w2 (by decide))) (cwV 3 hts (mm_gV mm_w852 mm_w853 mm_w854 mm_w5 mm_w855) rfl rfl rfl hd_X12_reads ⟨by rw [hRf]; exact Nat.le_of_ble_eq_true rfl, by rw [hRl]; exact Nat.le_of_ble_eq_true rfl⟩) (mm_preV hK hZ hS hA hP hD [0, 2, 3, 6, 7, 8, 9, 10, 12] rfl rfl 0 rfl rfl rfl) rfl rfl hl.1 rfl (lv_room (Nat.le_of_ble_eq_true rfl)) dX12_average_60 ⟨by rw [hRc]; exact Nat.le_of_ble_eq_true rfl, by rw [hRs]; exact Nat.le_of_ble_eq_true rfl⟩) hP hD hS hA (fun u : Int32 × Int32 × Int32 × (Nat → Int32) => [(a_0, .inr (12, [.int 0, .ref a_1, .ref a_2, .ref a_3, .ref a_4, .ref a_5, .int i_4, .int i_5, .int i_6, .int i_7, .int i_8, .long j_0, .int i_9, .int i_10, .int i_11, .int i_12, .ref a_6, .ref a_7, .ref a_8, .ref a_9, .ref a_10, .ref a_11, .ref a_12, .ref a_13, .ref a_14, .ref a_15, .ref a_16, .ref a_17, .ref a_18, .int u.1, .int u.2.1, .int u.2.2.1, .int i_16, .int i_17, .int i_18, .ref a_19, .int i_19, .ref a_20])), (a_6, .inl (cy 1, 5, .inl (mm_g [i_20, i_21, i_22, i_23, i_24]))), (a_7, .inl (cy 1, 30, .inl (mm_g [i_25, i_26, i_27, i_28, i_29, i_30, i_31, i_32, i_33, i_34, i_35, i_36, i_37, i_38, i_39, i_40, i_41, i_42, i_43, i_44, i_45, i_46, i_47, i_48, i_49, i_50, i_51, i_52, i_53, i_54]))), (a_8, .inl (cy 1, 90, .inl f_0)), (a_9, .inl (cy 1, 15, .inl f_1)), (a_10, .inl (cy 1, 1050, .inl f_2)), (a_11, .inl (cy 1, 30, .inl f_3)), (a_12, .inl (cy 1, 240, .inl f_4)), (a_13, .inl (cy 1, 450, .inl f_5)), (a_15, .inl (cy 1, 7200, .inl n21)), (a_16, .inl (cy 1, 3, .inl n22)), (a_17, .inl (cy 1, 3, .inl n23)), (a_18, .inl (cy 1, 8, .inl u.2.2.2))]) [0, 2, 3, 6, 7, 8, 9, 10, 12] [1, 4, 5, 11] (n := 13) (fun _ => rfl) (by decide +kernel) (by decide +kernel) rfl (fun _ => rfl) (wr := [(a_6, .inl (cy 1, 5, .inl (mm_g [i_20, i_21, i_22, i_23, i_24]))), (a_9, .inl (cy 1, 15, .inl f_1)), (a_10, .inl (cy 1, 1050, .inl f_2)), (a_17, .inl (cy 1, 3, .inl n23))]) rfl (fun _ => rfl) (fun _ => @rfl _ ([a_0, a_7, a_8, a_11, a_12, a_13, a_15, a_16, a_18] : List Nat)) ?_
                    clear hP hD hS
                    clear H locs
                    intro v337 u
                    obtain ⟨n333, n334, n335, n336⟩ := u
                    intro H locs hw (hP : va_P G vwCl [(a_0, .inr (12, [.int 0, .ref a_1, .ref a_2, .ref a_3, .ref a_4, .ref a_5, .int i_4, .int i_5, .int i_6, .int i_7, .int i_8, .long j_0, .int i_9, .int i_10, .int i_11, .int i_12, .ref a_6, .ref a_7, .ref a_8, .ref a_9, .ref a_10, .ref a_11, .ref a_12, .ref a_13, .ref a_14, .ref a_15, .ref a_16, .ref a_17, .ref a_18, .int n333, .int n334, .int n335, .int i_16, .int i_17, .int i_18, .ref a_19, .int i_19, .ref a_20])), (a_6, .inl (cy 1, 5, .inl (mm_g [i_20, i_21, i_22, i_23, i_24]))), (a_7, .inl (cy 1, 30, .inl (mm_g [i_25, i_26, i_27, i_28, i_29, i_30, i_31, i_32, i_33, i_34, i_35, i_36, i_37, i_38, i_39, i_40, i_41, i_42, i_43, i_44, i_45, i_46, i_47, i_48, i_49, i_50, i_51, i_52, i_53, i_54]))), (a_8, .inl (cy 1, 90, .inl f_0)), (a_9, .inl (cy 1, 15, .inl f_1)), (a_10, .inl (cy 1, 1050, .inl f_2)), (a_11, .inl (cy 1, 30, .inl f_3)), (a_12, .inl (cy 1, 240, .inl f_4)), (a_13, .inl (cy 1, 450, .inl f_5)), (a_15, .inl (cy 1, 7200, .inl n21)), (a_16, .inl (cy 1, 3, .inl n22)), (a_17, .inl (cy 1, 3, .inl n23)), (a_18, .inl (cy 1, 8, .inl n336))] H) (hD : va_D A [(a_0, .inr (12, [.int 0, .ref a_1, .ref a_2, .ref a_3, .ref a_4, .ref a_5, .int i_4, .int i_5, .int i_6, .int i_7, .int i_8, .long j_0, .int i_9, .int i_10, .int i_11, .int i_12, .ref a_6, .ref a_7, .ref a_8, .ref a_9, .ref a_10, .ref a_11, .ref a_12, .ref a_13, .ref a_14, .ref a_15, .ref a_16, .ref a_17, .ref a_18, .int n333, .int n334, .int n335, .int i_16, .int i_17, .int i_18, .ref a_19, .int i_19, .ref a_20])), (a_6, .inl (cy 1, 5, .inl (mm_g [i_20, i_21, i_22, i_23, i_24]))), (a_7, .inl (cy 1, 30, .inl (mm_g [i_25, i_26, i_27, i_28, i_29, i_30, i_31, i_32, i_33, i_34, i_35, i_36, i_37, i_38, i_39, i_40, i_41, i_42, i_43, i_44, i_45, i_46, i_47, i_48, i_49, i_50, i_51, i_52, i_53, i_54]))), (a_8, .inl (cy 1, 90, .inl f_0)), (a_9, .inl (cy 1, 15, .inl f_1)), (a_10, .inl (cy 1, 1050, .inl f_2)), (a_11, .inl (cy 1, 30, .inl f_3)), (a_12, .inl (cy 1, 240, .inl f_4)), (a_13, .inl (cy 1, 450, .inl f_5)), (a_15, .inl (cy 1, 7200, .inl n21)), (a_16, .inl (cy 1, 3, .inl n22)), (a_17, .inl (cy 1, 3, .inl n23)), (a_18, .inl (cy 1, 8, .inl n336))]) hS
                    obtain ⟨w338, w339, hw⟩ := hw
                    obtain ⟨w340, w341⟩ := hw
                    replace w341 : mm_rd n21 n22 f_0 f_3 f_4 f_5 i_0 x42_6_313 i_1 i_26 i_27 i_30 v337 := w341
                    obtain ⟨v342, ev342⟩ : ∃ y : Int64, y = v337.toInt64 := ⟨_, rfl⟩
                    refine lv_i2l hx hb dX12_average_63 ev342.symm ?_
                    have rv342 : mm_rl v342 0 9999 := mm_i2l ev342 w340
                    refine lv_ladd hx hb dX12_average_64 ?_
                    refine lv_topl (fun v343 ev343 => ?_)
                    have rv343 : mm_rl v343 0 2099790 := mm_addl ev343 q332 rv342 (by decide) (by decide)
                    have tv343 := mm_addlE ev343 q332 rv342 (by decide)
                    refine lv_lstore (lv' := [(4, .long v343), (6, .int x42_6_313), (0, .ref a_0), (1, .int i_0), (2, .int i_1), (3, .int i_2)]) hx hb dX12_average_65 hl (by decide) rfl ?_
                    clear hl
                    clear ls
                    intro ls hl
                    obtain ⟨v344, ev344⟩ : ∃ y : Int32, y = x42_6_313 + 1 := ⟨_, rfl⟩
                    refine lv_iinc (v := v344) (lv' := [(6, .int v344), (4, .long v343), (0, .ref a_0), (1, .int i_0), (2, .int i_1), (3, .int i_2)]) hx hb dX12_average_67 hl (k := 1) rfl (by rw [ev344]; rfl) (by decide) rfl ?_
                    clear hl
                    clear ls
                    intro ls hl
                    have rv344 : mm_rg v344 1 210 := mm_add ev344 q331 mm_k1 (by decide) (by decide)
                    have tv344 := mm_addEc ev344 q331 mm_k1 (by decide) (k := 1) (by decide)
                    refine lv_goto (tgt := 42) hx hb dX12_average_70 (by decide) ?_
                    have w345 : mm_sv 9999 v344 v343 := (mm_sv_s w319 tv344 tv343 rv342 (by decide))
                    have q346 : mm_rl v343 0 2099790 := mm_sv_rl w345 rv344 (by decide)
                    exact ih42 v344 v343 n333 n334 n335 n336 (mm_wk rv344 (by decide)) q346 w338 w339 w345 (mm_mu hm42 tv344 (by decide) (rv344).2 (by decide)) H locs hP hD hS ls (lv_sub hl [0, 1, 2, 3, 4, 5] rfl)
              exact L42_319 _ 0 0 i_13 i_14 i_15 f_9 (mm_wk mm_k0 (by decide)) (mm_wkl mm_kl0 (by decide)) h0 h45 (mm_sv_0 _) (Nat.lt_succ_self _) H locs hP hD hS ls (lv_sub hl [0, 1, 2, 3, 4, 5] rfl)
            · exact mm_eqN c20.symm mm_k0 mm_k1 (by decide)

set_option maxHeartbeats 4000000 in
set_option maxRecDepth 100000 in
theorem M177_X12_lost (l : Launch) (G : va_G) (cy : Nat → ClassId) (sz : Nat) (a_0 : Nat) (i_0 : Int32) (i_1 : Int32) (i_2 : Int32) (i_3 : Int32) (a_1 : Nat) (a_2 : Nat) (a_3 : Nat) (a_4 : Nat) (a_5 : Nat) (i_4 : Int32) (i_5 : Int32) (i_6 : Int32) (i_7 : Int32) (i_8 : Int32) (j_0 : Int64) (i_9 : Int32) (i_10 : Int32) (i_11 : Int32) (i_12 : Int32) (a_6 : Nat) (a_7 : Nat) (a_8 : Nat) (a_9 : Nat) (a_10 : Nat) (a_11 : Nat) (a_12 : Nat) (a_13 : Nat) (a_14 : Nat) (a_15 : Nat) (a_16 : Nat) (a_17 : Nat) (a_18 : Nat) (i_13 : Int32) (i_14 : Int32) (i_15 : Int32) (i_16 : Int32) (i_17 : Int32) (i_18 : Int32) (a_19 : Nat) (i_19 : Int32) (a_20 : Nat) (i_20 : Int32) (i_21 : Int32) (i_22 : Int32) (i_23 : Int32) (i_24 : Int32) (i_25 : Int32) (i_26 : Int32) (i_27 : Int32) (i_28 : Int32) (i_29 : Int32) (i_30 : Int32) (i_31 : Int32) (i_32 : Int32) (i_33 : Int32) (i_34 : Int32) (i_35 : Int32) (i_36 : Int32) (i_37 : Int32) (i_38 : Int32) (i_39 : Int32) (i_40 : Int32) (i_41 : Int32) (i_42 : Int32) (i_43 : Int32) (i_44 : Int32) (i_45 : Int32) (i_46 : Int32) (i_47 : Int32) (i_48 : Int32) (i_49 : Int32) (i_50 : Int32) (i_51 : Int32) (i_52 : Int32) (i_53 : Int32) (i_54 : Int32) (f_0 : Nat → Int32) (f_1 : Nat → Int32) (f_2 : Nat → Int32) (f_3 : Nat → Int32) (f_4 : Nat → Int32) (f_5 : Nat → Int32) (f_6 : Nat → Int32) (f_7 : Nat → Int32) (f_8 : Nat → Int32) (f_9 : Nat → Int32) (h0 : mm_rg i_13 0 8) (h1 : mm_rg i_20 0 601) (h2 : mm_rg i_21 0 601) (h3 : mm_rg i_22 0 601) (h4 : mm_rg i_23 0 601) (h5 : mm_rg i_24 0 601) (h6 : mm_rg i_25 0 10) (h7 : mm_rg i_26 0 99) (h8 : mm_rg i_27 0 9) (h9 : mm_rg i_28 0 3) (h10 : mm_rg i_29 0 6) (h11 : mm_rg i_30 0 30) (h12 : mm_rg i_31 0 10) (h13 : mm_rg i_32 0 99) (h14 : mm_rg i_33 0 9) (h15 : mm_rg i_34 0 3) (h16 : mm_rg i_35 0 6) (h17 : mm_rg i_36 0 30) (h18 : mm_rg i_37 0 10) (h19 : mm_rg i_38 0 99) (h20 : mm_rg i_39 0 9) (h21 : mm_rg i_40 0 3) (h22 : mm_rg i_41 0 6) (h23 : mm_rg i_42 0 30) (h24 : mm_rg i_43 0 10) (h25 : mm_rg i_44 0 99) (h26 : mm_rg i_45 0 9) (h27 : mm_rg i_46 0 3) (h28 : mm_rg i_47 0 6) (h29 : mm_rg i_48 0 30) (h30 : mm_rg i_49 0 10) (h31 : mm_rg i_50 0 99) (h32 : mm_rg i_51 0 9) (h33 : mm_rg i_52 0 3) (h34 : mm_rg i_53 0 6) (h35 : mm_rg i_54 0 30) (h36 : mm_ar f_0 0 99) (h37 : mm_ar f_1 0 7) (h38 : mm_ar f_2 0 9) (h39 : mm_ar f_3 0 8) (h40 : mm_ar f_4 0 9) (h41 : mm_ar f_5 (-1) 99) (h42 : mm_ar f_6 0 9) (h43 : mm_ar f_7 0 210) (h44 : mm_ar f_8 0 210) (h45 : mm_ar f_9 0 9) (h46 : mm_rls f_1 f_2 0 i_27 i_28) (h47 : mm_txs f_3 f_4 0 i_27 i_29) (h48 : mm_acs f_5 0 i_27 i_28 i_30) (h49 : mm_tl i_20 i_28 i_29) (h50 : mm_rls f_1 f_2 1 i_33 i_34) (h51 : mm_txs f_3 f_4 1 i_33 i_35) (h52 : mm_acs f_5 1 i_33 i_34 i_36) (h53 : mm_tl i_21 i_34 i_35) (h54 : mm_rls f_1 f_2 2 i_39 i_40) (h55 : mm_txs f_3 f_4 2 i_39 i_41) (h56 : mm_acs f_5 2 i_39 i_40 i_42) (h57 : mm_tl i_22 i_40 i_41) (h58 : mm_rls f_1 f_2 3 i_45 i_46) (h59 : mm_txs f_3 f_4 3 i_45 i_47) (h60 : mm_acs f_5 3 i_45 i_46 i_48) (h61 : mm_tl i_23 i_46 i_47)  : mm_CI l yX12_lost (mm_ws yX12_lost cX12_lost 4 (some .int)) ({ frames := 14, cells := 0, slots := 0, locals := 300 } : Room) G cy sz [(a_0, .inr (12, [.int i_3, .ref a_1, .ref a_2, .ref a_3, .ref a_4, .ref a_5, .int i_4, .int i_5, .int i_6, .int i_7, .int i_8, .long j_0, .int i_9, .int i_10, .int i_11, .int i_12, .ref a_6, .ref a_7, .ref a_8, .ref a_9, .ref a_10, .ref a_11, .ref a_12, .ref a_13, .ref a_14, .ref a_15, .ref a_16, .ref a_17, .ref a_18, .int i_13, .int i_14, .int i_15, .int i_16, .int i_17, .int i_18, .ref a_19, .int i_19, .ref a_20])), (a_6, .inl (cy 1, 5, .inl (mm_g [i_20, i_21, i_22, i_23, i_24]))), (a_7, .inl (cy 1, 30, .inl (mm_g [i_25, i_26, i_27, i_28, i_29, i_30, i_31, i_32, i_33, i_34, i_35, i_36, i_37, i_38, i_39, i_40, i_41, i_42, i_43, i_44, i_45, i_46, i_47, i_48, i_49, i_50, i_51, i_52, i_53, i_54]))), (a_8, .inl (cy 1, 90, .inl f_0)), (a_9, .inl (cy 1, 15, .inl f_1)), (a_10, .inl (cy 1, 1050, .inl f_2)), (a_11, .inl (cy 1, 30, .inl f_3)), (a_12, .inl (cy 1, 240, .inl f_4)), (a_13, .inl (cy 1, 450, .inl f_5)), (a_15, .inl (cy 1, 7200, .inl f_6)), (a_16, .inl (cy 1, 3, .inl f_7)), (a_17, .inl (cy 1, 3, .inl f_8)), (a_18, .inl (cy 1, 8, .inl f_9))] [.ref a_0, .int i_0, .int i_1, .int i_2] (fun u : Int32 × Int32 × Int32 × (Nat → Int32) × (Nat → Int32) × (Nat → Int32) × (Nat → Int32) => [(a_0, .inr (12, [.int 0, .ref a_1, .ref a_2, .ref a_3, .ref a_4, .ref a_5, .int i_4, .int i_5, .int i_6, .int i_7, .int i_8, .long j_0, .int i_9, .int i_10, .int i_11, .int i_12, .ref a_6, .ref a_7, .ref a_8, .ref a_9, .ref a_10, .ref a_11, .ref a_12, .ref a_13, .ref a_14, .ref a_15, .ref a_16, .ref a_17, .ref a_18, .int u.1, .int u.2.1, .int u.2.2.1, .int i_16, .int i_17, .int i_18, .ref a_19, .int i_19, .ref a_20])), (a_6, .inl (cy 1, 5, .inl (mm_g [i_20, i_21, i_22, i_23, i_24]))), (a_7, .inl (cy 1, 30, .inl (mm_g [i_25, i_26, i_27, i_28, i_29, i_30, i_31, i_32, i_33, i_34, i_35, i_36, i_37, i_38, i_39, i_40, i_41, i_42, i_43, i_44, i_45, i_46, i_47, i_48, i_49, i_50, i_51, i_52, i_53, i_54]))), (a_8, .inl (cy 1, 90, .inl f_0)), (a_9, .inl (cy 1, 15, .inl f_1)), (a_10, .inl (cy 1, 1050, .inl f_2)), (a_11, .inl (cy 1, 30, .inl f_3)), (a_12, .inl (cy 1, 240, .inl f_4)), (a_13, .inl (cy 1, 450, .inl f_5)), (a_15, .inl (cy 1, 7200, .inl u.2.2.2.1)), (a_16, .inl (cy 1, 3, .inl u.2.2.2.2.1)), (a_17, .inl (cy 1, 3, .inl u.2.2.2.2.2.1)), (a_18, .inl (cy 1, 8, .inl u.2.2.2.2.2.2))]) (fun (r : Int32) (u : Int32 × Int32 × Int32 × (Nat → Int32) × (Nat → Int32) × (Nat → Int32) × (Nat → Int32)) => mm_rg u.1 0 8 ∧ mm_ar u.2.2.2.1 0 9 ∧ mm_ar u.2.2.2.2.1 0 210 ∧ mm_ar u.2.2.2.2.2.1 0 210 ∧ mm_ar u.2.2.2.2.2.2 0 9 ∧ True) 0 0 := by
  refine mm_begin (lv := [(0, .ref a_0), (1, .int i_0), (2, .int i_1), (3, .int i_2)]) (by decide) (Nat.le_of_ble_eq_true rfl) rfl ?_
  intro p e s m below meth c A ls R args Q H locs hRe hQ hAe hx hb hr hlocks hml hown hnm hts hsz hA hS hP hK hD hZ hl
  have hRf : R.frames = 14 := by rw [hRe]
  have hRl : R.locals = 300 := by rw [hRe]
  have hRc : R.cells = 0 := by rw [hRe]
  have hRs : R.slots = 0 := by rw [hRe]
  refine lv_aload_n hx hb dX12_lost_0 rfl (lv_at hl 0 rfl) ?_
  refine lv_iconst (v := 0) hx hb dX12_lost_1 (by decide) ?_
  refine va_put (D := G) (ci := 12) (v := .int 0) (ty := tyX12 0) (C := RX12) (T := TX12) (N := 38) hx hb hts (mm_i inlX12) tyX12 tyX12_ok nmX12 hown hK.1 hP hD hS 0 rfl rfl 0 (by decide) (mm_h hts mm_w177) (fun _ h9 => h9) rfl (tyX12_ok 0 (by decide)) rfl rfl (Nat.le_of_ble_eq_true rfl) dX12_lost_2 ?_
  clear hP hD hS
  clear H locs
  intro H locs (hP : va_P G vwCl [(a_0, .inr (12, [.int 0, .ref a_1, .ref a_2, .ref a_3, .ref a_4, .ref a_5, .int i_4, .int i_5, .int i_6, .int i_7, .int i_8, .long j_0, .int i_9, .int i_10, .int i_11, .int i_12, .ref a_6, .ref a_7, .ref a_8, .ref a_9, .ref a_10, .ref a_11, .ref a_12, .ref a_13, .ref a_14, .ref a_15, .ref a_16, .ref a_17, .ref a_18, .int i_13, .int i_14, .int i_15, .int i_16, .int i_17, .int i_18, .ref a_19, .int i_19, .ref a_20])), (a_6, .inl (cy 1, 5, .inl (mm_g [i_20, i_21, i_22, i_23, i_24]))), (a_7, .inl (cy 1, 30, .inl (mm_g [i_25, i_26, i_27, i_28, i_29, i_30, i_31, i_32, i_33, i_34, i_35, i_36, i_37, i_38, i_39, i_40, i_41, i_42, i_43, i_44, i_45, i_46, i_47, i_48, i_49, i_50, i_51, i_52, i_53, i_54]))), (a_8, .inl (cy 1, 90, .inl f_0)), (a_9, .inl (cy 1, 15, .inl f_1)), (a_10, .inl (cy 1, 1050, .inl f_2)), (a_11, .inl (cy 1, 30, .inl f_3)), (a_12, .inl (cy 1, 240, .inl f_4)), (a_13, .inl (cy 1, 450, .inl f_5)), (a_15, .inl (cy 1, 7200, .inl f_6)), (a_16, .inl (cy 1, 3, .inl f_7)), (a_17, .inl (cy 1, 3, .inl f_8)), (a_18, .inl (cy 1, 8, .inl f_9))] H) (hD : va_D A [(a_0, .inr (12, [.int 0, .ref a_1, .ref a_2, .ref a_3, .ref a_4, .ref a_5, .int i_4, .int i_5, .int i_6, .int i_7, .int i_8, .long j_0, .int i_9, .int i_10, .int i_11, .int i_12, .ref a_6, .ref a_7, .ref a_8, .ref a_9, .ref a_10, .ref a_11, .ref a_12, .ref a_13, .ref a_14, .ref a_15, .ref a_16, .ref a_17, .ref a_18, .int i_13, .int i_14, .int i_15, .int i_16, .int i_17, .int i_18, .ref a_19, .int i_19, .ref a_20])), (a_6, .inl (cy 1, 5, .inl (mm_g [i_20, i_21, i_22, i_23, i_24]))), (a_7, .inl (cy 1, 30, .inl (mm_g [i_25, i_26, i_27, i_28, i_29, i_30, i_31, i_32, i_33, i_34, i_35, i_36, i_37, i_38, i_39, i_40, i_41, i_42, i_43, i_44, i_45, i_46, i_47, i_48, i_49, i_50, i_51, i_52, i_53, i_54]))), (a_8, .inl (cy 1, 90, .inl f_0)), (a_9, .inl (cy 1, 15, .inl f_1)), (a_10, .inl (cy 1, 1050, .inl f_2)), (a_11, .inl (cy 1, 30, .inl f_3)), (a_12, .inl (cy 1, 240, .inl f_4)), (a_13, .inl (cy 1, 450, .inl f_5)), (a_15, .inl (cy 1, 7200, .inl f_6)), (a_16, .inl (cy 1, 3, .inl f_7)), (a_17, .inl (cy 1, 3, .inl f_8)), (a_18, .inl (cy 1, 8, .inl f_9))]) hS
  refine lv_aload_n hx hb dX12_lost_5 rfl (lv_at hl 0 rfl) ?_
  refine lv_iload_n hx hb dX12_lost_6 rfl (lv_at hl 1 rfl) ?_
  refine lv_iload_n hx hb dX12_lost_7 rfl (lv_at hl 2 rfl) ?_
  refine mm_finir (va_runV (As := [.int i_0, .int i_1]) (rest := []) ⟨hx, hb, hml, hown, hts⟩ (M104_X12_isThen l G cy H.size a_0 i_0 i_1 0 a_1 a_2 a_3 a_4 a_5 i_4 i_5 i_6 i_7 i_8 j_0 i_9 i_10 i_11 i_12 a_6 a_7 a_8 a_9 a_10 a_11 a_12 a_13 a_14 a_15 a_16 a_17 a_18 i_13 i_14 i_15 i_16 i_17 i_18 a_19 i_19 a_20 i_25 i_26 i_27 i_28 i_29 i_30 i_31 i_32 i_33 i_34 i_35 i_36 i_37 i_38 i_39 i_40 i_41 i_42 i_43 i_44 i_45 i_46 i_47 i_48 i_49 i_50 i_51 i_52 i_53 i_54 h6 h7 h8 h9 h10 h11 h12 h13 h14 h15 h16 h17 h18 h19 h20 h21 h22 h23 h24 h25 h26 h27 h28 h29 h30 h31 h32 h33 h34 h35) (cwV 2 hts (mm_gV mm_w678 mm_w679 mm_w680 mm_w5 mm_w681) rfl rfl rfl hd_X12_isThen ⟨by rw [hRf]; exact Nat.le_of_ble_eq_true rfl, by rw [hRl]; exact Nat.le_of_ble_eq_true rfl⟩) (mm_preV hK hZ hS hA hP hD [0, 2] rfl rfl 0 rfl rfl rfl) rfl rfl hl.1 rfl (lv_room (Nat.le_of_ble_eq_true rfl)) dX12_lost_8 ⟨by rw [hRc]; exact Nat.le_of_ble_eq_true rfl, by rw [hRs]; exact Nat.le_of_ble_eq_true rfl⟩) hP hD hS hA [0, 2] rfl (fun _ => rfl) ?_
  clear hP hD hS
  clear H locs
  intro v1 _u H locs hw hP hD hS
  rcases hw with rfl | ⟨rfl, w2, w3, w4⟩
  · refine lv_if_eq (tgt := 23) hx hb dX12_lost_11 (by decide) (fun c5 => ?_) (fun c5 => ?_)
    · refine lv_bipush (v := (-2)) hx hb dX12_lost_23 (by decide) ?_
      subst hAe
      rw [hQ]
      exact W.iret (v := (-2)) hx hb hr (fun t ht hW => ⟨⟨(-2), (i_13, i_14, i_15, f_6, f_7, f_8, f_9), rfl, ⟨h0, h42, h43, h44, h45, trivial⟩, by rw [ht]; exact hP, hK.warm hW, hD⟩, hS.F ht⟩) hS.2.2 dX12_lost_25
    · exact absurd rfl (mm_ne c5)
  · have q6 := mm_ltR (lo := 1) w4 w2 h9 (by decide)
    have q7 : mm_rg i_20 1 601 := mm_tl_3 h49 q6 h1 (by decide)
    refine lv_if_eq (tgt := 23) hx hb dX12_lost_11 (by decide) (fun c8 => ?_) (fun c8 => ?_)
    · exact mm_eqN c8.symm mm_k0 mm_k1 (by decide)
    · refine lv_aload_n hx hb dX12_lost_14 rfl (lv_at hl 0 rfl) ?_
      refine lv_iload_n hx hb dX12_lost_15 rfl (lv_at hl 3 rfl) ?_
      obtain ⟨v9, ev9⟩ : ∃ y : Int64, y = i_2.toInt64 := ⟨_, rfl⟩
      refine lv_i2l hx hb dX12_lost_16 ev9.symm ?_
      have rv9 : mm_rl v9 (-2147483648) 2147483647 := mm_i2l ev9 (mm_top i_2)
      refine mm_finir (va_runV (As := [.long v9]) (rest := []) ⟨hx, hb, hml, hown, hts⟩ (M96_X12_isText l G cy H.size a_0 v9 0 a_1 a_2 a_3 a_4 a_5 i_4 i_5 i_6 i_7 i_8 j_0 i_9 i_10 i_11 i_12 a_6 a_7 a_8 a_9 a_10 a_11 a_12 a_13 a_14 a_15 a_16 a_17 a_18 i_13 i_14 i_15 i_16 i_17 i_18 a_19 i_19 a_20 i_25 i_26 i_27 i_28 i_29 i_30 i_31 i_32 i_33 i_34 i_35 i_36 i_37 i_38 i_39 i_40 i_41 i_42 i_43 i_44 i_45 i_46 i_47 i_48 i_49 i_50 i_51 i_52 i_53 i_54 h6 h7 h8 (mm_wk q6 (by decide)) h10 h11 h12 h13 h14 h15 h16 h17 h18 h19 h20 h21 h22 h23 h24 h25 h26 h27 h28 h29 h30 h31 h32 h33 h34 h35) (cwV 1 hts (mm_gV mm_w613 mm_w614 mm_w615 mm_w5 mm_w616) rfl rfl rfl hd_X12_isText ⟨by rw [hRf]; exact Nat.le_of_ble_eq_true rfl, by rw [hRl]; exact Nat.le_of_ble_eq_true rfl⟩) (mm_preV hK hZ hS hA hP hD [0, 2] rfl rfl 0 rfl rfl rfl) rfl rfl hl.1 rfl (lv_room (Nat.le_of_ble_eq_true rfl)) dX12_lost_17 ⟨by rw [hRc]; exact Nat.le_of_ble_eq_true rfl, by rw [hRs]; exact Nat.le_of_ble_eq_true rfl⟩) hP hD hS hA [0, 2] rfl (fun _ => rfl) ?_
      clear hP hD hS
      clear H locs
      intro v10 _u H locs hw hP hD hS
      rcases hw with rfl | ⟨rfl, w11, w12⟩
      · refine lv_if_ne (tgt := 26) hx hb dX12_lost_20 (by decide) (fun c13 => ?_) (fun c13 => ?_)
        · exact absurd rfl (mm_ne c13)
        · refine lv_bipush (v := (-2)) hx hb dX12_lost_23 (by decide) ?_
          subst hAe
          rw [hQ]
          exact W.iret (v := (-2)) hx hb hr (fun t ht hW => ⟨⟨(-2), (i_13, i_14, i_15, f_6, f_7, f_8, f_9), rfl, ⟨h0, h42, h43, h44, h45, trivial⟩, by rw [ht]; exact hP, hK.warm hW, hD⟩, hS.F ht⟩) hS.2.2 dX12_lost_25
      · have q14 := mm_meet (lo := 0) (hi := 5) (mm_l2x ev9 w11) (mm_top i_2) (by decide)
        have w15 := mm_tx_lt w12 (mm_i2lE ev9)
        have q16 := mm_ltR (lo := 1) w15 q14 h10 (by decide)
        refine lv_if_ne (tgt := 26) hx hb dX12_lost_20 (by decide) (fun c17 => ?_) (fun c17 => ?_)
        · refine lv_aload_n hx hb dX12_lost_26 rfl (lv_at hl 0 rfl) ?_
          refine mm_finv (va_runV (As := []) (rest := []) ⟨hx, hb, hml, hown, hts⟩ (M125_X12_lays l G cy H.size a_0 0 a_1 a_2 a_3 a_4 a_5 i_4 i_5 i_6 i_7 i_8 j_0 i_9 i_10 i_11 i_12 a_6 a_7 a_8 a_9 a_10 a_11 a_12 a_13 a_14 a_15 a_16 a_17 a_18 i_13 i_14 i_15 i_16 i_17 i_18 a_19 i_19 a_20 i_20 i_21 i_22 i_23 i_24 i_25 i_26 i_27 i_28 i_29 i_30 i_31 i_32 i_33 i_34 i_35 i_36 i_37 i_38 i_39 i_40 i_41 i_42 i_43 i_44 i_45 i_46 i_47 i_48 i_49 i_50 i_51 i_52 i_53 i_54 f_1 f_2 f_5 f_6 f_7 f_8 (mm_wk q7 (by decide)) h2 h3 h4 h5 h6 h7 h8 (mm_wk q6 (by decide)) (mm_wk q16 (by decide)) h11 h12 h13 h14 h15 h16 h17 h18 h19 h20 h21 h22 h23 h24 h25 h26 h27 h28 h29 h30 h31 h32 h33 h34 h35 h37 h38 h41 h42 h43 h44 h46 h48 h49 h50 h52 h53 h54 h56 h57 h58 h60 h61) (cwV 0 hts (mm_gV mm_w686 mm_w687 mm_w688 mm_w5 mm_w689) rfl rfl rfl hd_X12_lays ⟨by rw [hRf]; exact Nat.le_of_ble_eq_true rfl, by rw [hRl]; exact Nat.le_of_ble_eq_true rfl⟩) (mm_preV hK hZ hS hA hP hD [0, 1, 2, 4, 5, 8, 9, 10, 11] rfl rfl 0 rfl rfl rfl) rfl rfl hl.1 rfl (lv_room (Nat.le_of_ble_eq_true rfl)) dX12_lost_27 ⟨by rw [hRc]; exact Nat.le_of_ble_eq_true rfl, by rw [hRs]; exact Nat.le_of_ble_eq_true rfl⟩) hP hD hS hA (fun u : (Nat → Int32) × (Nat → Int32) × (Nat → Int32) => [(a_0, .inr (12, [.int 0, .ref a_1, .ref a_2, .ref a_3, .ref a_4, .ref a_5, .int i_4, .int i_5, .int i_6, .int i_7, .int i_8, .long j_0, .int i_9, .int i_10, .int i_11, .int i_12, .ref a_6, .ref a_7, .ref a_8, .ref a_9, .ref a_10, .ref a_11, .ref a_12, .ref a_13, .ref a_14, .ref a_15, .ref a_16, .ref a_17, .ref a_18, .int i_13, .int i_14, .int i_15, .int i_16, .int i_17, .int i_18, .ref a_19, .int i_19, .ref a_20])), (a_6, .inl (cy 1, 5, .inl (mm_g [i_20, i_21, i_22, i_23, i_24]))), (a_7, .inl (cy 1, 30, .inl (mm_g [i_25, i_26, i_27, i_28, i_29, i_30, i_31, i_32, i_33, i_34, i_35, i_36, i_37, i_38, i_39, i_40, i_41, i_42, i_43, i_44, i_45, i_46, i_47, i_48, i_49, i_50, i_51, i_52, i_53, i_54]))), (a_8, .inl (cy 1, 90, .inl f_0)), (a_9, .inl (cy 1, 15, .inl f_1)), (a_10, .inl (cy 1, 1050, .inl f_2)), (a_11, .inl (cy 1, 30, .inl f_3)), (a_12, .inl (cy 1, 240, .inl f_4)), (a_13, .inl (cy 1, 450, .inl f_5)), (a_15, .inl (cy 1, 7200, .inl u.1)), (a_16, .inl (cy 1, 3, .inl u.2.1)), (a_17, .inl (cy 1, 3, .inl u.2.2)), (a_18, .inl (cy 1, 8, .inl f_9))]) [0, 1, 2, 4, 5, 8, 9, 10, 11] [3, 6, 7, 12] (n := 13) (fun _ => rfl) (by decide +kernel) (by decide +kernel) rfl (fun _ => rfl) (wr := [(a_8, .inl (cy 1, 90, .inl f_0)), (a_11, .inl (cy 1, 30, .inl f_3)), (a_12, .inl (cy 1, 240, .inl f_4)), (a_18, .inl (cy 1, 8, .inl f_9))]) rfl (fun _ => rfl) (fun _ => @rfl _ ([a_0, a_6, a_7, a_9, a_10, a_13, a_15, a_16, a_17] : List Nat)) ?_
          clear hP hD hS
          clear H locs
          intro u
          obtain ⟨n18, n19, n20⟩ := u
          intro H locs hw (hP : va_P G vwCl [(a_0, .inr (12, [.int 0, .ref a_1, .ref a_2, .ref a_3, .ref a_4, .ref a_5, .int i_4, .int i_5, .int i_6, .int i_7, .int i_8, .long j_0, .int i_9, .int i_10, .int i_11, .int i_12, .ref a_6, .ref a_7, .ref a_8, .ref a_9, .ref a_10, .ref a_11, .ref a_12, .ref a_13, .ref a_14, .ref a_15, .ref a_16, .ref a_17, .ref a_18, .int i_13, .int i_14, .int i_15, .int i_16, .int i_17, .int i_18, .ref a_19, .int i_19, .ref a_20])), (a_6, .inl (cy 1, 5, .inl (mm_g [i_20, i_21, i_22, i_23, i_24]))), (a_7, .inl (cy 1, 30, .inl (mm_g [i_25, i_26, i_27, i_28, i_29, i_30, i_31, i_32, i_33, i_34, i_35, i_36, i_37, i_38, i_39, i_40, i_41, i_42, i_43, i_44, i_45, i_46, i_47, i_48, i_49, i_50, i_51, i_52, i_53, i_54]))), (a_8, .inl (cy 1, 90, .inl f_0)), (a_9, .inl (cy 1, 15, .inl f_1)), (a_10, .inl (cy 1, 1050, .inl f_2)), (a_11, .inl (cy 1, 30, .inl f_3)), (a_12, .inl (cy 1, 240, .inl f_4)), (a_13, .inl (cy 1, 450, .inl f_5)), (a_15, .inl (cy 1, 7200, .inl n18)), (a_16, .inl (cy 1, 3, .inl n19)), (a_17, .inl (cy 1, 3, .inl n20)), (a_18, .inl (cy 1, 8, .inl f_9))] H) (hD : va_D A [(a_0, .inr (12, [.int 0, .ref a_1, .ref a_2, .ref a_3, .ref a_4, .ref a_5, .int i_4, .int i_5, .int i_6, .int i_7, .int i_8, .long j_0, .int i_9, .int i_10, .int i_11, .int i_12, .ref a_6, .ref a_7, .ref a_8, .ref a_9, .ref a_10, .ref a_11, .ref a_12, .ref a_13, .ref a_14, .ref a_15, .ref a_16, .ref a_17, .ref a_18, .int i_13, .int i_14, .int i_15, .int i_16, .int i_17, .int i_18, .ref a_19, .int i_19, .ref a_20])), (a_6, .inl (cy 1, 5, .inl (mm_g [i_20, i_21, i_22, i_23, i_24]))), (a_7, .inl (cy 1, 30, .inl (mm_g [i_25, i_26, i_27, i_28, i_29, i_30, i_31, i_32, i_33, i_34, i_35, i_36, i_37, i_38, i_39, i_40, i_41, i_42, i_43, i_44, i_45, i_46, i_47, i_48, i_49, i_50, i_51, i_52, i_53, i_54]))), (a_8, .inl (cy 1, 90, .inl f_0)), (a_9, .inl (cy 1, 15, .inl f_1)), (a_10, .inl (cy 1, 1050, .inl f_2)), (a_11, .inl (cy 1, 30, .inl f_3)), (a_12, .inl (cy 1, 240, .inl f_4)), (a_13, .inl (cy 1, 450, .inl f_5)), (a_15, .inl (cy 1, 7200, .inl n18)), (a_16, .inl (cy 1, 3, .inl n19)), (a_17, .inl (cy 1, 3, .inl n20)), (a_18, .inl (cy 1, 8, .inl f_9))]) hS
          obtain ⟨w21, w22, w23, w24, w25⟩ := hw
          replace w24 : mm_laid n19 n20 i_28 := w24
          replace w25 : mm_tab n18 n19 i_27 i_28 := w25
          refine lv_aload_n hx hb dX12_lost_30 rfl (lv_at hl 0 rfl) ?_
          refine lv_iload_n hx hb dX12_lost_31 rfl (lv_at hl 1 rfl) ?_
          refine lv_iload_n hx hb dX12_lost_32 rfl (lv_at hl 2 rfl) ?_
          refine lv_iload_n hx hb dX12_lost_33 rfl (lv_at hl 3 rfl) ?_
          refine mm_fini (va_runV (As := [.int i_0, .int i_1, .int i_2]) (rest := []) ⟨hx, hb, hml, hown, hts⟩ (M141_X12_reads l G cy H.size a_0 i_0 i_1 i_2 0 a_1 a_2 a_3 a_4 a_5 i_4 i_5 i_6 i_7 i_8 j_0 i_9 i_10 i_11 i_12 a_6 a_7 a_8 a_9 a_10 a_11 a_12 a_13 a_14 a_15 a_16 a_17 a_18 i_13 i_14 i_15 i_16 i_17 i_18 a_19 i_19 a_20 i_25 i_26 i_27 i_28 i_29 i_30 i_31 i_32 i_33 i_34 i_35 i_36 i_37 i_38 i_39 i_40 i_41 i_42 i_43 i_44 i_45 i_46 i_47 i_48 i_49 i_50 i_51 i_52 i_53 i_54 f_0 f_3 f_4 f_5 n18 n19 f_9 w2 (mm_wk w3 (by decide)) q14 h0 h6 h7 h8 (mm_wk q6 (by decide)) (mm_wk q16 (by decide)) h11 h12 h13 h14 h15 h16 h17 h18 h19 h20 h21 h22 h23 h24 h25 h26 h27 h28 h29 h30 h31 h32 h33 h34 h35 h36 h39 h40 h41 w21 w22 h45 h47 h48 h51 h52 h55 h56 h59 h60 (mm_f1_l w24 w4 w2 (by decide))) (cwV 3 hts (mm_gV mm_w852 mm_w853 mm_w854 mm_w5 mm_w855) rfl rfl rfl hd_X12_reads ⟨by rw [hRf]; exact Nat.le_of_ble_eq_true rfl, by rw [hRl]; exact Nat.le_of_ble_eq_true rfl⟩) (mm_preV hK hZ hS hA hP hD [0, 2, 3, 6, 7, 8, 9, 10, 12] rfl rfl 0 rfl rfl rfl) rfl rfl hl.1 rfl (lv_room (Nat.le_of_ble_eq_true rfl)) dX12_lost_34 ⟨by rw [hRc]; exact Nat.le_of_ble_eq_true rfl, by rw [hRs]; exact Nat.le_of_ble_eq_true rfl⟩) hP hD hS hA (fun u : Int32 × Int32 × Int32 × (Nat → Int32) => [(a_0, .inr (12, [.int 0, .ref a_1, .ref a_2, .ref a_3, .ref a_4, .ref a_5, .int i_4, .int i_5, .int i_6, .int i_7, .int i_8, .long j_0, .int i_9, .int i_10, .int i_11, .int i_12, .ref a_6, .ref a_7, .ref a_8, .ref a_9, .ref a_10, .ref a_11, .ref a_12, .ref a_13, .ref a_14, .ref a_15, .ref a_16, .ref a_17, .ref a_18, .int u.1, .int u.2.1, .int u.2.2.1, .int i_16, .int i_17, .int i_18, .ref a_19, .int i_19, .ref a_20])), (a_6, .inl (cy 1, 5, .inl (mm_g [i_20, i_21, i_22, i_23, i_24]))), (a_7, .inl (cy 1, 30, .inl (mm_g [i_25, i_26, i_27, i_28, i_29, i_30, i_31, i_32, i_33, i_34, i_35, i_36, i_37, i_38, i_39, i_40, i_41, i_42, i_43, i_44, i_45, i_46, i_47, i_48, i_49, i_50, i_51, i_52, i_53, i_54]))), (a_8, .inl (cy 1, 90, .inl f_0)), (a_9, .inl (cy 1, 15, .inl f_1)), (a_10, .inl (cy 1, 1050, .inl f_2)), (a_11, .inl (cy 1, 30, .inl f_3)), (a_12, .inl (cy 1, 240, .inl f_4)), (a_13, .inl (cy 1, 450, .inl f_5)), (a_15, .inl (cy 1, 7200, .inl n18)), (a_16, .inl (cy 1, 3, .inl n19)), (a_17, .inl (cy 1, 3, .inl n20)), (a_18, .inl (cy 1, 8, .inl u.2.2.2))]) [0, 2, 3, 6, 7, 8, 9, 10, 12] [1, 4, 5, 11] (n := 13) (fun _ => rfl) (by decide +kernel) (by decide +kernel) rfl (fun _ => rfl) (wr := [(a_6, .inl (cy 1, 5, .inl (mm_g [i_20, i_21, i_22, i_23, i_24]))), (a_9, .inl (cy 1, 15, .inl f_1)), (a_10, .inl (cy 1, 1050, .inl f_2)), (a_17, .inl (cy 1, 3, .inl n20))]) rfl (fun _ => rfl) (fun _ => @rfl _ ([a_0, a_7, a_8, a_11, a_12, a_13, a_15, a_16, a_18] : List Nat)) ?_
          clear hP hD hS
          clear H locs
          intro v30 u
          obtain ⟨n26, n27, n28, n29⟩ := u
          intro H locs hw (hP : va_P G vwCl [(a_0, .inr (12, [.int 0, .ref a_1, .ref a_2, .ref a_3, .ref a_4, .ref a_5, .int i_4, .int i_5, .int i_6, .int i_7, .int i_8, .long j_0, .int i_9, .int i_10, .int i_11, .int i_12, .ref a_6, .ref a_7, .ref a_8, .ref a_9, .ref a_10, .ref a_11, .ref a_12, .ref a_13, .ref a_14, .ref a_15, .ref a_16, .ref a_17, .ref a_18, .int n26, .int n27, .int n28, .int i_16, .int i_17, .int i_18, .ref a_19, .int i_19, .ref a_20])), (a_6, .inl (cy 1, 5, .inl (mm_g [i_20, i_21, i_22, i_23, i_24]))), (a_7, .inl (cy 1, 30, .inl (mm_g [i_25, i_26, i_27, i_28, i_29, i_30, i_31, i_32, i_33, i_34, i_35, i_36, i_37, i_38, i_39, i_40, i_41, i_42, i_43, i_44, i_45, i_46, i_47, i_48, i_49, i_50, i_51, i_52, i_53, i_54]))), (a_8, .inl (cy 1, 90, .inl f_0)), (a_9, .inl (cy 1, 15, .inl f_1)), (a_10, .inl (cy 1, 1050, .inl f_2)), (a_11, .inl (cy 1, 30, .inl f_3)), (a_12, .inl (cy 1, 240, .inl f_4)), (a_13, .inl (cy 1, 450, .inl f_5)), (a_15, .inl (cy 1, 7200, .inl n18)), (a_16, .inl (cy 1, 3, .inl n19)), (a_17, .inl (cy 1, 3, .inl n20)), (a_18, .inl (cy 1, 8, .inl n29))] H) (hD : va_D A [(a_0, .inr (12, [.int 0, .ref a_1, .ref a_2, .ref a_3, .ref a_4, .ref a_5, .int i_4, .int i_5, .int i_6, .int i_7, .int i_8, .long j_0, .int i_9, .int i_10, .int i_11, .int i_12, .ref a_6, .ref a_7, .ref a_8, .ref a_9, .ref a_10, .ref a_11, .ref a_12, .ref a_13, .ref a_14, .ref a_15, .ref a_16, .ref a_17, .ref a_18, .int n26, .int n27, .int n28, .int i_16, .int i_17, .int i_18, .ref a_19, .int i_19, .ref a_20])), (a_6, .inl (cy 1, 5, .inl (mm_g [i_20, i_21, i_22, i_23, i_24]))), (a_7, .inl (cy 1, 30, .inl (mm_g [i_25, i_26, i_27, i_28, i_29, i_30, i_31, i_32, i_33, i_34, i_35, i_36, i_37, i_38, i_39, i_40, i_41, i_42, i_43, i_44, i_45, i_46, i_47, i_48, i_49, i_50, i_51, i_52, i_53, i_54]))), (a_8, .inl (cy 1, 90, .inl f_0)), (a_9, .inl (cy 1, 15, .inl f_1)), (a_10, .inl (cy 1, 1050, .inl f_2)), (a_11, .inl (cy 1, 30, .inl f_3)), (a_12, .inl (cy 1, 240, .inl f_4)), (a_13, .inl (cy 1, 450, .inl f_5)), (a_15, .inl (cy 1, 7200, .inl n18)), (a_16, .inl (cy 1, 3, .inl n19)), (a_17, .inl (cy 1, 3, .inl n20)), (a_18, .inl (cy 1, 8, .inl n29))]) hS
          obtain ⟨w31, w32, hw⟩ := hw
          obtain ⟨w33, w34⟩ := hw
          replace w34 : mm_rd n18 n19 f_0 f_3 f_4 f_5 i_0 i_1 i_2 i_26 i_27 i_30 v30 := w34
          refine lv_pop hx hb dX12_lost_37 rfl ?_
          refine lv_aload_n hx hb dX12_lost_38 rfl (lv_at hl 0 rfl) ?_
          refine va_get (D := G) (ci := 12) (v := .int n26) (C := RX12) (T := TX12) (N := 38) hx hb hts (mm_i inlX12) hown hK.1 hP 0 rfl rfl 29 (by decide) (mm_h hts mm_w860) (fun _ h9 => h9) rfl dX12_lost_39 ?_
          refine lv_aload_n hx hb dX12_lost_42 rfl (lv_at hl 0 rfl) ?_
          refine va_get (D := G) (ci := 12) (v := .int n27) (C := RX12) (T := TX12) (N := 38) hx hb hts (mm_i inlX12) hown hK.1 hP 0 rfl rfl 30 (by decide) (mm_h hts mm_w869) (fun _ h9 => h9) rfl dX12_lost_43 ?_
          refine lv_isub hx hb dX12_lost_46 ?_
          refine lv_topi (fun v35 ev35 => ?_)
          subst hAe
          rw [hQ]
          exact W.iret (v := v35) hx hb hr (fun t ht hW => ⟨⟨v35, (n26, n27, n28, n18, n19, n20, n29), rfl, ⟨w31, w21, w22, w23, w32, trivial⟩, by rw [ht]; exact hP, hK.warm hW, hD⟩, hS.F ht⟩) hS.2.2 dX12_lost_47
        · exact mm_eqN c17.symm mm_k0 mm_k1 (by decide)

set_option maxHeartbeats 4000000 in
set_option maxRecDepth 100000 in
theorem M178_X12_kinds (l : Launch) (G : va_G) (cy : Nat → ClassId) (sz : Nat) (a_0 : Nat) (i_0 : Int32) (i_1 : Int32) (i_2 : Int32) (i_3 : Int32) (a_1 : Nat) (a_2 : Nat) (a_3 : Nat) (a_4 : Nat) (a_5 : Nat) (i_4 : Int32) (i_5 : Int32) (i_6 : Int32) (i_7 : Int32) (i_8 : Int32) (j_0 : Int64) (i_9 : Int32) (i_10 : Int32) (i_11 : Int32) (i_12 : Int32) (a_6 : Nat) (a_7 : Nat) (a_8 : Nat) (a_9 : Nat) (a_10 : Nat) (a_11 : Nat) (a_12 : Nat) (a_13 : Nat) (a_14 : Nat) (a_15 : Nat) (a_16 : Nat) (a_17 : Nat) (a_18 : Nat) (i_13 : Int32) (i_14 : Int32) (i_15 : Int32) (i_16 : Int32) (i_17 : Int32) (i_18 : Int32) (a_19 : Nat) (i_19 : Int32) (a_20 : Nat) (i_20 : Int32) (i_21 : Int32) (i_22 : Int32) (i_23 : Int32) (i_24 : Int32) (i_25 : Int32) (i_26 : Int32) (i_27 : Int32) (i_28 : Int32) (i_29 : Int32) (i_30 : Int32) (i_31 : Int32) (i_32 : Int32) (i_33 : Int32) (i_34 : Int32) (i_35 : Int32) (i_36 : Int32) (i_37 : Int32) (i_38 : Int32) (i_39 : Int32) (i_40 : Int32) (i_41 : Int32) (i_42 : Int32) (i_43 : Int32) (i_44 : Int32) (i_45 : Int32) (i_46 : Int32) (i_47 : Int32) (i_48 : Int32) (i_49 : Int32) (i_50 : Int32) (i_51 : Int32) (i_52 : Int32) (i_53 : Int32) (i_54 : Int32) (f_0 : Nat → Int32) (f_1 : Nat → Int32) (f_2 : Nat → Int32) (f_3 : Nat → Int32) (f_4 : Nat → Int32) (f_5 : Nat → Int32) (f_6 : Nat → Int32) (f_7 : Nat → Int32) (f_8 : Nat → Int32) (f_9 : Nat → Int32) (h0 : mm_rg i_13 0 8) (h1 : mm_rg i_20 0 601) (h2 : mm_rg i_21 0 601) (h3 : mm_rg i_22 0 601) (h4 : mm_rg i_23 0 601) (h5 : mm_rg i_24 0 601) (h6 : mm_rg i_25 0 10) (h7 : mm_rg i_26 0 99) (h8 : mm_rg i_27 0 9) (h9 : mm_rg i_28 0 3) (h10 : mm_rg i_29 0 6) (h11 : mm_rg i_30 0 30) (h12 : mm_rg i_31 0 10) (h13 : mm_rg i_32 0 99) (h14 : mm_rg i_33 0 9) (h15 : mm_rg i_34 0 3) (h16 : mm_rg i_35 0 6) (h17 : mm_rg i_36 0 30) (h18 : mm_rg i_37 0 10) (h19 : mm_rg i_38 0 99) (h20 : mm_rg i_39 0 9) (h21 : mm_rg i_40 0 3) (h22 : mm_rg i_41 0 6) (h23 : mm_rg i_42 0 30) (h24 : mm_rg i_43 0 10) (h25 : mm_rg i_44 0 99) (h26 : mm_rg i_45 0 9) (h27 : mm_rg i_46 0 3) (h28 : mm_rg i_47 0 6) (h29 : mm_rg i_48 0 30) (h30 : mm_rg i_49 0 10) (h31 : mm_rg i_50 0 99) (h32 : mm_rg i_51 0 9) (h33 : mm_rg i_52 0 3) (h34 : mm_rg i_53 0 6) (h35 : mm_rg i_54 0 30) (h36 : mm_ar f_0 0 99) (h37 : mm_ar f_1 0 7) (h38 : mm_ar f_2 0 9) (h39 : mm_ar f_3 0 8) (h40 : mm_ar f_4 0 9) (h41 : mm_ar f_5 (-1) 99) (h42 : mm_ar f_6 0 9) (h43 : mm_ar f_7 0 210) (h44 : mm_ar f_8 0 210) (h45 : mm_ar f_9 0 9) (h46 : mm_rls f_1 f_2 0 i_27 i_28) (h47 : mm_txs f_3 f_4 0 i_27 i_29) (h48 : mm_acs f_5 0 i_27 i_28 i_30) (h49 : mm_tl i_20 i_28 i_29) (h50 : mm_rls f_1 f_2 1 i_33 i_34) (h51 : mm_txs f_3 f_4 1 i_33 i_35) (h52 : mm_acs f_5 1 i_33 i_34 i_36) (h53 : mm_tl i_21 i_34 i_35) (h54 : mm_rls f_1 f_2 2 i_39 i_40) (h55 : mm_txs f_3 f_4 2 i_39 i_41) (h56 : mm_acs f_5 2 i_39 i_40 i_42) (h57 : mm_tl i_22 i_40 i_41) (h58 : mm_rls f_1 f_2 3 i_45 i_46) (h59 : mm_txs f_3 f_4 3 i_45 i_47) (h60 : mm_acs f_5 3 i_45 i_46 i_48) (h61 : mm_tl i_23 i_46 i_47)  : mm_CI l yX12_kinds (mm_ws yX12_kinds cX12_kinds 4 (some .int)) ({ frames := 14, cells := 0, slots := 0, locals := 300 } : Room) G cy sz [(a_0, .inr (12, [.int i_3, .ref a_1, .ref a_2, .ref a_3, .ref a_4, .ref a_5, .int i_4, .int i_5, .int i_6, .int i_7, .int i_8, .long j_0, .int i_9, .int i_10, .int i_11, .int i_12, .ref a_6, .ref a_7, .ref a_8, .ref a_9, .ref a_10, .ref a_11, .ref a_12, .ref a_13, .ref a_14, .ref a_15, .ref a_16, .ref a_17, .ref a_18, .int i_13, .int i_14, .int i_15, .int i_16, .int i_17, .int i_18, .ref a_19, .int i_19, .ref a_20])), (a_6, .inl (cy 1, 5, .inl (mm_g [i_20, i_21, i_22, i_23, i_24]))), (a_7, .inl (cy 1, 30, .inl (mm_g [i_25, i_26, i_27, i_28, i_29, i_30, i_31, i_32, i_33, i_34, i_35, i_36, i_37, i_38, i_39, i_40, i_41, i_42, i_43, i_44, i_45, i_46, i_47, i_48, i_49, i_50, i_51, i_52, i_53, i_54]))), (a_8, .inl (cy 1, 90, .inl f_0)), (a_9, .inl (cy 1, 15, .inl f_1)), (a_10, .inl (cy 1, 1050, .inl f_2)), (a_11, .inl (cy 1, 30, .inl f_3)), (a_12, .inl (cy 1, 240, .inl f_4)), (a_13, .inl (cy 1, 450, .inl f_5)), (a_15, .inl (cy 1, 7200, .inl f_6)), (a_16, .inl (cy 1, 3, .inl f_7)), (a_17, .inl (cy 1, 3, .inl f_8)), (a_18, .inl (cy 1, 8, .inl f_9))] [.ref a_0, .int i_0, .int i_1, .int i_2] (fun u : Int32 × Int32 × Int32 × (Nat → Int32) × (Nat → Int32) × (Nat → Int32) × (Nat → Int32) => [(a_0, .inr (12, [.int 0, .ref a_1, .ref a_2, .ref a_3, .ref a_4, .ref a_5, .int i_4, .int i_5, .int i_6, .int i_7, .int i_8, .long j_0, .int i_9, .int i_10, .int i_11, .int i_12, .ref a_6, .ref a_7, .ref a_8, .ref a_9, .ref a_10, .ref a_11, .ref a_12, .ref a_13, .ref a_14, .ref a_15, .ref a_16, .ref a_17, .ref a_18, .int u.1, .int u.2.1, .int u.2.2.1, .int i_16, .int i_17, .int i_18, .ref a_19, .int i_19, .ref a_20])), (a_6, .inl (cy 1, 5, .inl (mm_g [i_20, i_21, i_22, i_23, i_24]))), (a_7, .inl (cy 1, 30, .inl (mm_g [i_25, i_26, i_27, i_28, i_29, i_30, i_31, i_32, i_33, i_34, i_35, i_36, i_37, i_38, i_39, i_40, i_41, i_42, i_43, i_44, i_45, i_46, i_47, i_48, i_49, i_50, i_51, i_52, i_53, i_54]))), (a_8, .inl (cy 1, 90, .inl f_0)), (a_9, .inl (cy 1, 15, .inl f_1)), (a_10, .inl (cy 1, 1050, .inl f_2)), (a_11, .inl (cy 1, 30, .inl f_3)), (a_12, .inl (cy 1, 240, .inl f_4)), (a_13, .inl (cy 1, 450, .inl f_5)), (a_15, .inl (cy 1, 7200, .inl u.2.2.2.1)), (a_16, .inl (cy 1, 3, .inl u.2.2.2.2.1)), (a_17, .inl (cy 1, 3, .inl u.2.2.2.2.2.1)), (a_18, .inl (cy 1, 8, .inl u.2.2.2.2.2.2))]) (fun (r : Int32) (u : Int32 × Int32 × Int32 × (Nat → Int32) × (Nat → Int32) × (Nat → Int32) × (Nat → Int32)) => mm_rg u.1 0 8 ∧ mm_ar u.2.2.2.1 0 9 ∧ mm_ar u.2.2.2.2.1 0 210 ∧ mm_ar u.2.2.2.2.2.1 0 210 ∧ mm_ar u.2.2.2.2.2.2 0 9 ∧ True) 0 0 := by
  refine mm_begin (lv := [(0, .ref a_0), (1, .int i_0), (2, .int i_1), (3, .int i_2)]) (by decide) (Nat.le_of_ble_eq_true rfl) rfl ?_
  intro p e s m below meth c A ls R args Q H locs hRe hQ hAe hx hb hr hlocks hml hown hnm hts hsz hA hS hP hK hD hZ hl
  have hRf : R.frames = 14 := by rw [hRe]
  have hRl : R.locals = 300 := by rw [hRe]
  have hRc : R.cells = 0 := by rw [hRe]
  have hRs : R.slots = 0 := by rw [hRe]
  refine lv_aload_n hx hb dX12_kinds_0 rfl (lv_at hl 0 rfl) ?_
  refine lv_iconst (v := 0) hx hb dX12_kinds_1 (by decide) ?_
  refine va_put (D := G) (ci := 12) (v := .int 0) (ty := tyX12 0) (C := RX12) (T := TX12) (N := 38) hx hb hts (mm_i inlX12) tyX12 tyX12_ok nmX12 hown hK.1 hP hD hS 0 rfl rfl 0 (by decide) (mm_h hts mm_w177) (fun _ h9 => h9) rfl (tyX12_ok 0 (by decide)) rfl rfl (Nat.le_of_ble_eq_true rfl) dX12_kinds_2 ?_
  clear hP hD hS
  clear H locs
  intro H locs (hP : va_P G vwCl [(a_0, .inr (12, [.int 0, .ref a_1, .ref a_2, .ref a_3, .ref a_4, .ref a_5, .int i_4, .int i_5, .int i_6, .int i_7, .int i_8, .long j_0, .int i_9, .int i_10, .int i_11, .int i_12, .ref a_6, .ref a_7, .ref a_8, .ref a_9, .ref a_10, .ref a_11, .ref a_12, .ref a_13, .ref a_14, .ref a_15, .ref a_16, .ref a_17, .ref a_18, .int i_13, .int i_14, .int i_15, .int i_16, .int i_17, .int i_18, .ref a_19, .int i_19, .ref a_20])), (a_6, .inl (cy 1, 5, .inl (mm_g [i_20, i_21, i_22, i_23, i_24]))), (a_7, .inl (cy 1, 30, .inl (mm_g [i_25, i_26, i_27, i_28, i_29, i_30, i_31, i_32, i_33, i_34, i_35, i_36, i_37, i_38, i_39, i_40, i_41, i_42, i_43, i_44, i_45, i_46, i_47, i_48, i_49, i_50, i_51, i_52, i_53, i_54]))), (a_8, .inl (cy 1, 90, .inl f_0)), (a_9, .inl (cy 1, 15, .inl f_1)), (a_10, .inl (cy 1, 1050, .inl f_2)), (a_11, .inl (cy 1, 30, .inl f_3)), (a_12, .inl (cy 1, 240, .inl f_4)), (a_13, .inl (cy 1, 450, .inl f_5)), (a_15, .inl (cy 1, 7200, .inl f_6)), (a_16, .inl (cy 1, 3, .inl f_7)), (a_17, .inl (cy 1, 3, .inl f_8)), (a_18, .inl (cy 1, 8, .inl f_9))] H) (hD : va_D A [(a_0, .inr (12, [.int 0, .ref a_1, .ref a_2, .ref a_3, .ref a_4, .ref a_5, .int i_4, .int i_5, .int i_6, .int i_7, .int i_8, .long j_0, .int i_9, .int i_10, .int i_11, .int i_12, .ref a_6, .ref a_7, .ref a_8, .ref a_9, .ref a_10, .ref a_11, .ref a_12, .ref a_13, .ref a_14, .ref a_15, .ref a_16, .ref a_17, .ref a_18, .int i_13, .int i_14, .int i_15, .int i_16, .int i_17, .int i_18, .ref a_19, .int i_19, .ref a_20])), (a_6, .inl (cy 1, 5, .inl (mm_g [i_20, i_21, i_22, i_23, i_24]))), (a_7, .inl (cy 1, 30, .inl (mm_g [i_25, i_26, i_27, i_28, i_29, i_30, i_31, i_32, i_33, i_34, i_35, i_36, i_37, i_38, i_39, i_40, i_41, i_42, i_43, i_44, i_45, i_46, i_47, i_48, i_49, i_50, i_51, i_52, i_53, i_54]))), (a_8, .inl (cy 1, 90, .inl f_0)), (a_9, .inl (cy 1, 15, .inl f_1)), (a_10, .inl (cy 1, 1050, .inl f_2)), (a_11, .inl (cy 1, 30, .inl f_3)), (a_12, .inl (cy 1, 240, .inl f_4)), (a_13, .inl (cy 1, 450, .inl f_5)), (a_15, .inl (cy 1, 7200, .inl f_6)), (a_16, .inl (cy 1, 3, .inl f_7)), (a_17, .inl (cy 1, 3, .inl f_8)), (a_18, .inl (cy 1, 8, .inl f_9))]) hS
  refine lv_aload_n hx hb dX12_kinds_5 rfl (lv_at hl 0 rfl) ?_
  refine lv_iload_n hx hb dX12_kinds_6 rfl (lv_at hl 1 rfl) ?_
  refine lv_iload_n hx hb dX12_kinds_7 rfl (lv_at hl 2 rfl) ?_
  refine mm_finir (va_runV (As := [.int i_0, .int i_1]) (rest := []) ⟨hx, hb, hml, hown, hts⟩ (M104_X12_isThen l G cy H.size a_0 i_0 i_1 0 a_1 a_2 a_3 a_4 a_5 i_4 i_5 i_6 i_7 i_8 j_0 i_9 i_10 i_11 i_12 a_6 a_7 a_8 a_9 a_10 a_11 a_12 a_13 a_14 a_15 a_16 a_17 a_18 i_13 i_14 i_15 i_16 i_17 i_18 a_19 i_19 a_20 i_25 i_26 i_27 i_28 i_29 i_30 i_31 i_32 i_33 i_34 i_35 i_36 i_37 i_38 i_39 i_40 i_41 i_42 i_43 i_44 i_45 i_46 i_47 i_48 i_49 i_50 i_51 i_52 i_53 i_54 h6 h7 h8 h9 h10 h11 h12 h13 h14 h15 h16 h17 h18 h19 h20 h21 h22 h23 h24 h25 h26 h27 h28 h29 h30 h31 h32 h33 h34 h35) (cwV 2 hts (mm_gV mm_w678 mm_w679 mm_w680 mm_w5 mm_w681) rfl rfl rfl hd_X12_isThen ⟨by rw [hRf]; exact Nat.le_of_ble_eq_true rfl, by rw [hRl]; exact Nat.le_of_ble_eq_true rfl⟩) (mm_preV hK hZ hS hA hP hD [0, 2] rfl rfl 0 rfl rfl rfl) rfl rfl hl.1 rfl (lv_room (Nat.le_of_ble_eq_true rfl)) dX12_kinds_8 ⟨by rw [hRc]; exact Nat.le_of_ble_eq_true rfl, by rw [hRs]; exact Nat.le_of_ble_eq_true rfl⟩) hP hD hS hA [0, 2] rfl (fun _ => rfl) ?_
  clear hP hD hS
  clear H locs
  intro v1 _u H locs hw hP hD hS
  rcases hw with rfl | ⟨rfl, w2, w3, w4⟩
  · refine lv_if_eq (tgt := 23) hx hb dX12_kinds_11 (by decide) (fun c5 => ?_) (fun c5 => ?_)
    · refine lv_bipush (v := (-2)) hx hb dX12_kinds_23 (by decide) ?_
      subst hAe
      rw [hQ]
      exact W.iret (v := (-2)) hx hb hr (fun t ht hW => ⟨⟨(-2), (i_13, i_14, i_15, f_6, f_7, f_8, f_9), rfl, ⟨h0, h42, h43, h44, h45, trivial⟩, by rw [ht]; exact hP, hK.warm hW, hD⟩, hS.F ht⟩) hS.2.2 dX12_kinds_25
    · exact absurd rfl (mm_ne c5)
  · have q6 := mm_ltR (lo := 1) w4 w2 h9 (by decide)
    have q7 : mm_rg i_20 1 601 := mm_tl_3 h49 q6 h1 (by decide)
    refine lv_if_eq (tgt := 23) hx hb dX12_kinds_11 (by decide) (fun c8 => ?_) (fun c8 => ?_)
    · exact mm_eqN c8.symm mm_k0 mm_k1 (by decide)
    · refine lv_aload_n hx hb dX12_kinds_14 rfl (lv_at hl 0 rfl) ?_
      refine lv_iload_n hx hb dX12_kinds_15 rfl (lv_at hl 3 rfl) ?_
      obtain ⟨v9, ev9⟩ : ∃ y : Int64, y = i_2.toInt64 := ⟨_, rfl⟩
      refine lv_i2l hx hb dX12_kinds_16 ev9.symm ?_
      have rv9 : mm_rl v9 (-2147483648) 2147483647 := mm_i2l ev9 (mm_top i_2)
      refine mm_finir (va_runV (As := [.long v9]) (rest := []) ⟨hx, hb, hml, hown, hts⟩ (M96_X12_isText l G cy H.size a_0 v9 0 a_1 a_2 a_3 a_4 a_5 i_4 i_5 i_6 i_7 i_8 j_0 i_9 i_10 i_11 i_12 a_6 a_7 a_8 a_9 a_10 a_11 a_12 a_13 a_14 a_15 a_16 a_17 a_18 i_13 i_14 i_15 i_16 i_17 i_18 a_19 i_19 a_20 i_25 i_26 i_27 i_28 i_29 i_30 i_31 i_32 i_33 i_34 i_35 i_36 i_37 i_38 i_39 i_40 i_41 i_42 i_43 i_44 i_45 i_46 i_47 i_48 i_49 i_50 i_51 i_52 i_53 i_54 h6 h7 h8 (mm_wk q6 (by decide)) h10 h11 h12 h13 h14 h15 h16 h17 h18 h19 h20 h21 h22 h23 h24 h25 h26 h27 h28 h29 h30 h31 h32 h33 h34 h35) (cwV 1 hts (mm_gV mm_w613 mm_w614 mm_w615 mm_w5 mm_w616) rfl rfl rfl hd_X12_isText ⟨by rw [hRf]; exact Nat.le_of_ble_eq_true rfl, by rw [hRl]; exact Nat.le_of_ble_eq_true rfl⟩) (mm_preV hK hZ hS hA hP hD [0, 2] rfl rfl 0 rfl rfl rfl) rfl rfl hl.1 rfl (lv_room (Nat.le_of_ble_eq_true rfl)) dX12_kinds_17 ⟨by rw [hRc]; exact Nat.le_of_ble_eq_true rfl, by rw [hRs]; exact Nat.le_of_ble_eq_true rfl⟩) hP hD hS hA [0, 2] rfl (fun _ => rfl) ?_
      clear hP hD hS
      clear H locs
      intro v10 _u H locs hw hP hD hS
      rcases hw with rfl | ⟨rfl, w11, w12⟩
      · refine lv_if_ne (tgt := 26) hx hb dX12_kinds_20 (by decide) (fun c13 => ?_) (fun c13 => ?_)
        · exact absurd rfl (mm_ne c13)
        · refine lv_bipush (v := (-2)) hx hb dX12_kinds_23 (by decide) ?_
          subst hAe
          rw [hQ]
          exact W.iret (v := (-2)) hx hb hr (fun t ht hW => ⟨⟨(-2), (i_13, i_14, i_15, f_6, f_7, f_8, f_9), rfl, ⟨h0, h42, h43, h44, h45, trivial⟩, by rw [ht]; exact hP, hK.warm hW, hD⟩, hS.F ht⟩) hS.2.2 dX12_kinds_25
      · have q14 := mm_meet (lo := 0) (hi := 5) (mm_l2x ev9 w11) (mm_top i_2) (by decide)
        have w15 := mm_tx_lt w12 (mm_i2lE ev9)
        have q16 := mm_ltR (lo := 1) w15 q14 h10 (by decide)
        refine lv_if_ne (tgt := 26) hx hb dX12_kinds_20 (by decide) (fun c17 => ?_) (fun c17 => ?_)
        · refine lv_aload_n hx hb dX12_kinds_26 rfl (lv_at hl 0 rfl) ?_
          refine mm_finv (va_runV (As := []) (rest := []) ⟨hx, hb, hml, hown, hts⟩ (M125_X12_lays l G cy H.size a_0 0 a_1 a_2 a_3 a_4 a_5 i_4 i_5 i_6 i_7 i_8 j_0 i_9 i_10 i_11 i_12 a_6 a_7 a_8 a_9 a_10 a_11 a_12 a_13 a_14 a_15 a_16 a_17 a_18 i_13 i_14 i_15 i_16 i_17 i_18 a_19 i_19 a_20 i_20 i_21 i_22 i_23 i_24 i_25 i_26 i_27 i_28 i_29 i_30 i_31 i_32 i_33 i_34 i_35 i_36 i_37 i_38 i_39 i_40 i_41 i_42 i_43 i_44 i_45 i_46 i_47 i_48 i_49 i_50 i_51 i_52 i_53 i_54 f_1 f_2 f_5 f_6 f_7 f_8 (mm_wk q7 (by decide)) h2 h3 h4 h5 h6 h7 h8 (mm_wk q6 (by decide)) (mm_wk q16 (by decide)) h11 h12 h13 h14 h15 h16 h17 h18 h19 h20 h21 h22 h23 h24 h25 h26 h27 h28 h29 h30 h31 h32 h33 h34 h35 h37 h38 h41 h42 h43 h44 h46 h48 h49 h50 h52 h53 h54 h56 h57 h58 h60 h61) (cwV 0 hts (mm_gV mm_w686 mm_w687 mm_w688 mm_w5 mm_w689) rfl rfl rfl hd_X12_lays ⟨by rw [hRf]; exact Nat.le_of_ble_eq_true rfl, by rw [hRl]; exact Nat.le_of_ble_eq_true rfl⟩) (mm_preV hK hZ hS hA hP hD [0, 1, 2, 4, 5, 8, 9, 10, 11] rfl rfl 0 rfl rfl rfl) rfl rfl hl.1 rfl (lv_room (Nat.le_of_ble_eq_true rfl)) dX12_kinds_27 ⟨by rw [hRc]; exact Nat.le_of_ble_eq_true rfl, by rw [hRs]; exact Nat.le_of_ble_eq_true rfl⟩) hP hD hS hA (fun u : (Nat → Int32) × (Nat → Int32) × (Nat → Int32) => [(a_0, .inr (12, [.int 0, .ref a_1, .ref a_2, .ref a_3, .ref a_4, .ref a_5, .int i_4, .int i_5, .int i_6, .int i_7, .int i_8, .long j_0, .int i_9, .int i_10, .int i_11, .int i_12, .ref a_6, .ref a_7, .ref a_8, .ref a_9, .ref a_10, .ref a_11, .ref a_12, .ref a_13, .ref a_14, .ref a_15, .ref a_16, .ref a_17, .ref a_18, .int i_13, .int i_14, .int i_15, .int i_16, .int i_17, .int i_18, .ref a_19, .int i_19, .ref a_20])), (a_6, .inl (cy 1, 5, .inl (mm_g [i_20, i_21, i_22, i_23, i_24]))), (a_7, .inl (cy 1, 30, .inl (mm_g [i_25, i_26, i_27, i_28, i_29, i_30, i_31, i_32, i_33, i_34, i_35, i_36, i_37, i_38, i_39, i_40, i_41, i_42, i_43, i_44, i_45, i_46, i_47, i_48, i_49, i_50, i_51, i_52, i_53, i_54]))), (a_8, .inl (cy 1, 90, .inl f_0)), (a_9, .inl (cy 1, 15, .inl f_1)), (a_10, .inl (cy 1, 1050, .inl f_2)), (a_11, .inl (cy 1, 30, .inl f_3)), (a_12, .inl (cy 1, 240, .inl f_4)), (a_13, .inl (cy 1, 450, .inl f_5)), (a_15, .inl (cy 1, 7200, .inl u.1)), (a_16, .inl (cy 1, 3, .inl u.2.1)), (a_17, .inl (cy 1, 3, .inl u.2.2)), (a_18, .inl (cy 1, 8, .inl f_9))]) [0, 1, 2, 4, 5, 8, 9, 10, 11] [3, 6, 7, 12] (n := 13) (fun _ => rfl) (by decide +kernel) (by decide +kernel) rfl (fun _ => rfl) (wr := [(a_8, .inl (cy 1, 90, .inl f_0)), (a_11, .inl (cy 1, 30, .inl f_3)), (a_12, .inl (cy 1, 240, .inl f_4)), (a_18, .inl (cy 1, 8, .inl f_9))]) rfl (fun _ => rfl) (fun _ => @rfl _ ([a_0, a_6, a_7, a_9, a_10, a_13, a_15, a_16, a_17] : List Nat)) ?_
          clear hP hD hS
          clear H locs
          intro u
          obtain ⟨n18, n19, n20⟩ := u
          intro H locs hw (hP : va_P G vwCl [(a_0, .inr (12, [.int 0, .ref a_1, .ref a_2, .ref a_3, .ref a_4, .ref a_5, .int i_4, .int i_5, .int i_6, .int i_7, .int i_8, .long j_0, .int i_9, .int i_10, .int i_11, .int i_12, .ref a_6, .ref a_7, .ref a_8, .ref a_9, .ref a_10, .ref a_11, .ref a_12, .ref a_13, .ref a_14, .ref a_15, .ref a_16, .ref a_17, .ref a_18, .int i_13, .int i_14, .int i_15, .int i_16, .int i_17, .int i_18, .ref a_19, .int i_19, .ref a_20])), (a_6, .inl (cy 1, 5, .inl (mm_g [i_20, i_21, i_22, i_23, i_24]))), (a_7, .inl (cy 1, 30, .inl (mm_g [i_25, i_26, i_27, i_28, i_29, i_30, i_31, i_32, i_33, i_34, i_35, i_36, i_37, i_38, i_39, i_40, i_41, i_42, i_43, i_44, i_45, i_46, i_47, i_48, i_49, i_50, i_51, i_52, i_53, i_54]))), (a_8, .inl (cy 1, 90, .inl f_0)), (a_9, .inl (cy 1, 15, .inl f_1)), (a_10, .inl (cy 1, 1050, .inl f_2)), (a_11, .inl (cy 1, 30, .inl f_3)), (a_12, .inl (cy 1, 240, .inl f_4)), (a_13, .inl (cy 1, 450, .inl f_5)), (a_15, .inl (cy 1, 7200, .inl n18)), (a_16, .inl (cy 1, 3, .inl n19)), (a_17, .inl (cy 1, 3, .inl n20)), (a_18, .inl (cy 1, 8, .inl f_9))] H) (hD : va_D A [(a_0, .inr (12, [.int 0, .ref a_1, .ref a_2, .ref a_3, .ref a_4, .ref a_5, .int i_4, .int i_5, .int i_6, .int i_7, .int i_8, .long j_0, .int i_9, .int i_10, .int i_11, .int i_12, .ref a_6, .ref a_7, .ref a_8, .ref a_9, .ref a_10, .ref a_11, .ref a_12, .ref a_13, .ref a_14, .ref a_15, .ref a_16, .ref a_17, .ref a_18, .int i_13, .int i_14, .int i_15, .int i_16, .int i_17, .int i_18, .ref a_19, .int i_19, .ref a_20])), (a_6, .inl (cy 1, 5, .inl (mm_g [i_20, i_21, i_22, i_23, i_24]))), (a_7, .inl (cy 1, 30, .inl (mm_g [i_25, i_26, i_27, i_28, i_29, i_30, i_31, i_32, i_33, i_34, i_35, i_36, i_37, i_38, i_39, i_40, i_41, i_42, i_43, i_44, i_45, i_46, i_47, i_48, i_49, i_50, i_51, i_52, i_53, i_54]))), (a_8, .inl (cy 1, 90, .inl f_0)), (a_9, .inl (cy 1, 15, .inl f_1)), (a_10, .inl (cy 1, 1050, .inl f_2)), (a_11, .inl (cy 1, 30, .inl f_3)), (a_12, .inl (cy 1, 240, .inl f_4)), (a_13, .inl (cy 1, 450, .inl f_5)), (a_15, .inl (cy 1, 7200, .inl n18)), (a_16, .inl (cy 1, 3, .inl n19)), (a_17, .inl (cy 1, 3, .inl n20)), (a_18, .inl (cy 1, 8, .inl f_9))]) hS
          obtain ⟨w21, w22, w23, w24, w25⟩ := hw
          replace w24 : mm_laid n19 n20 i_28 := w24
          replace w25 : mm_tab n18 n19 i_27 i_28 := w25
          refine lv_aload_n hx hb dX12_kinds_30 rfl (lv_at hl 0 rfl) ?_
          refine lv_iload_n hx hb dX12_kinds_31 rfl (lv_at hl 1 rfl) ?_
          refine lv_iload_n hx hb dX12_kinds_32 rfl (lv_at hl 2 rfl) ?_
          refine lv_iload_n hx hb dX12_kinds_33 rfl (lv_at hl 3 rfl) ?_
          refine mm_fini (va_runV (As := [.int i_0, .int i_1, .int i_2]) (rest := []) ⟨hx, hb, hml, hown, hts⟩ (M141_X12_reads l G cy H.size a_0 i_0 i_1 i_2 0 a_1 a_2 a_3 a_4 a_5 i_4 i_5 i_6 i_7 i_8 j_0 i_9 i_10 i_11 i_12 a_6 a_7 a_8 a_9 a_10 a_11 a_12 a_13 a_14 a_15 a_16 a_17 a_18 i_13 i_14 i_15 i_16 i_17 i_18 a_19 i_19 a_20 i_25 i_26 i_27 i_28 i_29 i_30 i_31 i_32 i_33 i_34 i_35 i_36 i_37 i_38 i_39 i_40 i_41 i_42 i_43 i_44 i_45 i_46 i_47 i_48 i_49 i_50 i_51 i_52 i_53 i_54 f_0 f_3 f_4 f_5 n18 n19 f_9 w2 (mm_wk w3 (by decide)) q14 h0 h6 h7 h8 (mm_wk q6 (by decide)) (mm_wk q16 (by decide)) h11 h12 h13 h14 h15 h16 h17 h18 h19 h20 h21 h22 h23 h24 h25 h26 h27 h28 h29 h30 h31 h32 h33 h34 h35 h36 h39 h40 h41 w21 w22 h45 h47 h48 h51 h52 h55 h56 h59 h60 (mm_f1_l w24 w4 w2 (by decide))) (cwV 3 hts (mm_gV mm_w852 mm_w853 mm_w854 mm_w5 mm_w855) rfl rfl rfl hd_X12_reads ⟨by rw [hRf]; exact Nat.le_of_ble_eq_true rfl, by rw [hRl]; exact Nat.le_of_ble_eq_true rfl⟩) (mm_preV hK hZ hS hA hP hD [0, 2, 3, 6, 7, 8, 9, 10, 12] rfl rfl 0 rfl rfl rfl) rfl rfl hl.1 rfl (lv_room (Nat.le_of_ble_eq_true rfl)) dX12_kinds_34 ⟨by rw [hRc]; exact Nat.le_of_ble_eq_true rfl, by rw [hRs]; exact Nat.le_of_ble_eq_true rfl⟩) hP hD hS hA (fun u : Int32 × Int32 × Int32 × (Nat → Int32) => [(a_0, .inr (12, [.int 0, .ref a_1, .ref a_2, .ref a_3, .ref a_4, .ref a_5, .int i_4, .int i_5, .int i_6, .int i_7, .int i_8, .long j_0, .int i_9, .int i_10, .int i_11, .int i_12, .ref a_6, .ref a_7, .ref a_8, .ref a_9, .ref a_10, .ref a_11, .ref a_12, .ref a_13, .ref a_14, .ref a_15, .ref a_16, .ref a_17, .ref a_18, .int u.1, .int u.2.1, .int u.2.2.1, .int i_16, .int i_17, .int i_18, .ref a_19, .int i_19, .ref a_20])), (a_6, .inl (cy 1, 5, .inl (mm_g [i_20, i_21, i_22, i_23, i_24]))), (a_7, .inl (cy 1, 30, .inl (mm_g [i_25, i_26, i_27, i_28, i_29, i_30, i_31, i_32, i_33, i_34, i_35, i_36, i_37, i_38, i_39, i_40, i_41, i_42, i_43, i_44, i_45, i_46, i_47, i_48, i_49, i_50, i_51, i_52, i_53, i_54]))), (a_8, .inl (cy 1, 90, .inl f_0)), (a_9, .inl (cy 1, 15, .inl f_1)), (a_10, .inl (cy 1, 1050, .inl f_2)), (a_11, .inl (cy 1, 30, .inl f_3)), (a_12, .inl (cy 1, 240, .inl f_4)), (a_13, .inl (cy 1, 450, .inl f_5)), (a_15, .inl (cy 1, 7200, .inl n18)), (a_16, .inl (cy 1, 3, .inl n19)), (a_17, .inl (cy 1, 3, .inl n20)), (a_18, .inl (cy 1, 8, .inl u.2.2.2))]) [0, 2, 3, 6, 7, 8, 9, 10, 12] [1, 4, 5, 11] (n := 13) (fun _ => rfl) (by decide +kernel) (by decide +kernel) rfl (fun _ => rfl) (wr := [(a_6, .inl (cy 1, 5, .inl (mm_g [i_20, i_21, i_22, i_23, i_24]))), (a_9, .inl (cy 1, 15, .inl f_1)), (a_10, .inl (cy 1, 1050, .inl f_2)), (a_17, .inl (cy 1, 3, .inl n20))]) rfl (fun _ => rfl) (fun _ => @rfl _ ([a_0, a_7, a_8, a_11, a_12, a_13, a_15, a_16, a_18] : List Nat)) ?_
          clear hP hD hS
          clear H locs
          intro v30 u
          obtain ⟨n26, n27, n28, n29⟩ := u
          intro H locs hw (hP : va_P G vwCl [(a_0, .inr (12, [.int 0, .ref a_1, .ref a_2, .ref a_3, .ref a_4, .ref a_5, .int i_4, .int i_5, .int i_6, .int i_7, .int i_8, .long j_0, .int i_9, .int i_10, .int i_11, .int i_12, .ref a_6, .ref a_7, .ref a_8, .ref a_9, .ref a_10, .ref a_11, .ref a_12, .ref a_13, .ref a_14, .ref a_15, .ref a_16, .ref a_17, .ref a_18, .int n26, .int n27, .int n28, .int i_16, .int i_17, .int i_18, .ref a_19, .int i_19, .ref a_20])), (a_6, .inl (cy 1, 5, .inl (mm_g [i_20, i_21, i_22, i_23, i_24]))), (a_7, .inl (cy 1, 30, .inl (mm_g [i_25, i_26, i_27, i_28, i_29, i_30, i_31, i_32, i_33, i_34, i_35, i_36, i_37, i_38, i_39, i_40, i_41, i_42, i_43, i_44, i_45, i_46, i_47, i_48, i_49, i_50, i_51, i_52, i_53, i_54]))), (a_8, .inl (cy 1, 90, .inl f_0)), (a_9, .inl (cy 1, 15, .inl f_1)), (a_10, .inl (cy 1, 1050, .inl f_2)), (a_11, .inl (cy 1, 30, .inl f_3)), (a_12, .inl (cy 1, 240, .inl f_4)), (a_13, .inl (cy 1, 450, .inl f_5)), (a_15, .inl (cy 1, 7200, .inl n18)), (a_16, .inl (cy 1, 3, .inl n19)), (a_17, .inl (cy 1, 3, .inl n20)), (a_18, .inl (cy 1, 8, .inl n29))] H) (hD : va_D A [(a_0, .inr (12, [.int 0, .ref a_1, .ref a_2, .ref a_3, .ref a_4, .ref a_5, .int i_4, .int i_5, .int i_6, .int i_7, .int i_8, .long j_0, .int i_9, .int i_10, .int i_11, .int i_12, .ref a_6, .ref a_7, .ref a_8, .ref a_9, .ref a_10, .ref a_11, .ref a_12, .ref a_13, .ref a_14, .ref a_15, .ref a_16, .ref a_17, .ref a_18, .int n26, .int n27, .int n28, .int i_16, .int i_17, .int i_18, .ref a_19, .int i_19, .ref a_20])), (a_6, .inl (cy 1, 5, .inl (mm_g [i_20, i_21, i_22, i_23, i_24]))), (a_7, .inl (cy 1, 30, .inl (mm_g [i_25, i_26, i_27, i_28, i_29, i_30, i_31, i_32, i_33, i_34, i_35, i_36, i_37, i_38, i_39, i_40, i_41, i_42, i_43, i_44, i_45, i_46, i_47, i_48, i_49, i_50, i_51, i_52, i_53, i_54]))), (a_8, .inl (cy 1, 90, .inl f_0)), (a_9, .inl (cy 1, 15, .inl f_1)), (a_10, .inl (cy 1, 1050, .inl f_2)), (a_11, .inl (cy 1, 30, .inl f_3)), (a_12, .inl (cy 1, 240, .inl f_4)), (a_13, .inl (cy 1, 450, .inl f_5)), (a_15, .inl (cy 1, 7200, .inl n18)), (a_16, .inl (cy 1, 3, .inl n19)), (a_17, .inl (cy 1, 3, .inl n20)), (a_18, .inl (cy 1, 8, .inl n29))]) hS
          obtain ⟨w31, w32, hw⟩ := hw
          obtain ⟨w33, w34⟩ := hw
          replace w34 : mm_rd n18 n19 f_0 f_3 f_4 f_5 i_0 i_1 i_2 i_26 i_27 i_30 v30 := w34
          refine lv_pop hx hb dX12_kinds_37 rfl ?_
          refine lv_aload_n hx hb dX12_kinds_38 rfl (lv_at hl 0 rfl) ?_
          refine va_get (D := G) (ci := 12) (v := .int n28) (C := RX12) (T := TX12) (N := 38) hx hb hts (mm_i inlX12) hown hK.1 hP 0 rfl rfl 31 (by decide) (mm_h hts mm_w870) (fun _ h9 => h9) rfl dX12_kinds_39 ?_
          subst hAe
          rw [hQ]
          exact W.iret (v := n28) hx hb hr (fun t ht hW => ⟨⟨n28, (n26, n27, n28, n18, n19, n20, n29), rfl, ⟨w31, w21, w22, w23, w32, trivial⟩, by rw [ht]; exact hP, hK.warm hW, hD⟩, hS.F ht⟩) hS.2.2 dX12_kinds_42
        · exact mm_eqN c17.symm mm_k0 mm_k1 (by decide)

