theorem dX10_firstDayUnlike_0 : decode cX10_firstDayUnlike 0 = .ok (.aload_n 0, 1) := by decide +kernel
theorem dX10_firstDayUnlike_1 : decode cX10_firstDayUnlike 1 = .ok (.iload_n 1, 1) := by decide +kernel
theorem dX10_firstDayUnlike_2 : decode cX10_firstDayUnlike 2 = .ok (.invokevirtual 55, 3) := by decide +kernel
theorem dX10_firstDayUnlike_5 : decode cX10_firstDayUnlike 5 = .ok (.aload_n 0, 1) := by decide +kernel
theorem dX10_firstDayUnlike_6 : decode cX10_firstDayUnlike 6 = .ok (.iload_n 2, 1) := by decide +kernel
theorem dX10_firstDayUnlike_7 : decode cX10_firstDayUnlike 7 = .ok (.invokevirtual 55, 3) := by decide +kernel
theorem dX10_firstDayUnlike_10 : decode cX10_firstDayUnlike 10 = .ok (.iadd, 1) := by decide +kernel
theorem dX10_firstDayUnlike_11 : decode cX10_firstDayUnlike 11 = .ok (.istore_n 3, 1) := by decide +kernel
theorem dX10_firstDayUnlike_12 : decode cX10_firstDayUnlike 12 = .ok (.iconst 0, 1) := by decide +kernel
theorem dX10_firstDayUnlike_13 : decode cX10_firstDayUnlike 13 = .ok (.istore 4, 2) := by decide +kernel
theorem dX10_firstDayUnlike_15 : decode cX10_firstDayUnlike 15 = .ok (.iload 4, 2) := by decide +kernel
theorem dX10_firstDayUnlike_17 : decode cX10_firstDayUnlike 17 = .ok (.iload_n 3, 1) := by decide +kernel
theorem dX10_firstDayUnlike_18 : decode cX10_firstDayUnlike 18 = .ok (.if_icmp .ge 26, 3) := by decide +kernel
theorem dX10_firstDayUnlike_21 : decode cX10_firstDayUnlike 21 = .ok (.aload_n 0, 1) := by decide +kernel
theorem dX10_firstDayUnlike_22 : decode cX10_firstDayUnlike 22 = .ok (.iload_n 1, 1) := by decide +kernel
theorem dX10_firstDayUnlike_23 : decode cX10_firstDayUnlike 23 = .ok (.iload 4, 2) := by decide +kernel
theorem dX10_firstDayUnlike_25 : decode cX10_firstDayUnlike 25 = .ok (.iload_n 2, 1) := by decide +kernel
theorem dX10_firstDayUnlike_26 : decode cX10_firstDayUnlike 26 = .ok (.iload 4, 2) := by decide +kernel
theorem dX10_firstDayUnlike_28 : decode cX10_firstDayUnlike 28 = .ok (.invokevirtual 58, 3) := by decide +kernel
theorem dX10_firstDayUnlike_31 : decode cX10_firstDayUnlike 31 = .ok (.iconst (-1), 1) := by decide +kernel
theorem dX10_firstDayUnlike_32 : decode cX10_firstDayUnlike 32 = .ok (.if_icmp .eq 6, 3) := by decide +kernel
theorem dX10_firstDayUnlike_35 : decode cX10_firstDayUnlike 35 = .ok (.iload 4, 2) := by decide +kernel
theorem dX10_firstDayUnlike_37 : decode cX10_firstDayUnlike 37 = .ok (.ireturn, 1) := by decide +kernel
theorem dX10_firstDayUnlike_38 : decode cX10_firstDayUnlike 38 = .ok (.iinc 4 1, 3) := by decide +kernel
theorem dX10_firstDayUnlike_41 : decode cX10_firstDayUnlike 41 = .ok (.goto (-26), 3) := by decide +kernel
theorem dX10_firstDayUnlike_44 : decode cX10_firstDayUnlike 44 = .ok (.iconst (-1), 1) := by decide +kernel
theorem dX10_firstDayUnlike_45 : decode cX10_firstDayUnlike 45 = .ok (.ireturn, 1) := by decide +kernel
theorem dX10_firstUnlike_0 : decode cX10_firstUnlike 0 = .ok (.iconst 0, 1) := by decide +kernel
theorem dX10_firstUnlike_1 : decode cX10_firstUnlike 1 = .ok (.istore 5, 2) := by decide +kernel
theorem dX10_firstUnlike_3 : decode cX10_firstUnlike 3 = .ok (.iload 5, 2) := by decide +kernel
theorem dX10_firstUnlike_5 : decode cX10_firstUnlike 5 = .ok (.aload_n 0, 1) := by decide +kernel
theorem dX10_firstUnlike_6 : decode cX10_firstUnlike 6 = .ok (.getfield 12, 3) := by decide +kernel
theorem dX10_firstUnlike_9 : decode cX10_firstUnlike 9 = .ok (.getfield 48, 3) := by decide +kernel
theorem dX10_firstUnlike_12 : decode cX10_firstUnlike 12 = .ok (.if_icmp .gt 32, 3) := by decide +kernel
theorem dX10_firstUnlike_15 : decode cX10_firstUnlike 15 = .ok (.aload_n 0, 1) := by decide +kernel
theorem dX10_firstUnlike_16 : decode cX10_firstUnlike 16 = .ok (.iload_n 1, 1) := by decide +kernel
theorem dX10_firstUnlike_17 : decode cX10_firstUnlike 17 = .ok (.iload_n 2, 1) := by decide +kernel
theorem dX10_firstUnlike_18 : decode cX10_firstUnlike 18 = .ok (.iload 5, 2) := by decide +kernel
theorem dX10_firstUnlike_20 : decode cX10_firstUnlike 20 = .ok (.invokevirtual 51, 3) := by decide +kernel
theorem dX10_firstUnlike_23 : decode cX10_firstUnlike 23 = .ok (.aload_n 0, 1) := by decide +kernel
theorem dX10_firstUnlike_24 : decode cX10_firstUnlike 24 = .ok (.iload_n 3, 1) := by decide +kernel
theorem dX10_firstUnlike_25 : decode cX10_firstUnlike 25 = .ok (.iload 4, 2) := by decide +kernel
theorem dX10_firstUnlike_27 : decode cX10_firstUnlike 27 = .ok (.iload 5, 2) := by decide +kernel
theorem dX10_firstUnlike_29 : decode cX10_firstUnlike 29 = .ok (.invokevirtual 51, 3) := by decide +kernel
theorem dX10_firstUnlike_32 : decode cX10_firstUnlike 32 = .ok (.if_icmp .eq 6, 3) := by decide +kernel
theorem dX10_firstUnlike_35 : decode cX10_firstUnlike 35 = .ok (.iload 5, 2) := by decide +kernel
theorem dX10_firstUnlike_37 : decode cX10_firstUnlike 37 = .ok (.ireturn, 1) := by decide +kernel
theorem dX10_firstUnlike_38 : decode cX10_firstUnlike 38 = .ok (.iinc 5 1, 3) := by decide +kernel
theorem dX10_firstUnlike_41 : decode cX10_firstUnlike 41 = .ok (.goto (-38), 3) := by decide +kernel
theorem dX10_firstUnlike_44 : decode cX10_firstUnlike 44 = .ok (.iconst (-1), 1) := by decide +kernel
theorem dX10_firstUnlike_45 : decode cX10_firstUnlike 45 = .ok (.ireturn, 1) := by decide +kernel
theorem dX11_alike_0 : decode cX11_alike 0 = .ok (.aload_n 0, 1) := by decide +kernel
theorem dX11_alike_1 : decode cX11_alike 1 = .ok (.iload_n 1, 1) := by decide +kernel
theorem dX11_alike_2 : decode cX11_alike 2 = .ok (.invokevirtual 145, 3) := by decide +kernel
theorem dX11_alike_5 : decode cX11_alike 5 = .ok (.ifCond .eq 23, 3) := by decide +kernel
theorem dX11_alike_8 : decode cX11_alike 8 = .ok (.aload_n 0, 1) := by decide +kernel
theorem dX11_alike_9 : decode cX11_alike 9 = .ok (.iload_n 2, 1) := by decide +kernel
theorem dX11_alike_10 : decode cX11_alike 10 = .ok (.invokevirtual 145, 3) := by decide +kernel
theorem dX11_alike_13 : decode cX11_alike 13 = .ok (.ifCond .eq 15, 3) := by decide +kernel
theorem dX11_alike_16 : decode cX11_alike 16 = .ok (.iload_n 3, 1) := by decide +kernel
theorem dX11_alike_17 : decode cX11_alike 17 = .ok (.iconst 1, 1) := by decide +kernel
theorem dX11_alike_18 : decode cX11_alike 18 = .ok (.if_icmp .lt 10, 3) := by decide +kernel
theorem dX11_alike_21 : decode cX11_alike 21 = .ok (.iload_n 3, 1) := by decide +kernel
theorem dX11_alike_22 : decode cX11_alike 22 = .ok (.sipush 10000, 3) := by decide +kernel
theorem dX11_alike_25 : decode cX11_alike 25 = .ok (.if_icmp .le 6, 3) := by decide +kernel
theorem dX11_alike_28 : decode cX11_alike 28 = .ok (.bipush (-2), 2) := by decide +kernel
theorem dX11_alike_30 : decode cX11_alike 30 = .ok (.ireturn, 1) := by decide +kernel
theorem dX11_alike_31 : decode cX11_alike 31 = .ok (.aload_n 0, 1) := by decide +kernel
theorem dX11_alike_32 : decode cX11_alike 32 = .ok (.getfield 28, 3) := by decide +kernel
theorem dX11_alike_35 : decode cX11_alike 35 = .ok (.iload_n 1, 1) := by decide +kernel
theorem dX11_alike_36 : decode cX11_alike 36 = .ok (.invokevirtual 170, 3) := by decide +kernel
theorem dX11_alike_39 : decode cX11_alike 39 = .ok (.aload_n 0, 1) := by decide +kernel
theorem dX11_alike_40 : decode cX11_alike 40 = .ok (.getfield 28, 3) := by decide +kernel
theorem dX11_alike_43 : decode cX11_alike 43 = .ok (.iload_n 2, 1) := by decide +kernel
theorem dX11_alike_44 : decode cX11_alike 44 = .ok (.invokevirtual 170, 3) := by decide +kernel
theorem dX11_alike_47 : decode cX11_alike 47 = .ok (.invokestatic 282, 3) := by decide +kernel
theorem dX11_alike_50 : decode cX11_alike 50 = .ok (.istore 4, 2) := by decide +kernel
theorem dX11_alike_52 : decode cX11_alike 52 = .ok (.iconst 0, 1) := by decide +kernel
theorem dX11_alike_53 : decode cX11_alike 53 = .ok (.istore 5, 2) := by decide +kernel
theorem dX11_alike_55 : decode cX11_alike 55 = .ok (.iconst 0, 1) := by decide +kernel
theorem dX11_alike_56 : decode cX11_alike 56 = .ok (.istore 6, 2) := by decide +kernel
theorem dX11_alike_58 : decode cX11_alike 58 = .ok (.iload 6, 2) := by decide +kernel
theorem dX11_alike_60 : decode cX11_alike 60 = .ok (.iload_n 3, 1) := by decide +kernel
theorem dX11_alike_61 : decode cX11_alike 61 = .ok (.if_icmp .ge 49, 3) := by decide +kernel
theorem dX11_alike_64 : decode cX11_alike 64 = .ok (.iload 6, 2) := by decide +kernel
theorem dX11_alike_66 : decode cX11_alike 66 = .ok (.iload 4, 2) := by decide +kernel
theorem dX11_alike_68 : decode cX11_alike 68 = .ok (.if_icmp .ge 42, 3) := by decide +kernel
theorem dX11_alike_71 : decode cX11_alike 71 = .ok (.aload_n 0, 1) := by decide +kernel
theorem dX11_alike_72 : decode cX11_alike 72 = .ok (.getfield 28, 3) := by decide +kernel
theorem dX11_alike_75 : decode cX11_alike 75 = .ok (.iload_n 1, 1) := by decide +kernel
theorem dX11_alike_76 : decode cX11_alike 76 = .ok (.iload 6, 2) := by decide +kernel
theorem dX11_alike_78 : decode cX11_alike 78 = .ok (.iload_n 2, 1) := by decide +kernel
theorem dX11_alike_79 : decode cX11_alike 79 = .ok (.iload 6, 2) := by decide +kernel
theorem dX11_alike_81 : decode cX11_alike 81 = .ok (.invokevirtual 276, 3) := by decide +kernel
theorem dX11_alike_84 : decode cX11_alike 84 = .ok (.iconst (-1), 1) := by decide +kernel
theorem dX11_alike_85 : decode cX11_alike 85 = .ok (.if_icmp .ne 19, 3) := by decide +kernel
theorem dX11_alike_88 : decode cX11_alike 88 = .ok (.iload 5, 2) := by decide +kernel
theorem dX11_alike_90 : decode cX11_alike 90 = .ok (.iload_n 3, 1) := by decide +kernel
theorem dX11_alike_91 : decode cX11_alike 91 = .ok (.iconst 1, 1) := by decide +kernel
theorem dX11_alike_92 : decode cX11_alike 92 = .ok (.isub, 1) := by decide +kernel
theorem dX11_alike_93 : decode cX11_alike 93 = .ok (.iload 6, 2) := by decide +kernel
theorem dX11_alike_95 : decode cX11_alike 95 = .ok (.isub, 1) := by decide +kernel
theorem dX11_alike_96 : decode cX11_alike 96 = .ok (.iload 4, 2) := by decide +kernel
theorem dX11_alike_98 : decode cX11_alike 98 = .ok (.idiv, 1) := by decide +kernel
theorem dX11_alike_99 : decode cX11_alike 99 = .ok (.iconst 1, 1) := by decide +kernel
theorem dX11_alike_100 : decode cX11_alike 100 = .ok (.iadd, 1) := by decide +kernel
theorem dX11_alike_101 : decode cX11_alike 101 = .ok (.iadd, 1) := by decide +kernel
theorem dX11_alike_102 : decode cX11_alike 102 = .ok (.istore 5, 2) := by decide +kernel
theorem dX11_alike_104 : decode cX11_alike 104 = .ok (.iinc 6 1, 3) := by decide +kernel
theorem dX11_alike_107 : decode cX11_alike 107 = .ok (.goto (-49), 3) := by decide +kernel
theorem dX11_alike_110 : decode cX11_alike 110 = .ok (.iload 5, 2) := by decide +kernel
theorem dX11_alike_112 : decode cX11_alike 112 = .ok (.ireturn, 1) := by decide +kernel
theorem dX11_carried_0 : decode cX11_carried 0 = .ok (.aload_n 0, 1) := by decide +kernel
theorem dX11_carried_1 : decode cX11_carried 1 = .ok (.iload_n 1, 1) := by decide +kernel
theorem dX11_carried_2 : decode cX11_carried 2 = .ok (.iload_n 2, 1) := by decide +kernel
theorem dX11_carried_3 : decode cX11_carried 3 = .ok (.iload_n 3, 1) := by decide +kernel
theorem dX11_carried_4 : decode cX11_carried 4 = .ok (.invokevirtual 191, 3) := by decide +kernel
theorem dX11_carried_7 : decode cX11_carried 7 = .ok (.ifCond .eq 20, 3) := by decide +kernel
theorem dX11_carried_10 : decode cX11_carried 10 = .ok (.aload_n 0, 1) := by decide +kernel
theorem dX11_carried_11 : decode cX11_carried 11 = .ok (.iload 4, 2) := by decide +kernel
theorem dX11_carried_13 : decode cX11_carried 13 = .ok (.invokevirtual 145, 3) := by decide +kernel
theorem dX11_carried_16 : decode cX11_carried 16 = .ok (.ifCond .eq 11, 3) := by decide +kernel
theorem dX11_carried_19 : decode cX11_carried 19 = .ok (.iload 5, 2) := by decide +kernel
theorem dX11_carried_21 : decode cX11_carried 21 = .ok (.invokestatic 158, 3) := by decide +kernel
theorem dX11_carried_24 : decode cX11_carried 24 = .ok (.ifCond .ne 6, 3) := by decide +kernel
theorem dX11_carried_27 : decode cX11_carried 27 = .ok (.bipush (-2), 2) := by decide +kernel
theorem dX11_carried_29 : decode cX11_carried 29 = .ok (.ireturn, 1) := by decide +kernel
theorem dX11_carried_30 : decode cX11_carried 30 = .ok (.aload_n 0, 1) := by decide +kernel
theorem dX11_carried_31 : decode cX11_carried 31 = .ok (.getfield 28, 3) := by decide +kernel
theorem dX11_carried_34 : decode cX11_carried 34 = .ok (.iload_n 1, 1) := by decide +kernel
theorem dX11_carried_35 : decode cX11_carried 35 = .ok (.iload_n 2, 1) := by decide +kernel
theorem dX11_carried_36 : decode cX11_carried 36 = .ok (.iload_n 3, 1) := by decide +kernel
theorem dX11_carried_37 : decode cX11_carried 37 = .ok (.invokevirtual 195, 3) := by decide +kernel
theorem dX11_carried_40 : decode cX11_carried 40 = .ok (.ireturn, 1) := by decide +kernel
theorem dX11_carry_0 : decode cX11_carry 0 = .ok (.aload_n 0, 1) := by decide +kernel
theorem dX11_carry_1 : decode cX11_carry 1 = .ok (.iload_n 1, 1) := by decide +kernel
theorem dX11_carry_2 : decode cX11_carry 2 = .ok (.invokevirtual 145, 3) := by decide +kernel
theorem dX11_carry_5 : decode cX11_carry 5 = .ok (.ifCond .eq 35, 3) := by decide +kernel
theorem dX11_carry_8 : decode cX11_carry 8 = .ok (.iload_n 2, 1) := by decide +kernel
theorem dX11_carry_9 : decode cX11_carry 9 = .ok (.invokestatic 158, 3) := by decide +kernel
theorem dX11_carry_12 : decode cX11_carry 12 = .ok (.ifCond .eq 28, 3) := by decide +kernel
theorem dX11_carry_15 : decode cX11_carry 15 = .ok (.aload_n 0, 1) := by decide +kernel
theorem dX11_carry_16 : decode cX11_carry 16 = .ok (.iload_n 3, 1) := by decide +kernel
theorem dX11_carry_17 : decode cX11_carry 17 = .ok (.invokevirtual 148, 3) := by decide +kernel
theorem dX11_carry_20 : decode cX11_carry 20 = .ok (.ifCond .eq 20, 3) := by decide +kernel
theorem dX11_carry_23 : decode cX11_carry 23 = .ok (.aload_n 0, 1) := by decide +kernel
theorem dX11_carry_24 : decode cX11_carry 24 = .ok (.iload 4, 2) := by decide +kernel
theorem dX11_carry_26 : decode cX11_carry 26 = .ok (.invokevirtual 145, 3) := by decide +kernel
theorem dX11_carry_29 : decode cX11_carry 29 = .ok (.ifCond .eq 11, 3) := by decide +kernel
theorem dX11_carry_32 : decode cX11_carry 32 = .ok (.iload 5, 2) := by decide +kernel
theorem dX11_carry_34 : decode cX11_carry 34 = .ok (.invokestatic 158, 3) := by decide +kernel
theorem dX11_carry_37 : decode cX11_carry 37 = .ok (.ifCond .ne 6, 3) := by decide +kernel
theorem dX11_carry_40 : decode cX11_carry 40 = .ok (.bipush (-2), 2) := by decide +kernel
theorem dX11_carry_42 : decode cX11_carry 42 = .ok (.ireturn, 1) := by decide +kernel
theorem dX11_carry_43 : decode cX11_carry 43 = .ok (.aload_n 0, 1) := by decide +kernel
theorem dX11_carry_44 : decode cX11_carry 44 = .ok (.getfield 28, 3) := by decide +kernel
theorem dX11_carry_47 : decode cX11_carry 47 = .ok (.iload 4, 2) := by decide +kernel
theorem dX11_carry_49 : decode cX11_carry 49 = .ok (.iload 5, 2) := by decide +kernel
theorem dX11_carry_51 : decode cX11_carry 51 = .ok (.aload_n 0, 1) := by decide +kernel
theorem dX11_carry_52 : decode cX11_carry 52 = .ok (.getfield 28, 3) := by decide +kernel
theorem dX11_carry_55 : decode cX11_carry 55 = .ok (.iload_n 1, 1) := by decide +kernel
theorem dX11_carry_56 : decode cX11_carry 56 = .ok (.iload_n 2, 1) := by decide +kernel
theorem dX11_carry_57 : decode cX11_carry 57 = .ok (.iload_n 3, 1) := by decide +kernel
theorem dX11_carry_58 : decode cX11_carry 58 = .ok (.invokevirtual 161, 3) := by decide +kernel
theorem dX11_carry_61 : decode cX11_carry 61 = .ok (.invokevirtual 167, 3) := by decide +kernel
theorem dX11_carry_64 : decode cX11_carry 64 = .ok (.ireturn, 1) := by decide +kernel
theorem dX11_cycle_0 : decode cX11_cycle 0 = .ok (.aload_n 0, 1) := by decide +kernel
theorem dX11_cycle_1 : decode cX11_cycle 1 = .ok (.iload_n 1, 1) := by decide +kernel
theorem dX11_cycle_2 : decode cX11_cycle 2 = .ok (.invokevirtual 145, 3) := by decide +kernel
theorem dX11_cycle_5 : decode cX11_cycle 5 = .ok (.ifCond .eq 11, 3) := by decide +kernel
theorem dX11_cycle_8 : decode cX11_cycle 8 = .ok (.aload_n 0, 1) := by decide +kernel
theorem dX11_cycle_9 : decode cX11_cycle 9 = .ok (.iload_n 2, 1) := by decide +kernel
theorem dX11_cycle_10 : decode cX11_cycle 10 = .ok (.invokevirtual 148, 3) := by decide +kernel
theorem dX11_cycle_13 : decode cX11_cycle 13 = .ok (.ifCond .ne 6, 3) := by decide +kernel
theorem dX11_cycle_16 : decode cX11_cycle 16 = .ok (.bipush (-2), 2) := by decide +kernel
theorem dX11_cycle_18 : decode cX11_cycle 18 = .ok (.ireturn, 1) := by decide +kernel
theorem dX11_cycle_19 : decode cX11_cycle 19 = .ok (.aload_n 0, 1) := by decide +kernel
theorem dX11_cycle_20 : decode cX11_cycle 20 = .ok (.getfield 28, 3) := by decide +kernel
theorem dX11_cycle_23 : decode cX11_cycle 23 = .ok (.getfield 258, 3) := by decide +kernel
theorem dX11_cycle_26 : decode cX11_cycle 26 = .ok (.iload_n 1, 1) := by decide +kernel
theorem dX11_cycle_27 : decode cX11_cycle 27 = .ok (.aaload, 1) := by decide +kernel
theorem dX11_cycle_28 : decode cX11_cycle 28 = .ok (.iload_n 2, 1) := by decide +kernel
theorem dX11_cycle_29 : decode cX11_cycle 29 = .ok (.invokevirtual 267, 3) := by decide +kernel
theorem dX11_cycle_32 : decode cX11_cycle 32 = .ok (.ireturn, 1) := by decide +kernel
theorem dX11_date_0 : decode cX11_date 0 = .ok (.aload_n 0, 1) := by decide +kernel
theorem dX11_date_1 : decode cX11_date 1 = .ok (.iload_n 1, 1) := by decide +kernel
theorem dX11_date_2 : decode cX11_date 2 = .ok (.iload_n 2, 1) := by decide +kernel
theorem dX11_date_3 : decode cX11_date 3 = .ok (.iload_n 3, 1) := by decide +kernel
theorem dX11_date_4 : decode cX11_date 4 = .ok (.invokevirtual 285, 3) := by decide +kernel
theorem dX11_date_7 : decode cX11_date 7 = .ok (.istore 4, 2) := by decide +kernel
theorem dX11_date_9 : decode cX11_date 9 = .ok (.iload 4, 2) := by decide +kernel
theorem dX11_date_11 : decode cX11_date 11 = .ok (.ifCond .eq 8, 3) := by decide +kernel
theorem dX11_date_14 : decode cX11_date 14 = .ok (.iload 4, 2) := by decide +kernel
theorem dX11_date_16 : decode cX11_date 16 = .ok (.goto 18, 3) := by decide +kernel
theorem dX11_date_19 : decode cX11_date 19 = .ok (.aload_n 0, 1) := by decide +kernel
theorem dX11_date_20 : decode cX11_date 20 = .ok (.getfield 62, 3) := by decide +kernel
theorem dX11_date_23 : decode cX11_date 23 = .ok (.aload_n 0, 1) := by decide +kernel
theorem dX11_date_24 : decode cX11_date 24 = .ok (.getfield 45, 3) := by decide +kernel
theorem dX11_date_27 : decode cX11_date 27 = .ok (.iload_n 1, 1) := by decide +kernel
theorem dX11_date_28 : decode cX11_date 28 = .ok (.aaload, 1) := by decide +kernel
theorem dX11_date_29 : decode cX11_date 29 = .ok (.iload_n 2, 1) := by decide +kernel
theorem dX11_date_30 : decode cX11_date 30 = .ok (.iload_n 3, 1) := by decide +kernel
theorem dX11_date_31 : decode cX11_date 31 = .ok (.invokevirtual 292, 3) := by decide +kernel
theorem dX11_date_34 : decode cX11_date 34 = .ok (.ireturn, 1) := by decide +kernel
theorem dX11_differ_0 : decode cX11_differ 0 = .ok (.aload_n 0, 1) := by decide +kernel
theorem dX11_differ_1 : decode cX11_differ 1 = .ok (.iload_n 1, 1) := by decide +kernel
theorem dX11_differ_2 : decode cX11_differ 2 = .ok (.invokevirtual 145, 3) := by decide +kernel
theorem dX11_differ_5 : decode cX11_differ 5 = .ok (.ifCond .eq 11, 3) := by decide +kernel
theorem dX11_differ_8 : decode cX11_differ 8 = .ok (.aload_n 0, 1) := by decide +kernel
theorem dX11_differ_9 : decode cX11_differ 9 = .ok (.iload_n 2, 1) := by decide +kernel
theorem dX11_differ_10 : decode cX11_differ 10 = .ok (.invokevirtual 145, 3) := by decide +kernel
theorem dX11_differ_13 : decode cX11_differ 13 = .ok (.ifCond .ne 6, 3) := by decide +kernel
theorem dX11_differ_16 : decode cX11_differ 16 = .ok (.bipush (-2), 2) := by decide +kernel
theorem dX11_differ_18 : decode cX11_differ 18 = .ok (.ireturn, 1) := by decide +kernel
theorem dX11_differ_19 : decode cX11_differ 19 = .ok (.aload_n 0, 1) := by decide +kernel
theorem dX11_differ_20 : decode cX11_differ 20 = .ok (.getfield 28, 3) := by decide +kernel
theorem dX11_differ_23 : decode cX11_differ 23 = .ok (.iload_n 1, 1) := by decide +kernel
theorem dX11_differ_24 : decode cX11_differ 24 = .ok (.iload_n 2, 1) := by decide +kernel
theorem dX11_differ_25 : decode cX11_differ 25 = .ok (.invokevirtual 279, 3) := by decide +kernel
theorem dX11_differ_28 : decode cX11_differ 28 = .ok (.ireturn, 1) := by decide +kernel
theorem dX11_differs_0 : decode cX11_differs 0 = .ok (.aload_n 0, 1) := by decide +kernel
theorem dX11_differs_1 : decode cX11_differs 1 = .ok (.iload_n 1, 1) := by decide +kernel
theorem dX11_differs_2 : decode cX11_differs 2 = .ok (.invokevirtual 145, 3) := by decide +kernel
theorem dX11_differs_5 : decode cX11_differs 5 = .ok (.ifCond .eq 11, 3) := by decide +kernel
theorem dX11_differs_8 : decode cX11_differs 8 = .ok (.aload_n 0, 1) := by decide +kernel
theorem dX11_differs_9 : decode cX11_differs 9 = .ok (.iload_n 2, 1) := by decide +kernel
theorem dX11_differs_10 : decode cX11_differs 10 = .ok (.invokevirtual 145, 3) := by decide +kernel
theorem dX11_differs_13 : decode cX11_differs 13 = .ok (.ifCond .ne 6, 3) := by decide +kernel
theorem dX11_differs_16 : decode cX11_differs 16 = .ok (.bipush (-2), 2) := by decide +kernel
theorem dX11_differs_18 : decode cX11_differs 18 = .ok (.ireturn, 1) := by decide +kernel
theorem dX11_differs_19 : decode cX11_differs 19 = .ok (.aload_n 0, 1) := by decide +kernel
theorem dX11_differs_20 : decode cX11_differs 20 = .ok (.getfield 28, 3) := by decide +kernel
theorem dX11_differs_23 : decode cX11_differs 23 = .ok (.iload_n 1, 1) := by decide +kernel
theorem dX11_differs_24 : decode cX11_differs 24 = .ok (.iload_n 2, 1) := by decide +kernel
theorem dX11_differs_25 : decode cX11_differs 25 = .ok (.invokevirtual 279, 3) := by decide +kernel
theorem dX11_differs_28 : decode cX11_differs 28 = .ok (.istore_n 3, 1) := by decide +kernel
theorem dX11_differs_29 : decode cX11_differs 29 = .ok (.iload_n 3, 1) := by decide +kernel
theorem dX11_differs_30 : decode cX11_differs 30 = .ok (.iconst (-1), 1) := by decide +kernel
theorem dX11_differs_31 : decode cX11_differs 31 = .ok (.if_icmp .ne 7, 3) := by decide +kernel
theorem dX11_differs_34 : decode cX11_differs 34 = .ok (.iconst (-1), 1) := by decide +kernel
theorem dX11_differs_35 : decode cX11_differs 35 = .ok (.goto 14, 3) := by decide +kernel
theorem dX11_differs_38 : decode cX11_differs 38 = .ok (.aload_n 0, 1) := by decide +kernel
theorem dX11_differs_39 : decode cX11_differs 39 = .ok (.getfield 28, 3) := by decide +kernel
theorem dX11_differs_42 : decode cX11_differs 42 = .ok (.iload_n 1, 1) := by decide +kernel
theorem dX11_differs_43 : decode cX11_differs 43 = .ok (.iload_n 3, 1) := by decide +kernel
theorem dX11_differs_44 : decode cX11_differs 44 = .ok (.iload_n 2, 1) := by decide +kernel
theorem dX11_differs_45 : decode cX11_differs 45 = .ok (.iload_n 3, 1) := by decide +kernel
theorem dX11_differs_46 : decode cX11_differs 46 = .ok (.invokevirtual 276, 3) := by decide +kernel
theorem dX11_differs_49 : decode cX11_differs 49 = .ok (.ireturn, 1) := by decide +kernel
theorem dX11_even_0 : decode cX11_even 0 = .ok (.aload_n 0, 1) := by decide +kernel
theorem dX11_even_1 : decode cX11_even 1 = .ok (.iload_n 1, 1) := by decide +kernel
theorem dX11_even_2 : decode cX11_even 2 = .ok (.invokevirtual 145, 3) := by decide +kernel
theorem dX11_even_5 : decode cX11_even 5 = .ok (.ifCond .eq 10, 3) := by decide +kernel
theorem dX11_even_8 : decode cX11_even 8 = .ok (.iload_n 2, 1) := by decide +kernel
theorem dX11_even_9 : decode cX11_even 9 = .ok (.invokestatic 158, 3) := by decide +kernel
theorem dX11_even_12 : decode cX11_even 12 = .ok (.ifCond .ne 6, 3) := by decide +kernel
theorem dX11_even_15 : decode cX11_even 15 = .ok (.bipush (-2), 2) := by decide +kernel
theorem dX11_even_17 : decode cX11_even 17 = .ok (.ireturn, 1) := by decide +kernel
theorem dX11_even_18 : decode cX11_even 18 = .ok (.iconst 0, 1) := by decide +kernel
theorem dX11_even_19 : decode cX11_even 19 = .ok (.istore_n 3, 1) := by decide +kernel
theorem dX11_even_20 : decode cX11_even 20 = .ok (.aload_n 0, 1) := by decide +kernel
theorem dX11_even_21 : decode cX11_even 21 = .ok (.getfield 28, 3) := by decide +kernel
theorem dX11_even_24 : decode cX11_even 24 = .ok (.getfield 109, 3) := by decide +kernel
theorem dX11_even_27 : decode cX11_even 27 = .ok (.invokevirtual 183, 3) := by decide +kernel
theorem dX11_even_30 : decode cX11_even 30 = .ok (.istore 4, 2) := by decide +kernel
theorem dX11_even_32 : decode cX11_even 32 = .ok (.iconst 1, 1) := by decide +kernel
theorem dX11_even_33 : decode cX11_even 33 = .ok (.istore 5, 2) := by decide +kernel
theorem dX11_even_35 : decode cX11_even 35 = .ok (.iload 5, 2) := by decide +kernel
theorem dX11_even_37 : decode cX11_even 37 = .ok (.iload 4, 2) := by decide +kernel
theorem dX11_even_39 : decode cX11_even 39 = .ok (.if_icmp .ge 57, 3) := by decide +kernel
theorem dX11_even_42 : decode cX11_even 42 = .ok (.aload_n 0, 1) := by decide +kernel
theorem dX11_even_43 : decode cX11_even 43 = .ok (.getfield 28, 3) := by decide +kernel
theorem dX11_even_46 : decode cX11_even 46 = .ok (.iload_n 1, 1) := by decide +kernel
theorem dX11_even_47 : decode cX11_even 47 = .ok (.iload_n 2, 1) := by decide +kernel
theorem dX11_even_48 : decode cX11_even 48 = .ok (.iload 5, 2) := by decide +kernel
theorem dX11_even_50 : decode cX11_even 50 = .ok (.invokevirtual 161, 3) := by decide +kernel
theorem dX11_even_53 : decode cX11_even 53 = .ok (.istore 6, 2) := by decide +kernel
theorem dX11_even_55 : decode cX11_even 55 = .ok (.iconst 0, 1) := by decide +kernel
theorem dX11_even_56 : decode cX11_even 56 = .ok (.istore 7, 2) := by decide +kernel
theorem dX11_even_58 : decode cX11_even 58 = .ok (.iload 7, 2) := by decide +kernel
theorem dX11_even_60 : decode cX11_even 60 = .ok (.iload 5, 2) := by decide +kernel
theorem dX11_even_62 : decode cX11_even 62 = .ok (.if_icmp .ge 28, 3) := by decide +kernel
theorem dX11_even_65 : decode cX11_even 65 = .ok (.aload_n 0, 1) := by decide +kernel
theorem dX11_even_66 : decode cX11_even 66 = .ok (.getfield 28, 3) := by decide +kernel
theorem dX11_even_69 : decode cX11_even 69 = .ok (.iload_n 1, 1) := by decide +kernel
theorem dX11_even_70 : decode cX11_even 70 = .ok (.iload_n 2, 1) := by decide +kernel
theorem dX11_even_71 : decode cX11_even 71 = .ok (.iload 7, 2) := by decide +kernel
theorem dX11_even_73 : decode cX11_even 73 = .ok (.invokevirtual 161, 3) := by decide +kernel
theorem dX11_even_76 : decode cX11_even 76 = .ok (.iload 6, 2) := by decide +kernel
theorem dX11_even_78 : decode cX11_even 78 = .ok (.if_icmp .le 6, 3) := by decide +kernel
theorem dX11_even_81 : decode cX11_even 81 = .ok (.iinc 3 1, 3) := by decide +kernel
theorem dX11_even_84 : decode cX11_even 84 = .ok (.iinc 7 1, 3) := by decide +kernel
theorem dX11_even_87 : decode cX11_even 87 = .ok (.goto (-29), 3) := by decide +kernel
theorem dX11_even_90 : decode cX11_even 90 = .ok (.iinc 5 1, 3) := by decide +kernel
theorem dX11_even_93 : decode cX11_even 93 = .ok (.goto (-58), 3) := by decide +kernel
theorem dX11_even_96 : decode cX11_even 96 = .ok (.iconst 1, 1) := by decide +kernel
theorem dX11_even_97 : decode cX11_even 97 = .ok (.iload_n 3, 1) := by decide +kernel
theorem dX11_even_98 : decode cX11_even 98 = .ok (.iconst 2, 1) := by decide +kernel
theorem dX11_even_99 : decode cX11_even 99 = .ok (.irem, 1) := by decide +kernel
theorem dX11_even_100 : decode cX11_even 100 = .ok (.isub, 1) := by decide +kernel
theorem dX11_even_101 : decode cX11_even 101 = .ok (.ireturn, 1) := by decide +kernel
theorem dX11_fixed_0 : decode cX11_fixed 0 = .ok (.aload_n 0, 1) := by decide +kernel
theorem dX11_fixed_1 : decode cX11_fixed 1 = .ok (.iload_n 1, 1) := by decide +kernel
theorem dX11_fixed_2 : decode cX11_fixed 2 = .ok (.invokevirtual 145, 3) := by decide +kernel
theorem dX11_fixed_5 : decode cX11_fixed 5 = .ok (.ifCond .ne 6, 3) := by decide +kernel
theorem dX11_fixed_8 : decode cX11_fixed 8 = .ok (.bipush (-2), 2) := by decide +kernel
theorem dX11_fixed_10 : decode cX11_fixed 10 = .ok (.ireturn, 1) := by decide +kernel
theorem dX11_fixed_11 : decode cX11_fixed 11 = .ok (.iconst 0, 1) := by decide +kernel
theorem dX11_fixed_12 : decode cX11_fixed 12 = .ok (.istore_n 2, 1) := by decide +kernel
theorem dX11_fixed_13 : decode cX11_fixed 13 = .ok (.aload_n 0, 1) := by decide +kernel
theorem dX11_fixed_14 : decode cX11_fixed 14 = .ok (.getfield 28, 3) := by decide +kernel
theorem dX11_fixed_17 : decode cX11_fixed 17 = .ok (.getfield 109, 3) := by decide +kernel
theorem dX11_fixed_20 : decode cX11_fixed 20 = .ok (.invokevirtual 183, 3) := by decide +kernel
theorem dX11_fixed_23 : decode cX11_fixed 23 = .ok (.istore_n 3, 1) := by decide +kernel
theorem dX11_fixed_24 : decode cX11_fixed 24 = .ok (.iconst 0, 1) := by decide +kernel
theorem dX11_fixed_25 : decode cX11_fixed 25 = .ok (.istore 4, 2) := by decide +kernel
theorem dX11_fixed_27 : decode cX11_fixed 27 = .ok (.iload 4, 2) := by decide +kernel
theorem dX11_fixed_29 : decode cX11_fixed 29 = .ok (.iload_n 3, 1) := by decide +kernel
theorem dX11_fixed_30 : decode cX11_fixed 30 = .ok (.if_icmp .ge 36, 3) := by decide +kernel
theorem dX11_fixed_33 : decode cX11_fixed 33 = .ok (.aload_n 0, 1) := by decide +kernel
theorem dX11_fixed_34 : decode cX11_fixed 34 = .ok (.getfield 28, 3) := by decide +kernel
theorem dX11_fixed_37 : decode cX11_fixed 37 = .ok (.getfield 258, 3) := by decide +kernel
theorem dX11_fixed_40 : decode cX11_fixed 40 = .ok (.iload_n 1, 1) := by decide +kernel
theorem dX11_fixed_41 : decode cX11_fixed 41 = .ok (.aaload, 1) := by decide +kernel
theorem dX11_fixed_42 : decode cX11_fixed 42 = .ok (.getfield 270, 3) := by decide +kernel
theorem dX11_fixed_45 : decode cX11_fixed 45 = .ok (.iload 4, 2) := by decide +kernel
theorem dX11_fixed_47 : decode cX11_fixed 47 = .ok (.iaload, 1) := by decide +kernel
theorem dX11_fixed_48 : decode cX11_fixed 48 = .ok (.iload 4, 2) := by decide +kernel
theorem dX11_fixed_50 : decode cX11_fixed 50 = .ok (.if_icmp .ne 10, 3) := by decide +kernel
theorem dX11_fixed_53 : decode cX11_fixed 53 = .ok (.iload_n 2, 1) := by decide +kernel
theorem dX11_fixed_54 : decode cX11_fixed 54 = .ok (.iconst 1, 1) := by decide +kernel
theorem dX11_fixed_55 : decode cX11_fixed 55 = .ok (.iload 4, 2) := by decide +kernel
theorem dX11_fixed_57 : decode cX11_fixed 57 = .ok (.ishl, 1) := by decide +kernel
theorem dX11_fixed_58 : decode cX11_fixed 58 = .ok (.ior, 1) := by decide +kernel
theorem dX11_fixed_59 : decode cX11_fixed 59 = .ok (.istore_n 2, 1) := by decide +kernel
theorem dX11_fixed_60 : decode cX11_fixed 60 = .ok (.iinc 4 1, 3) := by decide +kernel
theorem dX11_fixed_63 : decode cX11_fixed 63 = .ok (.goto (-36), 3) := by decide +kernel
theorem dX11_fixed_66 : decode cX11_fixed 66 = .ok (.iload_n 2, 1) := by decide +kernel
theorem dX11_fixed_67 : decode cX11_fixed 67 = .ok (.ireturn, 1) := by decide +kernel
theorem dX11_isSlot_0 : decode cX11_isSlot 0 = .ok (.iload_n 0, 1) := by decide +kernel
theorem dX11_isSlot_1 : decode cX11_isSlot 1 = .ok (.ifCond .lt 12, 3) := by decide +kernel
theorem dX11_isSlot_4 : decode cX11_isSlot 4 = .ok (.iload_n 0, 1) := by decide +kernel
theorem dX11_isSlot_5 : decode cX11_isSlot 5 = .ok (.iconst 4, 1) := by decide +kernel
theorem dX11_isSlot_6 : decode cX11_isSlot 6 = .ok (.if_icmp .ge 7, 3) := by decide +kernel
theorem dX11_isSlot_9 : decode cX11_isSlot 9 = .ok (.iconst 1, 1) := by decide +kernel
theorem dX11_isSlot_10 : decode cX11_isSlot 10 = .ok (.goto 4, 3) := by decide +kernel
theorem dX11_isSlot_13 : decode cX11_isSlot 13 = .ok (.iconst 0, 1) := by decide +kernel
theorem dX11_isSlot_14 : decode cX11_isSlot 14 = .ok (.ireturn, 1) := by decide +kernel
theorem dX11_letterTrouble_0 : decode cX11_letterTrouble 0 = .ok (.iload_n 1, 1) := by decide +kernel
theorem dX11_letterTrouble_1 : decode cX11_letterTrouble 1 = .ok (.invokestatic 302, 3) := by decide +kernel
theorem dX11_letterTrouble_4 : decode cX11_letterTrouble 4 = .ok (.ifCond .eq 18, 3) := by decide +kernel
theorem dX11_letterTrouble_7 : decode cX11_letterTrouble 7 = .ok (.aload_n 0, 1) := by decide +kernel
theorem dX11_letterTrouble_8 : decode cX11_letterTrouble 8 = .ok (.iload_n 2, 1) := by decide +kernel
theorem dX11_letterTrouble_9 : decode cX11_letterTrouble 9 = .ok (.invokevirtual 145, 3) := by decide +kernel
theorem dX11_letterTrouble_12 : decode cX11_letterTrouble 12 = .ok (.ifCond .eq 10, 3) := by decide +kernel
theorem dX11_letterTrouble_15 : decode cX11_letterTrouble 15 = .ok (.iload_n 3, 1) := by decide +kernel
theorem dX11_letterTrouble_16 : decode cX11_letterTrouble 16 = .ok (.invokestatic 158, 3) := by decide +kernel
theorem dX11_letterTrouble_19 : decode cX11_letterTrouble 19 = .ok (.ifCond .ne 6, 3) := by decide +kernel
theorem dX11_letterTrouble_22 : decode cX11_letterTrouble 22 = .ok (.bipush (-2), 2) := by decide +kernel
theorem dX11_letterTrouble_24 : decode cX11_letterTrouble 24 = .ok (.ireturn, 1) := by decide +kernel
theorem dX11_letterTrouble_25 : decode cX11_letterTrouble 25 = .ok (.aload_n 0, 1) := by decide +kernel
theorem dX11_letterTrouble_26 : decode cX11_letterTrouble 26 = .ok (.aload_n 0, 1) := by decide +kernel
theorem dX11_letterTrouble_27 : decode cX11_letterTrouble 27 = .ok (.getfield 45, 3) := by decide +kernel
theorem dX11_letterTrouble_30 : decode cX11_letterTrouble 30 = .ok (.iload_n 1, 1) := by decide +kernel
theorem dX11_letterTrouble_31 : decode cX11_letterTrouble 31 = .ok (.aaload, 1) := by decide +kernel
theorem dX11_letterTrouble_32 : decode cX11_letterTrouble 32 = .ok (.invokevirtual 305, 3) := by decide +kernel
theorem dX11_letterTrouble_35 : decode cX11_letterTrouble 35 = .ok (.ireturn, 1) := by decide +kernel
theorem dX11_like_0 : decode cX11_like 0 = .ok (.aload_n 0, 1) := by decide +kernel
theorem dX11_like_1 : decode cX11_like 1 = .ok (.iload_n 1, 1) := by decide +kernel
theorem dX11_like_2 : decode cX11_like 2 = .ok (.invokevirtual 145, 3) := by decide +kernel
theorem dX11_like_5 : decode cX11_like 5 = .ok (.ifCond .eq 18, 3) := by decide +kernel
theorem dX11_like_8 : decode cX11_like 8 = .ok (.iload_n 2, 1) := by decide +kernel
theorem dX11_like_9 : decode cX11_like 9 = .ok (.invokestatic 158, 3) := by decide +kernel
theorem dX11_like_12 : decode cX11_like 12 = .ok (.ifCond .eq 11, 3) := by decide +kernel
theorem dX11_like_15 : decode cX11_like 15 = .ok (.aload_n 0, 1) := by decide +kernel
theorem dX11_like_16 : decode cX11_like 16 = .ok (.iload_n 3, 1) := by decide +kernel
theorem dX11_like_17 : decode cX11_like 17 = .ok (.invokevirtual 145, 3) := by decide +kernel
theorem dX11_like_20 : decode cX11_like 20 = .ok (.ifCond .ne 6, 3) := by decide +kernel
theorem dX11_like_23 : decode cX11_like 23 = .ok (.bipush (-2), 2) := by decide +kernel
theorem dX11_like_25 : decode cX11_like 25 = .ok (.ireturn, 1) := by decide +kernel
theorem dX11_like_26 : decode cX11_like 26 = .ok (.aload_n 0, 1) := by decide +kernel
theorem dX11_like_27 : decode cX11_like 27 = .ok (.getfield 28, 3) := by decide +kernel
theorem dX11_like_30 : decode cX11_like 30 = .ok (.iload_n 3, 1) := by decide +kernel
theorem dX11_like_31 : decode cX11_like 31 = .ok (.invokevirtual 170, 3) := by decide +kernel
theorem dX11_like_34 : decode cX11_like 34 = .ok (.istore 4, 2) := by decide +kernel
theorem dX11_like_36 : decode cX11_like 36 = .ok (.iconst 0, 1) := by decide +kernel
theorem dX11_like_37 : decode cX11_like 37 = .ok (.istore 5, 2) := by decide +kernel
theorem dX11_like_39 : decode cX11_like 39 = .ok (.iload 5, 2) := by decide +kernel
theorem dX11_like_41 : decode cX11_like 41 = .ok (.iload 4, 2) := by decide +kernel
theorem dX11_like_43 : decode cX11_like 43 = .ok (.if_icmp .ge 28, 3) := by decide +kernel
theorem dX11_like_46 : decode cX11_like 46 = .ok (.aload_n 0, 1) := by decide +kernel
theorem dX11_like_47 : decode cX11_like 47 = .ok (.getfield 28, 3) := by decide +kernel
theorem dX11_like_50 : decode cX11_like 50 = .ok (.iload_n 1, 1) := by decide +kernel
theorem dX11_like_51 : decode cX11_like 51 = .ok (.iload_n 2, 1) := by decide +kernel
theorem dX11_like_52 : decode cX11_like 52 = .ok (.iload_n 3, 1) := by decide +kernel
theorem dX11_like_53 : decode cX11_like 53 = .ok (.iload 5, 2) := by decide +kernel
theorem dX11_like_55 : decode cX11_like 55 = .ok (.invokevirtual 276, 3) := by decide +kernel
theorem dX11_like_58 : decode cX11_like 58 = .ok (.iconst (-1), 1) := by decide +kernel
theorem dX11_like_59 : decode cX11_like 59 = .ok (.if_icmp .ne 6, 3) := by decide +kernel
theorem dX11_like_62 : decode cX11_like 62 = .ok (.iload 5, 2) := by decide +kernel
theorem dX11_like_64 : decode cX11_like 64 = .ok (.ireturn, 1) := by decide +kernel
theorem dX11_like_65 : decode cX11_like 65 = .ok (.iinc 5 1, 3) := by decide +kernel
theorem dX11_like_68 : decode cX11_like 68 = .ok (.goto (-29), 3) := by decide +kernel
theorem dX11_like_71 : decode cX11_like 71 = .ok (.iconst (-1), 1) := by decide +kernel
theorem dX11_like_72 : decode cX11_like 72 = .ok (.ireturn, 1) := by decide +kernel
theorem dX11_order_0 : decode cX11_order 0 = .ok (.aload_n 0, 1) := by decide +kernel
theorem dX11_order_1 : decode cX11_order 1 = .ok (.iload_n 1, 1) := by decide +kernel
theorem dX11_order_2 : decode cX11_order 2 = .ok (.invokevirtual 145, 3) := by decide +kernel
theorem dX11_order_5 : decode cX11_order 5 = .ok (.ifCond .eq 18, 3) := by decide +kernel
theorem dX11_order_8 : decode cX11_order 8 = .ok (.aload_n 0, 1) := by decide +kernel
theorem dX11_order_9 : decode cX11_order 9 = .ok (.getfield 28, 3) := by decide +kernel
theorem dX11_order_12 : decode cX11_order 12 = .ok (.getfield 258, 3) := by decide +kernel
theorem dX11_order_15 : decode cX11_order 15 = .ok (.iload_n 1, 1) := by decide +kernel
theorem dX11_order_16 : decode cX11_order 16 = .ok (.aaload, 1) := by decide +kernel
theorem dX11_order_17 : decode cX11_order 17 = .ok (.getfield 273, 3) := by decide +kernel
theorem dX11_order_20 : decode cX11_order 20 = .ok (.goto 5, 3) := by decide +kernel
theorem dX11_order_23 : decode cX11_order 23 = .ok (.bipush (-2), 2) := by decide +kernel
theorem dX11_order_25 : decode cX11_order 25 = .ok (.ireturn, 1) := by decide +kernel
theorem dX11_otherwise_0 : decode cX11_otherwise 0 = .ok (.aload_n 0, 1) := by decide +kernel
theorem dX11_otherwise_1 : decode cX11_otherwise 1 = .ok (.iload_n 1, 1) := by decide +kernel
theorem dX11_otherwise_2 : decode cX11_otherwise 2 = .ok (.invokevirtual 145, 3) := by decide +kernel
theorem dX11_otherwise_5 : decode cX11_otherwise 5 = .ok (.ifCond .eq 18, 3) := by decide +kernel
theorem dX11_otherwise_8 : decode cX11_otherwise 8 = .ok (.iload_n 2, 1) := by decide +kernel
theorem dX11_otherwise_9 : decode cX11_otherwise 9 = .ok (.invokestatic 158, 3) := by decide +kernel
theorem dX11_otherwise_12 : decode cX11_otherwise 12 = .ok (.ifCond .eq 11, 3) := by decide +kernel
theorem dX11_otherwise_15 : decode cX11_otherwise 15 = .ok (.aload_n 0, 1) := by decide +kernel
theorem dX11_otherwise_16 : decode cX11_otherwise 16 = .ok (.iload_n 3, 1) := by decide +kernel
theorem dX11_otherwise_17 : decode cX11_otherwise 17 = .ok (.invokevirtual 145, 3) := by decide +kernel
theorem dX11_otherwise_20 : decode cX11_otherwise 20 = .ok (.ifCond .ne 6, 3) := by decide +kernel
theorem dX11_otherwise_23 : decode cX11_otherwise 23 = .ok (.bipush (-2), 2) := by decide +kernel
theorem dX11_otherwise_25 : decode cX11_otherwise 25 = .ok (.ireturn, 1) := by decide +kernel
theorem dX11_otherwise_26 : decode cX11_otherwise 26 = .ok (.aload_n 0, 1) := by decide +kernel
theorem dX11_otherwise_27 : decode cX11_otherwise 27 = .ok (.getfield 28, 3) := by decide +kernel
theorem dX11_otherwise_30 : decode cX11_otherwise 30 = .ok (.iload_n 1, 1) := by decide +kernel
theorem dX11_otherwise_31 : decode cX11_otherwise 31 = .ok (.iload_n 2, 1) := by decide +kernel
theorem dX11_otherwise_32 : decode cX11_otherwise 32 = .ok (.iload_n 3, 1) := by decide +kernel
theorem dX11_otherwise_33 : decode cX11_otherwise 33 = .ok (.iload_n 2, 1) := by decide +kernel
theorem dX11_otherwise_34 : decode cX11_otherwise 34 = .ok (.invokevirtual 187, 3) := by decide +kernel
theorem dX11_otherwise_37 : decode cX11_otherwise 37 = .ok (.ireturn, 1) := by decide +kernel
theorem dX11_rowTrouble_0 : decode cX11_rowTrouble 0 = .ok (.aload_n 1, 1) := by decide +kernel
theorem dX11_rowTrouble_1 : decode cX11_rowTrouble 1 = .ok (.getfield 395, 3) := by decide +kernel
theorem dX11_rowTrouble_4 : decode cX11_rowTrouble 4 = .ok (.ifCond .ne 6, 3) := by decide +kernel
theorem dX11_rowTrouble_7 : decode cX11_rowTrouble 7 = .ok (.bipush (-6), 2) := by decide +kernel
theorem dX11_rowTrouble_9 : decode cX11_rowTrouble 9 = .ok (.ireturn, 1) := by decide +kernel
theorem dX11_rowTrouble_10 : decode cX11_rowTrouble 10 = .ok (.aload_n 0, 1) := by decide +kernel
theorem dX11_rowTrouble_11 : decode cX11_rowTrouble 11 = .ok (.getfield 62, 3) := by decide +kernel
theorem dX11_rowTrouble_14 : decode cX11_rowTrouble 14 = .ok (.aload_n 1, 1) := by decide +kernel
theorem dX11_rowTrouble_15 : decode cX11_rowTrouble 15 = .ok (.invokevirtual 420, 3) := by decide +kernel
theorem dX11_rowTrouble_18 : decode cX11_rowTrouble 18 = .ok (.ifCond .eq 7, 3) := by decide +kernel
theorem dX11_rowTrouble_21 : decode cX11_rowTrouble 21 = .ok (.iconst 0, 1) := by decide +kernel
theorem dX11_rowTrouble_22 : decode cX11_rowTrouble 22 = .ok (.goto 5, 3) := by decide +kernel
theorem dX11_rowTrouble_25 : decode cX11_rowTrouble 25 = .ok (.bipush (-2), 2) := by decide +kernel
theorem dX11_rowTrouble_27 : decode cX11_rowTrouble 27 = .ok (.ireturn, 1) := by decide +kernel
theorem dX11_torn_0 : decode cX11_torn 0 = .ok (.aload_n 0, 1) := by decide +kernel
theorem dX11_torn_1 : decode cX11_torn 1 = .ok (.iload_n 1, 1) := by decide +kernel
theorem dX11_torn_2 : decode cX11_torn 2 = .ok (.iload_n 2, 1) := by decide +kernel
theorem dX11_torn_3 : decode cX11_torn 3 = .ok (.iconst 0, 1) := by decide +kernel
theorem dX11_torn_4 : decode cX11_torn 4 = .ok (.invokevirtual 285, 3) := by decide +kernel
theorem dX11_torn_7 : decode cX11_torn 7 = .ok (.istore_n 3, 1) := by decide +kernel
theorem dX11_torn_8 : decode cX11_torn 8 = .ok (.iload_n 3, 1) := by decide +kernel
theorem dX11_torn_9 : decode cX11_torn 9 = .ok (.ifCond .eq 7, 3) := by decide +kernel
theorem dX11_torn_12 : decode cX11_torn 12 = .ok (.iload_n 3, 1) := by decide +kernel
theorem dX11_torn_13 : decode cX11_torn 13 = .ok (.goto 17, 3) := by decide +kernel
theorem dX11_torn_16 : decode cX11_torn 16 = .ok (.aload_n 0, 1) := by decide +kernel
theorem dX11_torn_17 : decode cX11_torn 17 = .ok (.getfield 62, 3) := by decide +kernel
theorem dX11_torn_20 : decode cX11_torn 20 = .ok (.aload_n 0, 1) := by decide +kernel
theorem dX11_torn_21 : decode cX11_torn 21 = .ok (.getfield 45, 3) := by decide +kernel
theorem dX11_torn_24 : decode cX11_torn 24 = .ok (.iload_n 1, 1) := by decide +kernel
theorem dX11_torn_25 : decode cX11_torn 25 = .ok (.aaload, 1) := by decide +kernel
theorem dX11_torn_26 : decode cX11_torn 26 = .ok (.iload_n 2, 1) := by decide +kernel
theorem dX11_torn_27 : decode cX11_torn 27 = .ok (.invokevirtual 288, 3) := by decide +kernel
theorem dX11_torn_30 : decode cX11_torn 30 = .ok (.ireturn, 1) := by decide +kernel
theorem dX11_turned_0 : decode cX11_turned 0 = .ok (.aload_n 0, 1) := by decide +kernel
theorem dX11_turned_1 : decode cX11_turned 1 = .ok (.iload_n 1, 1) := by decide +kernel
theorem dX11_turned_2 : decode cX11_turned 2 = .ok (.invokevirtual 145, 3) := by decide +kernel
theorem dX11_turned_5 : decode cX11_turned 5 = .ok (.ifCond .eq 22, 3) := by decide +kernel
theorem dX11_turned_8 : decode cX11_turned 8 = .ok (.aload_n 0, 1) := by decide +kernel
theorem dX11_turned_9 : decode cX11_turned 9 = .ok (.iload_n 2, 1) := by decide +kernel
theorem dX11_turned_10 : decode cX11_turned 10 = .ok (.invokevirtual 148, 3) := by decide +kernel
theorem dX11_turned_13 : decode cX11_turned 13 = .ok (.ifCond .eq 14, 3) := by decide +kernel
theorem dX11_turned_16 : decode cX11_turned 16 = .ok (.iload_n 3, 1) := by decide +kernel
theorem dX11_turned_17 : decode cX11_turned 17 = .ok (.ifCond .lt 10, 3) := by decide +kernel
theorem dX11_turned_20 : decode cX11_turned 20 = .ok (.iload_n 3, 1) := by decide +kernel
theorem dX11_turned_21 : decode cX11_turned 21 = .ok (.ldc_w 257, 3) := by decide +kernel
theorem dX11_turned_24 : decode cX11_turned 24 = .ok (.if_icmp .le 6, 3) := by decide +kernel
theorem dX11_turned_27 : decode cX11_turned 27 = .ok (.bipush (-2), 2) := by decide +kernel
theorem dX11_turned_29 : decode cX11_turned 29 = .ok (.ireturn, 1) := by decide +kernel
theorem dX11_turned_30 : decode cX11_turned 30 = .ok (.aload_n 0, 1) := by decide +kernel
theorem dX11_turned_31 : decode cX11_turned 31 = .ok (.getfield 28, 3) := by decide +kernel
theorem dX11_turned_34 : decode cX11_turned 34 = .ok (.getfield 258, 3) := by decide +kernel
theorem dX11_turned_37 : decode cX11_turned 37 = .ok (.iload_n 1, 1) := by decide +kernel
theorem dX11_turned_38 : decode cX11_turned 38 = .ok (.aaload, 1) := by decide +kernel
theorem dX11_turned_39 : decode cX11_turned 39 = .ok (.iload_n 2, 1) := by decide +kernel
theorem dX11_turned_40 : decode cX11_turned 40 = .ok (.iload_n 3, 1) := by decide +kernel
theorem dX11_turned_41 : decode cX11_turned 41 = .ok (.invokevirtual 262, 3) := by decide +kernel
theorem dX11_turned_44 : decode cX11_turned 44 = .ok (.ireturn, 1) := by decide +kernel
theorem dX1_turnedBy_0 : decode cX1_turnedBy 0 = .ok (.aload_n 0, 1) := by decide +kernel
theorem dX1_turnedBy_1 : decode cX1_turnedBy 1 = .ok (.iload_n 1, 1) := by decide +kernel
theorem dX1_turnedBy_2 : decode cX1_turnedBy 2 = .ok (.invokevirtual 61, 3) := by decide +kernel
theorem dX1_turnedBy_5 : decode cX1_turnedBy 5 = .ok (.istore_n 3, 1) := by decide +kernel
theorem dX1_turnedBy_6 : decode cX1_turnedBy 6 = .ok (.iload_n 3, 1) := by decide +kernel
theorem dX1_turnedBy_7 : decode cX1_turnedBy 7 = .ok (.iconst 1, 1) := by decide +kernel
theorem dX1_turnedBy_8 : decode cX1_turnedBy 8 = .ok (.if_icmp .ge 7, 3) := by decide +kernel
theorem dX1_turnedBy_15 : decode cX1_turnedBy 15 = .ok (.iload_n 2, 1) := by decide +kernel
theorem dX1_turnedBy_16 : decode cX1_turnedBy 16 = .ok (.iload_n 3, 1) := by decide +kernel
theorem dX1_turnedBy_17 : decode cX1_turnedBy 17 = .ok (.irem, 1) := by decide +kernel
theorem dX1_turnedBy_18 : decode cX1_turnedBy 18 = .ok (.istore 4, 2) := by decide +kernel
theorem dX1_turnedBy_20 : decode cX1_turnedBy 20 = .ok (.iload_n 1, 1) := by decide +kernel
theorem dX1_turnedBy_21 : decode cX1_turnedBy 21 = .ok (.istore 5, 2) := by decide +kernel
theorem dX1_turnedBy_23 : decode cX1_turnedBy 23 = .ok (.iconst 0, 1) := by decide +kernel
theorem dX1_turnedBy_24 : decode cX1_turnedBy 24 = .ok (.istore 6, 2) := by decide +kernel
theorem dX1_turnedBy_26 : decode cX1_turnedBy 26 = .ok (.iload 6, 2) := by decide +kernel
theorem dX1_turnedBy_28 : decode cX1_turnedBy 28 = .ok (.iload 4, 2) := by decide +kernel
theorem dX1_turnedBy_30 : decode cX1_turnedBy 30 = .ok (.if_icmp .ge 18, 3) := by decide +kernel
theorem dX1_turnedBy_33 : decode cX1_turnedBy 33 = .ok (.aload_n 0, 1) := by decide +kernel
theorem dX1_turnedBy_34 : decode cX1_turnedBy 34 = .ok (.getfield 15, 3) := by decide +kernel
theorem dX1_turnedBy_37 : decode cX1_turnedBy 37 = .ok (.iload 5, 2) := by decide +kernel
theorem dX1_turnedBy_39 : decode cX1_turnedBy 39 = .ok (.iaload, 1) := by decide +kernel
theorem dX1_turnedBy_40 : decode cX1_turnedBy 40 = .ok (.istore 5, 2) := by decide +kernel
theorem dX1_turnedBy_42 : decode cX1_turnedBy 42 = .ok (.iinc 6 1, 3) := by decide +kernel
theorem dX1_turnedBy_45 : decode cX1_turnedBy 45 = .ok (.goto (-19), 3) := by decide +kernel
theorem dX1_turnedBy_48 : decode cX1_turnedBy 48 = .ok (.iload 5, 2) := by decide +kernel
theorem dX1_turnedBy_50 : decode cX1_turnedBy 50 = .ok (.ireturn, 1) := by decide +kernel
theorem dX3_firstFrom_0 : decode cX3_firstFrom 0 = .ok (.aload_n 0, 1) := by decide +kernel
theorem dX3_firstFrom_1 : decode cX3_firstFrom 1 = .ok (.getfield 15, 3) := by decide +kernel
theorem dX3_firstFrom_4 : decode cX3_firstFrom 4 = .ok (.iload_n 2, 1) := by decide +kernel
theorem dX3_firstFrom_5 : decode cX3_firstFrom 5 = .ok (.invokevirtual 50, 3) := by decide +kernel
theorem dX3_firstFrom_8 : decode cX3_firstFrom 8 = .ok (.istore 4, 2) := by decide +kernel
theorem dX3_firstFrom_10 : decode cX3_firstFrom 10 = .ok (.iconst 0, 1) := by decide +kernel
theorem dX3_firstFrom_11 : decode cX3_firstFrom 11 = .ok (.istore 5, 2) := by decide +kernel
theorem dX3_firstFrom_13 : decode cX3_firstFrom 13 = .ok (.iload 5, 2) := by decide +kernel
theorem dX3_firstFrom_15 : decode cX3_firstFrom 15 = .ok (.iload 4, 2) := by decide +kernel
theorem dX3_firstFrom_17 : decode cX3_firstFrom 17 = .ok (.if_icmp .ge 27, 3) := by decide +kernel
theorem dX3_firstFrom_20 : decode cX3_firstFrom 20 = .ok (.aload_n 0, 1) := by decide +kernel
theorem dX3_firstFrom_21 : decode cX3_firstFrom 21 = .ok (.aload_n 1, 1) := by decide +kernel
theorem dX3_firstFrom_22 : decode cX3_firstFrom 22 = .ok (.iload_n 2, 1) := by decide +kernel
theorem dX3_firstFrom_23 : decode cX3_firstFrom 23 = .ok (.iload_n 3, 1) := by decide +kernel
theorem dX3_firstFrom_24 : decode cX3_firstFrom 24 = .ok (.iload 5, 2) := by decide +kernel
theorem dX3_firstFrom_26 : decode cX3_firstFrom 26 = .ok (.iadd, 1) := by decide +kernel
theorem dX3_firstFrom_27 : decode cX3_firstFrom 27 = .ok (.invokevirtual 54, 3) := by decide +kernel
theorem dX3_firstFrom_30 : decode cX3_firstFrom 30 = .ok (.ifCond .eq 8, 3) := by decide +kernel
theorem dX3_firstFrom_33 : decode cX3_firstFrom 33 = .ok (.iload_n 3, 1) := by decide +kernel
theorem dX3_firstFrom_34 : decode cX3_firstFrom 34 = .ok (.iload 5, 2) := by decide +kernel
theorem dX3_firstFrom_36 : decode cX3_firstFrom 36 = .ok (.iadd, 1) := by decide +kernel
theorem dX3_firstFrom_37 : decode cX3_firstFrom 37 = .ok (.ireturn, 1) := by decide +kernel
theorem dX3_firstFrom_38 : decode cX3_firstFrom 38 = .ok (.iinc 5 1, 3) := by decide +kernel
theorem dX3_firstFrom_41 : decode cX3_firstFrom 41 = .ok (.goto (-28), 3) := by decide +kernel
theorem dX3_firstFrom_44 : decode cX3_firstFrom 44 = .ok (.iconst (-1), 1) := by decide +kernel
theorem dX3_firstFrom_45 : decode cX3_firstFrom 45 = .ok (.ireturn, 1) := by decide +kernel
theorem dX3_fits_0 : decode cX3_fits 0 = .ok (.iconst 0, 1) := by decide +kernel
theorem dX3_fits_1 : decode cX3_fits 1 = .ok (.istore 4, 2) := by decide +kernel
theorem dX3_fits_3 : decode cX3_fits 3 = .ok (.iload 4, 2) := by decide +kernel
theorem dX3_fits_5 : decode cX3_fits 5 = .ok (.iconst 1, 1) := by decide +kernel
theorem dX3_fits_6 : decode cX3_fits 6 = .ok (.iadd, 1) := by decide +kernel
theorem dX3_fits_7 : decode cX3_fits 7 = .ok (.aload_n 1, 1) := by decide +kernel
theorem dX3_fits_8 : decode cX3_fits 8 = .ok (.getfield 23, 3) := by decide +kernel
theorem dX3_fits_11 : decode cX3_fits 11 = .ok (.if_icmp .ge 42, 3) := by decide +kernel
theorem dX3_fits_14 : decode cX3_fits 14 = .ok (.aload_n 0, 1) := by decide +kernel
theorem dX3_fits_15 : decode cX3_fits 15 = .ok (.getfield 15, 3) := by decide +kernel
theorem dX3_fits_18 : decode cX3_fits 18 = .ok (.iload_n 2, 1) := by decide +kernel
theorem dX3_fits_19 : decode cX3_fits 19 = .ok (.iload_n 3, 1) := by decide +kernel
theorem dX3_fits_20 : decode cX3_fits 20 = .ok (.aload_n 1, 1) := by decide +kernel
theorem dX3_fits_21 : decode cX3_fits 21 = .ok (.getfield 29, 3) := by decide +kernel
theorem dX3_fits_24 : decode cX3_fits 24 = .ok (.iload 4, 2) := by decide +kernel
theorem dX3_fits_26 : decode cX3_fits 26 = .ok (.laload, 1) := by decide +kernel
theorem dX3_fits_27 : decode cX3_fits 27 = .ok (.l2i, 1) := by decide +kernel
theorem dX3_fits_28 : decode cX3_fits 28 = .ok (.invokevirtual 46, 3) := by decide +kernel
theorem dX3_fits_31 : decode cX3_fits 31 = .ok (.i2l, 1) := by decide +kernel
theorem dX3_fits_32 : decode cX3_fits 32 = .ok (.aload_n 1, 1) := by decide +kernel
theorem dX3_fits_33 : decode cX3_fits 33 = .ok (.getfield 29, 3) := by decide +kernel
theorem dX3_fits_36 : decode cX3_fits 36 = .ok (.iload 4, 2) := by decide +kernel
theorem dX3_fits_38 : decode cX3_fits 38 = .ok (.iconst 1, 1) := by decide +kernel
theorem dX3_fits_39 : decode cX3_fits 39 = .ok (.iadd, 1) := by decide +kernel
theorem dX3_fits_40 : decode cX3_fits 40 = .ok (.laload, 1) := by decide +kernel
theorem dX3_fits_41 : decode cX3_fits 41 = .ok (.lcmp, 1) := by decide +kernel
theorem dX3_fits_42 : decode cX3_fits 42 = .ok (.ifCond .eq 5, 3) := by decide +kernel
theorem dX3_fits_45 : decode cX3_fits 45 = .ok (.iconst 0, 1) := by decide +kernel
theorem dX3_fits_46 : decode cX3_fits 46 = .ok (.ireturn, 1) := by decide +kernel
theorem dX3_fits_47 : decode cX3_fits 47 = .ok (.iinc 4 2, 3) := by decide +kernel
theorem dX3_fits_50 : decode cX3_fits 50 = .ok (.goto (-47), 3) := by decide +kernel
theorem dX3_fits_53 : decode cX3_fits 53 = .ok (.iconst 1, 1) := by decide +kernel
theorem dX3_fits_54 : decode cX3_fits 54 = .ok (.ireturn, 1) := by decide +kernel
theorem dX3_gather_0 : decode cX3_gather 0 = .ok (.aload_n 0, 1) := by decide +kernel
theorem dX3_gather_1 : decode cX3_gather 1 = .ok (.iconst 0, 1) := by decide +kernel
theorem dX3_gather_2 : decode cX3_gather 2 = .ok (.putfield 58, 3) := by decide +kernel
theorem dX3_gather_5 : decode cX3_gather 5 = .ok (.aload_n 0, 1) := by decide +kernel
theorem dX3_gather_6 : decode cX3_gather 6 = .ok (.getfield 15, 3) := by decide +kernel
theorem dX3_gather_9 : decode cX3_gather 9 = .ok (.iload_n 2, 1) := by decide +kernel
theorem dX3_gather_10 : decode cX3_gather 10 = .ok (.invokevirtual 50, 3) := by decide +kernel
theorem dX3_gather_13 : decode cX3_gather 13 = .ok (.istore_n 3, 1) := by decide +kernel
theorem dX3_gather_14 : decode cX3_gather 14 = .ok (.iconst 0, 1) := by decide +kernel
theorem dX3_gather_15 : decode cX3_gather 15 = .ok (.istore 4, 2) := by decide +kernel
theorem dX3_gather_17 : decode cX3_gather 17 = .ok (.iload 4, 2) := by decide +kernel
theorem dX3_gather_19 : decode cX3_gather 19 = .ok (.iload_n 3, 1) := by decide +kernel
theorem dX3_gather_20 : decode cX3_gather 20 = .ok (.if_icmp .ge 49, 3) := by decide +kernel
theorem dX3_gather_23 : decode cX3_gather 23 = .ok (.iload 4, 2) := by decide +kernel
theorem dX3_gather_25 : decode cX3_gather 25 = .ok (.sipush 210, 3) := by decide +kernel
theorem dX3_gather_28 : decode cX3_gather 28 = .ok (.if_icmp .ge 41, 3) := by decide +kernel
theorem dX3_gather_31 : decode cX3_gather 31 = .ok (.aload_n 0, 1) := by decide +kernel
theorem dX3_gather_32 : decode cX3_gather 32 = .ok (.aload_n 1, 1) := by decide +kernel
theorem dX3_gather_33 : decode cX3_gather 33 = .ok (.iload_n 2, 1) := by decide +kernel
theorem dX3_gather_34 : decode cX3_gather 34 = .ok (.iload 4, 2) := by decide +kernel
theorem dX3_gather_36 : decode cX3_gather 36 = .ok (.invokevirtual 54, 3) := by decide +kernel
theorem dX3_gather_39 : decode cX3_gather 39 = .ok (.ifCond .eq 24, 3) := by decide +kernel
theorem dX3_gather_42 : decode cX3_gather 42 = .ok (.aload_n 0, 1) := by decide +kernel
theorem dX3_gather_43 : decode cX3_gather 43 = .ok (.getfield 9, 3) := by decide +kernel
theorem dX3_gather_46 : decode cX3_gather 46 = .ok (.aload_n 0, 1) := by decide +kernel
theorem dX3_gather_47 : decode cX3_gather 47 = .ok (.getfield 58, 3) := by decide +kernel
theorem dX3_gather_50 : decode cX3_gather 50 = .ok (.iload 4, 2) := by decide +kernel
theorem dX3_gather_52 : decode cX3_gather 52 = .ok (.iastore, 1) := by decide +kernel
theorem dX3_gather_53 : decode cX3_gather 53 = .ok (.aload_n 0, 1) := by decide +kernel
theorem dX3_gather_54 : decode cX3_gather 54 = .ok (.dup, 1) := by decide +kernel
theorem dX3_gather_55 : decode cX3_gather 55 = .ok (.getfield 58, 3) := by decide +kernel
theorem dX3_gather_58 : decode cX3_gather 58 = .ok (.iconst 1, 1) := by decide +kernel
theorem dX3_gather_59 : decode cX3_gather 59 = .ok (.iadd, 1) := by decide +kernel
theorem dX3_gather_60 : decode cX3_gather 60 = .ok (.putfield 58, 3) := by decide +kernel
theorem dX3_gather_63 : decode cX3_gather 63 = .ok (.iinc 4 1, 3) := by decide +kernel
theorem dX3_gather_66 : decode cX3_gather 66 = .ok (.goto (-49), 3) := by decide +kernel
theorem dX3_gather_69 : decode cX3_gather 69 = .ok (.aload_n 0, 1) := by decide +kernel
theorem dX3_gather_70 : decode cX3_gather 70 = .ok (.getfield 58, 3) := by decide +kernel
theorem dX3_gather_73 : decode cX3_gather 73 = .ok (.ireturn, 1) := by decide +kernel
theorem dX3_isTold_0 : decode cX3_isTold 0 = .ok (.aload_n 1, 1) := by decide +kernel
theorem dX3_isTold_1 : decode cX3_isTold 1 = .ok (.getfield 23, 3) := by decide +kernel
theorem dX3_isTold_4 : decode cX3_isTold 4 = .ok (.iconst 2, 1) := by decide +kernel
theorem dX3_isTold_5 : decode cX3_isTold 5 = .ok (.irem, 1) := by decide +kernel
theorem dX3_isTold_6 : decode cX3_isTold 6 = .ok (.ifCond .eq 5, 3) := by decide +kernel
theorem dX3_isTold_9 : decode cX3_isTold 9 = .ok (.iconst 0, 1) := by decide +kernel
theorem dX3_isTold_10 : decode cX3_isTold 10 = .ok (.ireturn, 1) := by decide +kernel
theorem dX3_isTold_11 : decode cX3_isTold 11 = .ok (.iconst 0, 1) := by decide +kernel
theorem dX3_isTold_12 : decode cX3_isTold 12 = .ok (.istore_n 2, 1) := by decide +kernel
theorem dX3_isTold_13 : decode cX3_isTold 13 = .ok (.iload_n 2, 1) := by decide +kernel
theorem dX3_isTold_14 : decode cX3_isTold 14 = .ok (.iconst 1, 1) := by decide +kernel
theorem dX3_isTold_15 : decode cX3_isTold 15 = .ok (.iadd, 1) := by decide +kernel
theorem dX3_isTold_16 : decode cX3_isTold 16 = .ok (.aload_n 1, 1) := by decide +kernel
theorem dX3_isTold_17 : decode cX3_isTold 17 = .ok (.getfield 23, 3) := by decide +kernel
theorem dX3_isTold_20 : decode cX3_isTold 20 = .ok (.if_icmp .ge 66, 3) := by decide +kernel
theorem dX3_isTold_23 : decode cX3_isTold 23 = .ok (.aload_n 1, 1) := by decide +kernel
theorem dX3_isTold_24 : decode cX3_isTold 24 = .ok (.getfield 29, 3) := by decide +kernel
theorem dX3_isTold_27 : decode cX3_isTold 27 = .ok (.iload_n 2, 1) := by decide +kernel
theorem dX3_isTold_28 : decode cX3_isTold 28 = .ok (.laload, 1) := by decide +kernel
theorem dX3_isTold_29 : decode cX3_isTold 29 = .ok (.lstore_n 3, 1) := by decide +kernel
theorem dX3_isTold_30 : decode cX3_isTold 30 = .ok (.aload_n 1, 1) := by decide +kernel
theorem dX3_isTold_31 : decode cX3_isTold 31 = .ok (.getfield 29, 3) := by decide +kernel
theorem dX3_isTold_34 : decode cX3_isTold 34 = .ok (.iload_n 2, 1) := by decide +kernel
theorem dX3_isTold_35 : decode cX3_isTold 35 = .ok (.iconst 1, 1) := by decide +kernel
theorem dX3_isTold_36 : decode cX3_isTold 36 = .ok (.iadd, 1) := by decide +kernel
theorem dX3_isTold_37 : decode cX3_isTold 37 = .ok (.laload, 1) := by decide +kernel
theorem dX3_isTold_38 : decode cX3_isTold 38 = .ok (.lstore 5, 2) := by decide +kernel
theorem dX3_isTold_40 : decode cX3_isTold 40 = .ok (.lload_n 3, 1) := by decide +kernel
theorem dX3_isTold_41 : decode cX3_isTold 41 = .ok (.lconst 0, 1) := by decide +kernel
theorem dX3_isTold_42 : decode cX3_isTold 42 = .ok (.lcmp, 1) := by decide +kernel
theorem dX3_isTold_43 : decode cX3_isTold 43 = .ok (.ifCond .lt 35, 3) := by decide +kernel
theorem dX3_isTold_46 : decode cX3_isTold 46 = .ok (.lload_n 3, 1) := by decide +kernel
theorem dX3_isTold_47 : decode cX3_isTold 47 = .ok (.aload_n 0, 1) := by decide +kernel
theorem dX3_isTold_48 : decode cX3_isTold 48 = .ok (.getfield 15, 3) := by decide +kernel
theorem dX3_isTold_51 : decode cX3_isTold 51 = .ok (.getfield 33, 3) := by decide +kernel
theorem dX3_isTold_54 : decode cX3_isTold 54 = .ok (.getfield 39, 3) := by decide +kernel
theorem dX3_isTold_57 : decode cX3_isTold 57 = .ok (.i2l, 1) := by decide +kernel
theorem dX3_isTold_58 : decode cX3_isTold 58 = .ok (.lcmp, 1) := by decide +kernel
theorem dX3_isTold_59 : decode cX3_isTold 59 = .ok (.ifCond .ge 19, 3) := by decide +kernel
theorem dX3_isTold_62 : decode cX3_isTold 62 = .ok (.lload 5, 2) := by decide +kernel
theorem dX3_isTold_64 : decode cX3_isTold 64 = .ok (.lconst 0, 1) := by decide +kernel
theorem dX3_isTold_65 : decode cX3_isTold 65 = .ok (.lcmp, 1) := by decide +kernel
theorem dX3_isTold_66 : decode cX3_isTold 66 = .ok (.ifCond .lt 12, 3) := by decide +kernel
theorem dX3_isTold_69 : decode cX3_isTold 69 = .ok (.lload 5, 2) := by decide +kernel
theorem dX3_isTold_71 : decode cX3_isTold 71 = .ok (.ldc2_w 44, 3) := by decide +kernel
theorem dX3_isTold_74 : decode cX3_isTold 74 = .ok (.lcmp, 1) := by decide +kernel
theorem dX3_isTold_75 : decode cX3_isTold 75 = .ok (.ifCond .le 5, 3) := by decide +kernel
theorem dX3_isTold_78 : decode cX3_isTold 78 = .ok (.iconst 0, 1) := by decide +kernel
theorem dX3_isTold_79 : decode cX3_isTold 79 = .ok (.ireturn, 1) := by decide +kernel
theorem dX3_isTold_80 : decode cX3_isTold 80 = .ok (.iinc 2 2, 3) := by decide +kernel
theorem dX3_isTold_83 : decode cX3_isTold 83 = .ok (.goto (-70), 3) := by decide +kernel
theorem dX3_isTold_86 : decode cX3_isTold 86 = .ok (.iconst 1, 1) := by decide +kernel
theorem dX3_isTold_87 : decode cX3_isTold 87 = .ok (.ireturn, 1) := by decide +kernel
theorem mm_km6 : mm_rg (-6) (-6) (-6) := ⟨by decide, by decide⟩
theorem mm_kl9999 : mm_rl 9999 9999 9999 := ⟨by decide, by decide⟩
theorem hd_X10_firstDayUnlike : yX10_firstDayUnlike.cls = RX10 ∧ yX10_firstDayUnlike.cls ≠ "java/lang/invoke/MethodHandle" ∧ yX10_firstDayUnlike.cls ≠ "java/lang/invoke/VarHandle" ∧ (parseMethodDescriptor yX10_firstDayUnlike.desc).map (fun d => d.parameters.length) = some 2 := by decide +kernel
theorem hd_X10_firstUnlike : yX10_firstUnlike.cls = RX10 ∧ yX10_firstUnlike.cls ≠ "java/lang/invoke/MethodHandle" ∧ yX10_firstUnlike.cls ≠ "java/lang/invoke/VarHandle" ∧ (parseMethodDescriptor yX10_firstUnlike.desc).map (fun d => d.parameters.length) = some 4 := by decide +kernel
theorem hd_X11_letterTrouble : yX11_letterTrouble.cls = RX11 ∧ yX11_letterTrouble.cls ≠ "java/lang/invoke/MethodHandle" ∧ yX11_letterTrouble.cls ≠ "java/lang/invoke/VarHandle" ∧ (parseMethodDescriptor yX11_letterTrouble.desc).map (fun d => d.parameters.length) = some 3 := by decide +kernel
theorem hd_X11_rowTrouble : yX11_rowTrouble.cls = RX11 ∧ yX11_rowTrouble.cls ≠ "java/lang/invoke/MethodHandle" ∧ yX11_rowTrouble.cls ≠ "java/lang/invoke/VarHandle" ∧ (parseMethodDescriptor yX11_rowTrouble.desc).map (fun d => d.parameters.length) = some 1 := by decide +kernel
theorem hd_X1_turnedBy : yX1_turnedBy.cls = RX1 ∧ yX1_turnedBy.cls ≠ "java/lang/invoke/MethodHandle" ∧ yX1_turnedBy.cls ≠ "java/lang/invoke/VarHandle" ∧ (parseMethodDescriptor yX1_turnedBy.desc).map (fun d => d.parameters.length) = some 2 := by decide +kernel
theorem hd_X3_firstFrom : yX3_firstFrom.cls = RX3 ∧ yX3_firstFrom.cls ≠ "java/lang/invoke/MethodHandle" ∧ yX3_firstFrom.cls ≠ "java/lang/invoke/VarHandle" ∧ (parseMethodDescriptor yX3_firstFrom.desc).map (fun d => d.parameters.length) = some 3 := by decide +kernel
theorem hd_X3_fits : yX3_fits.cls = RX3 ∧ yX3_fits.cls ≠ "java/lang/invoke/MethodHandle" ∧ yX3_fits.cls ≠ "java/lang/invoke/VarHandle" ∧ (parseMethodDescriptor yX3_fits.desc).map (fun d => d.parameters.length) = some 3 := by decide +kernel
theorem hd_X3_gather : yX3_gather.cls = RX3 ∧ yX3_gather.cls ≠ "java/lang/invoke/MethodHandle" ∧ yX3_gather.cls ≠ "java/lang/invoke/VarHandle" ∧ (parseMethodDescriptor yX3_gather.desc).map (fun d => d.parameters.length) = some 2 := by decide +kernel
theorem hd_X3_isTold : yX3_isTold.cls = RX3 ∧ yX3_isTold.cls ≠ "java/lang/invoke/MethodHandle" ∧ yX3_isTold.cls ≠ "java/lang/invoke/VarHandle" ∧ (parseMethodDescriptor yX3_isTold.desc).map (fun d => d.parameters.length) = some 1 := by decide +kernel
theorem hs_X11_isSlot : yX11_isSlot.cls ≠ "java/lang/invoke/MethodHandle" ∧ yX11_isSlot.cls ≠ "java/lang/invoke/VarHandle" ∧ (parseMethodDescriptor yX11_isSlot.desc).map (fun d => d.parameters.length) = some 1 := by decide +kernel
set_option maxHeartbeats 4000000 in
set_option maxRecDepth 100000 in
theorem K422_X1_turnedBy (l : Launch) (G : va_G) (cy : Nat → ClassId) (sz : Nat) (a_0 : Nat) (i_0 : Int32) (i_1 : Int32) (a_1 : Nat) (a_2 : Nat) (i_2 : Int32) (i_3 : Int32) (i_4 : Int32) (f_0 : Nat → Int32) (h0 : mm_rg i_0 0 9) (h1 : mm_rg i_1 0 1000000000) (h2 : mm_ar f_0 0 9)  : mm_CI l yX1_turnedBy (mm_ws yX1_turnedBy cX1_turnedBy 7 (some .int)) ({ frames := 1, cells := 0, slots := 0, locals := 23 } : Room) G cy sz [(a_0, .inr (1, [.ref a_1, .ref a_2, .int i_2, .int i_3, .int i_4])), (a_2, .inl (cy 1, 10, .inl f_0))] [.ref a_0, .int i_0, .int i_1] (fun u : Unit => [(a_0, .inr (1, [.ref a_1, .ref a_2, .int i_2, .int i_3, .int i_4])), (a_2, .inl (cy 1, 10, .inl f_0))]) (fun (r : Int32) (u : Unit) => mm_rg r 0 9) 0 0 := by
  refine mm_begin (lv := [(0, .ref a_0), (1, .int i_0), (2, .int i_1)]) (by decide) (Nat.le_of_ble_eq_true rfl) rfl ?_
  intro p e s m below meth c A ls R args Q H locs hRe hQ hAe hx hb hr hlocks hml hown hnm hts hsz hA hS hP hK hD hZ hl
  have hRf : R.frames = 1 := by rw [hRe]
  have hRl : R.locals = 23 := by rw [hRe]
  have hRc : R.cells = 0 := by rw [hRe]
  have hRs : R.slots = 0 := by rw [hRe]
  refine lv_aload_n hx hb dX1_turnedBy_0 rfl (lv_at hl 0 rfl) ?_
  refine lv_iload_n hx hb dX1_turnedBy_1 rfl (lv_at hl 1 rfl) ?_
  refine mm_finir (va_runV (As := [.int i_0]) (rest := []) ⟨hx, hb, hml, hown, hts⟩ (K333_X1_cycleOf l G cy H.size a_0 i_0 a_1 a_2 i_2 i_3 i_4 f_0 h0 h2) (cwV 1 hts (mm_gV mm_w407 mm_w408 mm_w409 mm_w91 mm_w410) rfl rfl rfl hd_X1_cycleOf ⟨by rw [hRf]; exact Nat.le_of_ble_eq_true rfl, by rw [hRl]; exact Nat.le_of_ble_eq_true rfl⟩) (mm_preV hK hZ hS hA hP hD [0, 1] rfl rfl 0 rfl rfl rfl) rfl rfl hl.1 rfl (lv_room (Nat.le_of_ble_eq_true rfl)) dX1_turnedBy_2 ⟨by rw [hRc]; exact Nat.le_of_ble_eq_true rfl, by rw [hRs]; exact Nat.le_of_ble_eq_true rfl⟩) hP hD hS hA [0, 1] rfl (fun _ => rfl) ?_
  clear hP hD hS
  clear H locs
  intro v1 _u H locs hw hP hD hS
  have w2 := hw
  refine lv_istore_n (lv' := [(3, .int v1), (0, .ref a_0), (1, .int i_0), (2, .int i_1)]) hx hb dX1_turnedBy_5 rfl hl (by decide) rfl ?_
  clear hl
  clear ls
  intro ls hl
  refine lv_iload_n hx hb dX1_turnedBy_6 rfl (lv_at hl 0 rfl) ?_
  refine lv_iconst (v := 1) hx hb dX1_turnedBy_7 (by decide) ?_
  refine lv_icmp_ge (tgt := 15) hx hb dX1_turnedBy_8 (by decide) (fun c3 => ?_) (fun c3 => ?_)
  · refine lv_iload_n hx hb dX1_turnedBy_15 rfl (lv_at hl 3 rfl) ?_
    refine lv_iload_n hx hb dX1_turnedBy_16 rfl (lv_at hl 0 rfl) ?_
    refine lv_irem hx hb dX1_turnedBy_17 (mm_nz w2 (by decide)) ?_
    refine lv_topi (fun v4 ev4 => ?_)
    have rv4 : mm_rg v4 0 9 := mm_rem ev4 h1 w2 (by decide) (by decide)
    refine lv_istore (lv' := [(4, .int v4), (3, .int v1), (0, .ref a_0), (1, .int i_0), (2, .int i_1)]) hx hb dX1_turnedBy_18 hl (by decide) rfl ?_
    clear hl
    clear ls
    intro ls hl
    refine lv_iload_n hx hb dX1_turnedBy_20 rfl (lv_at hl 3 rfl) ?_
    refine lv_istore (lv' := [(5, .int i_0), (4, .int v4), (3, .int v1), (0, .ref a_0), (1, .int i_0), (2, .int i_1)]) hx hb dX1_turnedBy_21 hl (by decide) rfl ?_
    clear hl
    clear ls
    intro ls hl
    refine lv_iconst (v := 0) hx hb dX1_turnedBy_23 (by decide) ?_
    refine lv_istore (lv' := [(6, .int 0), (5, .int i_0), (4, .int v4), (3, .int v1), (0, .ref a_0), (1, .int i_0), (2, .int i_1)]) hx hb dX1_turnedBy_24 hl (by decide) rfl ?_
    clear hl
    clear ls
    intro ls hl
    have L26_60 : ∀ (n : Nat) (x26_6_59 : Int32) (x26_5_60 : Int32), mm_rg x26_6_59 0 9 → mm_rg x26_5_60 0 9 → (9 - x26_6_59.toInt).toNat < n → ∀ (H : Heap) (locs : List Loc), va_P G vwCl [(a_0, .inr (1, [.ref a_1, .ref a_2, .int i_2, .int i_3, .int i_4])), (a_2, .inl (cy 1, 10, .inl f_0))] H → va_D A [(a_0, .inr (1, [.ref a_1, .ref a_2, .int i_2, .int i_3, .int i_4])), (a_2, .inl (cy 1, 10, .inl f_0))] → va_S A s.heap H locs → ∀ (ls : Array Slot), lv_has ls 7 [(6, .int x26_6_59), (5, .int x26_5_60), (4, .int v4), (3, .int v1), (0, .ref a_0), (1, .int i_0), (2, .int i_1)] → W p l e R s m args below meth c H locs 0 0 Q (F0 m 26 ls []) := by
      intro n
      induction n with
      | zero => intro x26_6_59 x26_5_60 rx26_6_59 rx26_5_60 hm; exact absurd hm (Nat.not_lt_zero _)
      | succ n ih26 =>
        intro x26_6_59 x26_5_60 rx26_6_59 rx26_5_60 hm26 H locs hP hD hS ls hl
        refine lv_iload hx hb dX1_turnedBy_26 (lv_at hl 0 rfl) ?_
        refine lv_iload hx hb dX1_turnedBy_28 (lv_at hl 2 rfl) ?_
        refine lv_icmp_ge (tgt := 48) hx hb dX1_turnedBy_30 (by decide) (fun c62 => ?_) (fun c62 => ?_)
        · refine lv_iload hx hb dX1_turnedBy_48 (lv_at hl 1 rfl) ?_
          subst hAe
          rw [hQ]
          exact W.iret (v := x26_5_60) hx hb hr (fun t ht hW => ⟨⟨x26_5_60, (), rfl, rx26_5_60, by rw [ht]; exact hP, hK.warm hW, hD⟩, hS.F ht⟩) hS.2.2 dX1_turnedBy_50
        · have q63 := mm_ltL (h := 8) (mm_nle c62) rx26_6_59 rv4 (by decide)
          have q64 := mm_ltR (lo := 1) (mm_nle c62) rx26_6_59 rv4 (by decide)
          refine lv_aload_n hx hb dX1_turnedBy_33 rfl (lv_at hl 4 rfl) ?_
          refine va_get (D := G) (ci := 1) (v := .ref a_2) (C := RX1) (T := TX1) (N := 5) hx hb hts (mm_i inlX1) hown hK.1 hP 0 rfl rfl 1 (by decide) (mm_h hts mm_w96) (fun _ h9 => h9) rfl dX1_turnedBy_34 ?_
          refine lv_iload hx hb dX1_turnedBy_37 (lv_at hl 1 rfl) ?_
          refine va_iald hx hb hK.1 hP 1 1 rfl rfl (mm_in rx26_5_60 (by decide)) dX1_turnedBy_39 ?_
          refine lv_topi (fun v65 ev65 => ?_)
          have rv65 : mm_rg v65 0 9 := mm_eqv ev65 (h2 _)
          refine lv_istore (lv' := [(5, .int v65), (6, .int x26_6_59), (4, .int v4), (3, .int v1), (0, .ref a_0), (1, .int i_0), (2, .int i_1)]) hx hb dX1_turnedBy_40 hl (by decide) rfl ?_
          clear hl
          clear ls
          intro ls hl
          obtain ⟨v66, ev66⟩ : ∃ y : Int32, y = x26_6_59 + 1 := ⟨_, rfl⟩
          refine lv_iinc (v := v66) (lv' := [(6, .int v66), (5, .int v65), (4, .int v4), (3, .int v1), (0, .ref a_0), (1, .int i_0), (2, .int i_1)]) hx hb dX1_turnedBy_42 hl (k := 1) rfl (by rw [ev66]; rfl) (by decide) rfl ?_
          clear hl
          clear ls
          intro ls hl
          have rv66 : mm_rg v66 1 9 := mm_add ev66 q63 mm_k1 (by decide) (by decide)
          have tv66 := mm_addEc ev66 q63 mm_k1 (by decide) (k := 1) (by decide)
          refine lv_goto (tgt := 26) hx hb dX1_turnedBy_45 (by decide) ?_
          exact ih26 v66 v65 (mm_wk rv66 (by decide)) rv65 (mm_mu hm26 tv66 (by decide) (rv66).2 (by decide)) H locs hP hD hS ls (lv_sub hl [0, 1, 2, 3, 4, 5, 6] rfl)
    exact L26_60 _ 0 i_0 (mm_wk mm_k0 (by decide)) h0 (Nat.lt_succ_self _) H locs hP hD hS ls (lv_sub hl [0, 1, 2, 3, 4, 5, 6] rfl)
  · have q67 := mm_ltL (h := 0) (mm_nle c3) w2 mm_k1 (by decide)
    exact mm_no q67 (by decide)

set_option maxHeartbeats 4000000 in
set_option maxRecDepth 100000 in
theorem K423_X11_turned (l : Launch) (G : va_G) (cy : Nat → ClassId) (sz : Nat) (a_0 : Nat) (i_0 : Int32) (i_1 : Int32) (i_2 : Int32) (a_1 : Nat) (a_2 : Nat) (a_3 : Nat) (a_4 : Nat) (a_5 : Nat) (a_6 : Nat) (a_7 : Nat) (a_8 : Nat) (a_9 : Nat) (a_10 : Nat) (a_11 : Nat) (a_12 : Nat) (a_13 : Nat) (i_3 : Int32) (i_4 : Int32) (i_5 : Int32) (i_6 : Int32) (i_7 : Int32) (i_8 : Int32) (i_9 : Int32) (i_10 : Int32) (a_14 : Nat) (a_15 : Nat) (a_16 : Nat) (a_17 : Nat) (a_18 : Nat) (a_19 : Nat) (a_20 : Nat) (a_21 : Nat) (a_22 : Nat) (a_23 : Nat) (a_24 : Nat) (a_25 : Nat) (a_26 : Nat) (a_27 : Nat) (a_28 : Nat) (i_11 : Int32) (i_12 : Int32) (i_13 : Int32) (f_0 : Nat → Int32) (a_29 : Nat) (a_30 : Nat) (i_14 : Int32) (i_15 : Int32) (i_16 : Int32) (f_1 : Nat → Int32) (a_31 : Nat) (a_32 : Nat) (i_17 : Int32) (i_18 : Int32) (i_19 : Int32) (f_2 : Nat → Int32) (h0 : mm_rg i_7 0 9) (h1 : mm_rg i_8 0 3) (h2 : mm_ar f_0 0 9) (h3 : mm_ar f_1 0 9) (h4 : mm_ar f_2 0 9)  : mm_CI l yX11_turned (mm_ws yX11_turned cX11_turned 4 (some .int)) ({ frames := 2, cells := 0, slots := 0, locals := 49 } : Room) G cy sz [(a_0, .inr (11, [.ref a_1, .ref a_2, .ref a_3, .ref a_4, .ref a_5, .ref a_6, .ref a_7, .ref a_8, .ref a_9, .ref a_10, .ref a_11])), (a_3, .inr (10, [.ref a_12, .ref a_13])), (a_12, .inr (0, [.int i_3, .int i_4, .int i_5, .int i_6, .int i_7, .int i_8, .int i_9, .int i_10, .ref a_14, .ref a_15, .ref a_16, .ref a_17, .ref a_18, .ref a_19, .ref a_20, .ref a_21, .ref a_22, .ref a_23])), (a_13, .inl (cy 5, 3, .inr (.inr (.inr (.inr (va_up (va_up (va_up (fun _ => none) 0 (some a_24)) 1 (some a_25)) 2 (some a_26))))))), (a_24, .inr (1, [.ref a_27, .ref a_28, .int i_11, .int i_12, .int i_13])), (a_28, .inl (cy 1, 10, .inl f_0)), (a_25, .inr (1, [.ref a_29, .ref a_30, .int i_14, .int i_15, .int i_16])), (a_30, .inl (cy 1, 10, .inl f_1)), (a_26, .inr (1, [.ref a_31, .ref a_32, .int i_17, .int i_18, .int i_19])), (a_32, .inl (cy 1, 10, .inl f_2))] [.ref a_0, .int i_0, .int i_1, .int i_2] (fun u : Unit => [(a_0, .inr (11, [.ref a_1, .ref a_2, .ref a_3, .ref a_4, .ref a_5, .ref a_6, .ref a_7, .ref a_8, .ref a_9, .ref a_10, .ref a_11])), (a_3, .inr (10, [.ref a_12, .ref a_13])), (a_12, .inr (0, [.int i_3, .int i_4, .int i_5, .int i_6, .int i_7, .int i_8, .int i_9, .int i_10, .ref a_14, .ref a_15, .ref a_16, .ref a_17, .ref a_18, .ref a_19, .ref a_20, .ref a_21, .ref a_22, .ref a_23])), (a_13, .inl (cy 5, 3, .inr (.inr (.inr (.inr (va_up (va_up (va_up (fun _ => none) 0 (some a_24)) 1 (some a_25)) 2 (some a_26))))))), (a_24, .inr (1, [.ref a_27, .ref a_28, .int i_11, .int i_12, .int i_13])), (a_28, .inl (cy 1, 10, .inl f_0)), (a_25, .inr (1, [.ref a_29, .ref a_30, .int i_14, .int i_15, .int i_16])), (a_30, .inl (cy 1, 10, .inl f_1)), (a_26, .inr (1, [.ref a_31, .ref a_32, .int i_17, .int i_18, .int i_19])), (a_32, .inl (cy 1, 10, .inl f_2))]) (fun (r : Int32) (u : Unit) => mm_rg r (-2) 9) 0 0 := by
  refine mm_begin (lv := [(0, .ref a_0), (1, .int i_0), (2, .int i_1), (3, .int i_2)]) (by decide) (Nat.le_of_ble_eq_true rfl) rfl ?_
  intro p e s m below meth c A ls R args Q H locs hRe hQ hAe hx hb hr hlocks hml hown hnm hts hsz hA hS hP hK hD hZ hl
  have hRf : R.frames = 2 := by rw [hRe]
  have hRl : R.locals = 49 := by rw [hRe]
  have hRc : R.cells = 0 := by rw [hRe]
  have hRs : R.slots = 0 := by rw [hRe]
  refine lv_aload_n hx hb dX11_turned_0 rfl (lv_at hl 0 rfl) ?_
  refine lv_iload_n hx hb dX11_turned_1 rfl (lv_at hl 1 rfl) ?_
  refine mm_finir (va_runV (As := [.int i_0]) (rest := []) ⟨hx, hb, hml, hown, hts⟩ (K350_X11_isLand l G cy H.size a_0 i_0 a_1 a_2 a_3 a_4 a_5 a_6 a_7 a_8 a_9 a_10 a_11 a_12 a_13 i_3 i_4 i_5 i_6 i_7 i_8 i_9 i_10 a_14 a_15 a_16 a_17 a_18 a_19 a_20 a_21 a_22 a_23 h1) (cwV 1 hts (mm_gV mm_w626 mm_w627 mm_w628 mm_w2 mm_w629) rfl rfl rfl hd_X11_isLand ⟨by rw [hRf]; exact Nat.le_of_ble_eq_true rfl, by rw [hRl]; exact Nat.le_of_ble_eq_true rfl⟩) (mm_preV hK hZ hS hA hP hD [0, 1, 2] rfl rfl 0 rfl rfl rfl) rfl rfl hl.1 rfl (lv_room (Nat.le_of_ble_eq_true rfl)) dX11_turned_2 ⟨by rw [hRc]; exact Nat.le_of_ble_eq_true rfl, by rw [hRs]; exact Nat.le_of_ble_eq_true rfl⟩) hP hD hS hA [0, 1, 2] rfl (fun _ => rfl) ?_
  clear hP hD hS
  clear H locs
  intro v1 _u H locs hw hP hD hS
  rcases hw with ⟨rfl, w2⟩ | ⟨rfl, w3⟩
  · refine lv_if_eq (tgt := 27) hx hb dX11_turned_5 (by decide) (fun c4 => ?_) (fun c4 => ?_)
    · refine lv_bipush (v := (-2)) hx hb dX11_turned_27 (by decide) ?_
      subst hAe
      rw [hQ]
      exact W.iret (v := (-2)) hx hb hr (fun t ht hW => ⟨⟨(-2), (), rfl, (mm_wk mm_km2 (by decide)), by rw [ht]; exact hP, hK.warm hW, hD⟩, hS.F ht⟩) hS.2.2 dX11_turned_29
    · have q5 := mm_neL (lo := 1) (mm_ne c4) mm_k0 mm_k0 (by decide) (by decide)
      exact mm_no q5 (by decide)
  · refine lv_if_eq (tgt := 27) hx hb dX11_turned_5 (by decide) (fun c6 => ?_) (fun c6 => ?_)
    · exact mm_eqN c6.symm mm_k0 mm_k1 (by decide)
    · refine lv_aload_n hx hb dX11_turned_8 rfl (lv_at hl 0 rfl) ?_
      refine lv_iload_n hx hb dX11_turned_9 rfl (lv_at hl 2 rfl) ?_
      refine mm_finir (va_runV (As := [.int i_1]) (rest := []) ⟨hx, hb, hml, hown, hts⟩ (K351_X11_isWord l G cy H.size a_0 i_1 a_1 a_2 a_3 a_4 a_5 a_6 a_7 a_8 a_9 a_10 a_11 a_12 a_13 i_3 i_4 i_5 i_6 i_7 i_8 i_9 i_10 a_14 a_15 a_16 a_17 a_18 a_19 a_20 a_21 a_22 a_23 h0) (cwV 1 hts (mm_gV mm_w631 mm_w632 mm_w633 mm_w2 mm_w634) rfl rfl rfl hd_X11_isWord ⟨by rw [hRf]; exact Nat.le_of_ble_eq_true rfl, by rw [hRl]; exact Nat.le_of_ble_eq_true rfl⟩) (mm_preV hK hZ hS hA hP hD [0, 1, 2] rfl rfl 0 rfl rfl rfl) rfl rfl hl.1 rfl (lv_room (Nat.le_of_ble_eq_true rfl)) dX11_turned_10 ⟨by rw [hRc]; exact Nat.le_of_ble_eq_true rfl, by rw [hRs]; exact Nat.le_of_ble_eq_true rfl⟩) hP hD hS hA [0, 1, 2] rfl (fun _ => rfl) ?_
      clear hP hD hS
      clear H locs
      intro v7 _u H locs hw hP hD hS
      rcases hw with ⟨rfl, w8⟩ | ⟨rfl, w9⟩
      · refine lv_if_eq (tgt := 27) hx hb dX11_turned_13 (by decide) (fun c10 => ?_) (fun c10 => ?_)
        · refine lv_bipush (v := (-2)) hx hb dX11_turned_27 (by decide) ?_
          subst hAe
          rw [hQ]
          exact W.iret (v := (-2)) hx hb hr (fun t ht hW => ⟨⟨(-2), (), rfl, (mm_wk mm_km2 (by decide)), by rw [ht]; exact hP, hK.warm hW, hD⟩, hS.F ht⟩) hS.2.2 dX11_turned_29
        · have q11 := mm_neL (lo := 1) (mm_ne c10) mm_k0 mm_k0 (by decide) (by decide)
          exact mm_no q11 (by decide)
      · refine lv_if_eq (tgt := 27) hx hb dX11_turned_13 (by decide) (fun c12 => ?_) (fun c12 => ?_)
        · exact mm_eqN c12.symm mm_k0 mm_k1 (by decide)
        · refine lv_iload_n hx hb dX11_turned_16 rfl (lv_at hl 3 rfl) ?_
          refine lv_if_lt (tgt := 27) hx hb dX11_turned_17 (by decide) (fun c13 => ?_) (fun c13 => ?_)
          · have q14 := mm_ltL (h := (-1)) (mm_lt c13) (mm_top i_2) mm_k0 (by decide)
            refine lv_bipush (v := (-2)) hx hb dX11_turned_27 (by decide) ?_
            subst hAe
            rw [hQ]
            exact W.iret (v := (-2)) hx hb hr (fun t ht hW => ⟨⟨(-2), (), rfl, (mm_wk mm_km2 (by decide)), by rw [ht]; exact hP, hK.warm hW, hD⟩, hS.F ht⟩) hS.2.2 dX11_turned_29
          · have q15 := mm_leR (mm_nlt c13) mm_k0 (mm_top i_2)
            refine lv_iload_n hx hb dX11_turned_20 rfl (lv_at hl 3 rfl) ?_
            refine lv_ldcw (v := 1000000000) hx hb hown (mm_h hts mm_w664) dX11_turned_21 ?_
            refine lv_icmp_le (tgt := 30) hx hb dX11_turned_24 (by decide) (fun c16 => ?_) (fun c16 => ?_)
            · have q17 := mm_leL (mm_le c16) q15 mm_k1000000000
              refine lv_aload_n hx hb dX11_turned_30 rfl (lv_at hl 0 rfl) ?_
              refine va_get (D := G) (ci := 11) (v := .ref a_3) (C := RX11) (T := TX11) (N := 11) hx hb hts (mm_i inlX11) hown hK.1 hP 0 rfl rfl 2 (by decide) (mm_h hts mm_w24) (fun _ h9 => h9) rfl dX11_turned_31 ?_
              refine va_get (D := G) (ci := 10) (v := .ref a_13) (C := RX10) (T := TX10) (N := 2) hx hb hts (mm_i inlX10) hown hK.1 hP 1 rfl rfl 1 (by decide) (mm_h hts mm_w1105) (fun _ h9 => h9) rfl dX11_turned_34 ?_
              refine lv_iload_n hx hb dX11_turned_37 rfl (lv_at hl 1 rfl) ?_
              refine va_aldq hx hb hK.1 hP 3 5 rfl rfl (mm_in w3 (by decide)) dX11_turned_38 ?_
              have c18 := mm_cases3 w3
              rcases c18 with rfl | rfl | rfl
              · refine W.eq (g2 := F0 m 39 ls [.ref a_24]) rfl ?_
                refine lv_iload_n hx hb dX11_turned_39 rfl (lv_at hl 2 rfl) ?_
                refine lv_iload_n hx hb dX11_turned_40 rfl (lv_at hl 3 rfl) ?_
                refine mm_finir (va_runV (As := [.int i_1, .int i_2]) (rest := []) ⟨hx, hb, hml, hown, hts⟩ (K422_X1_turnedBy l G cy H.size a_24 i_1 i_2 a_27 a_28 i_11 i_12 i_13 f_0 w9 q17 h2) (cwV 2 hts (mm_gV mm_w1106 mm_w1107 mm_w1108 mm_w91 mm_w1109) rfl rfl rfl hd_X1_turnedBy ⟨by rw [hRf]; exact Nat.le_of_ble_eq_true rfl, by rw [hRl]; exact Nat.le_of_ble_eq_true rfl⟩) (mm_preV hK hZ hS hA hP hD [4, 5] rfl rfl 4 rfl rfl rfl) rfl rfl hl.1 rfl (lv_room (Nat.le_of_ble_eq_true rfl)) dX11_turned_41 ⟨by rw [hRc]; exact Nat.le_of_ble_eq_true rfl, by rw [hRs]; exact Nat.le_of_ble_eq_true rfl⟩) hP hD hS hA [4, 5] rfl (fun _ => rfl) ?_
                clear hP hD hS
                clear H locs
                intro v19 _u H locs hw hP hD hS
                have w20 := hw
                subst hAe
                rw [hQ]
                exact W.iret (v := v19) hx hb hr (fun t ht hW => ⟨⟨v19, (), rfl, (mm_wk w20 (by decide)), by rw [ht]; exact hP, hK.warm hW, hD⟩, hS.F ht⟩) hS.2.2 dX11_turned_44
              · refine W.eq (g2 := F0 m 39 ls [.ref a_25]) rfl ?_
                refine lv_iload_n hx hb dX11_turned_39 rfl (lv_at hl 2 rfl) ?_
                refine lv_iload_n hx hb dX11_turned_40 rfl (lv_at hl 3 rfl) ?_
                refine mm_finir (va_runV (As := [.int i_1, .int i_2]) (rest := []) ⟨hx, hb, hml, hown, hts⟩ (K422_X1_turnedBy l G cy H.size a_25 i_1 i_2 a_29 a_30 i_14 i_15 i_16 f_1 w9 q17 h3) (cwV 2 hts (mm_gV mm_w1106 mm_w1107 mm_w1108 mm_w91 mm_w1109) rfl rfl rfl hd_X1_turnedBy ⟨by rw [hRf]; exact Nat.le_of_ble_eq_true rfl, by rw [hRl]; exact Nat.le_of_ble_eq_true rfl⟩) (mm_preV hK hZ hS hA hP hD [6, 7] rfl rfl 6 rfl rfl rfl) rfl rfl hl.1 rfl (lv_room (Nat.le_of_ble_eq_true rfl)) dX11_turned_41 ⟨by rw [hRc]; exact Nat.le_of_ble_eq_true rfl, by rw [hRs]; exact Nat.le_of_ble_eq_true rfl⟩) hP hD hS hA [6, 7] rfl (fun _ => rfl) ?_
                clear hP hD hS
                clear H locs
                intro v21 _u H locs hw hP hD hS
                have w22 := hw
                subst hAe
                rw [hQ]
                exact W.iret (v := v21) hx hb hr (fun t ht hW => ⟨⟨v21, (), rfl, (mm_wk w22 (by decide)), by rw [ht]; exact hP, hK.warm hW, hD⟩, hS.F ht⟩) hS.2.2 dX11_turned_44
              · refine W.eq (g2 := F0 m 39 ls [.ref a_26]) rfl ?_
                refine lv_iload_n hx hb dX11_turned_39 rfl (lv_at hl 2 rfl) ?_
                refine lv_iload_n hx hb dX11_turned_40 rfl (lv_at hl 3 rfl) ?_
                refine mm_finir (va_runV (As := [.int i_1, .int i_2]) (rest := []) ⟨hx, hb, hml, hown, hts⟩ (K422_X1_turnedBy l G cy H.size a_26 i_1 i_2 a_31 a_32 i_17 i_18 i_19 f_2 w9 q17 h4) (cwV 2 hts (mm_gV mm_w1106 mm_w1107 mm_w1108 mm_w91 mm_w1109) rfl rfl rfl hd_X1_turnedBy ⟨by rw [hRf]; exact Nat.le_of_ble_eq_true rfl, by rw [hRl]; exact Nat.le_of_ble_eq_true rfl⟩) (mm_preV hK hZ hS hA hP hD [8, 9] rfl rfl 8 rfl rfl rfl) rfl rfl hl.1 rfl (lv_room (Nat.le_of_ble_eq_true rfl)) dX11_turned_41 ⟨by rw [hRc]; exact Nat.le_of_ble_eq_true rfl, by rw [hRs]; exact Nat.le_of_ble_eq_true rfl⟩) hP hD hS hA [8, 9] rfl (fun _ => rfl) ?_
                clear hP hD hS
                clear H locs
                intro v23 _u H locs hw hP hD hS
                have w24 := hw
                subst hAe
                rw [hQ]
                exact W.iret (v := v23) hx hb hr (fun t ht hW => ⟨⟨v23, (), rfl, (mm_wk w24 (by decide)), by rw [ht]; exact hP, hK.warm hW, hD⟩, hS.F ht⟩) hS.2.2 dX11_turned_44
            · have q25 := mm_ltR (lo := 1000000001) (mm_nle c16) mm_k1000000000 q15 (by decide)
              refine lv_bipush (v := (-2)) hx hb dX11_turned_27 (by decide) ?_
              subst hAe
              rw [hQ]
              exact W.iret (v := (-2)) hx hb hr (fun t ht hW => ⟨⟨(-2), (), rfl, (mm_wk mm_km2 (by decide)), by rw [ht]; exact hP, hK.warm hW, hD⟩, hS.F ht⟩) hS.2.2 dX11_turned_29

set_option maxHeartbeats 4000000 in
set_option maxRecDepth 100000 in
theorem K424_X11_cycle (l : Launch) (G : va_G) (cy : Nat → ClassId) (sz : Nat) (a_0 : Nat) (i_0 : Int32) (i_1 : Int32) (a_1 : Nat) (a_2 : Nat) (a_3 : Nat) (a_4 : Nat) (a_5 : Nat) (a_6 : Nat) (a_7 : Nat) (a_8 : Nat) (a_9 : Nat) (a_10 : Nat) (a_11 : Nat) (a_12 : Nat) (a_13 : Nat) (i_2 : Int32) (i_3 : Int32) (i_4 : Int32) (i_5 : Int32) (i_6 : Int32) (i_7 : Int32) (i_8 : Int32) (i_9 : Int32) (a_14 : Nat) (a_15 : Nat) (a_16 : Nat) (a_17 : Nat) (a_18 : Nat) (a_19 : Nat) (a_20 : Nat) (a_21 : Nat) (a_22 : Nat) (a_23 : Nat) (a_24 : Nat) (a_25 : Nat) (a_26 : Nat) (a_27 : Nat) (a_28 : Nat) (i_10 : Int32) (i_11 : Int32) (i_12 : Int32) (f_0 : Nat → Int32) (a_29 : Nat) (a_30 : Nat) (i_13 : Int32) (i_14 : Int32) (i_15 : Int32) (f_1 : Nat → Int32) (a_31 : Nat) (a_32 : Nat) (i_16 : Int32) (i_17 : Int32) (i_18 : Int32) (f_2 : Nat → Int32) (h0 : mm_rg i_6 0 9) (h1 : mm_rg i_7 0 3) (h2 : mm_ar f_0 0 9) (h3 : mm_ar f_1 0 9) (h4 : mm_ar f_2 0 9)  : mm_CI l yX11_cycle (mm_ws yX11_cycle cX11_cycle 3 (some .int)) ({ frames := 2, cells := 0, slots := 0, locals := 41 } : Room) G cy sz [(a_0, .inr (11, [.ref a_1, .ref a_2, .ref a_3, .ref a_4, .ref a_5, .ref a_6, .ref a_7, .ref a_8, .ref a_9, .ref a_10, .ref a_11])), (a_3, .inr (10, [.ref a_12, .ref a_13])), (a_12, .inr (0, [.int i_2, .int i_3, .int i_4, .int i_5, .int i_6, .int i_7, .int i_8, .int i_9, .ref a_14, .ref a_15, .ref a_16, .ref a_17, .ref a_18, .ref a_19, .ref a_20, .ref a_21, .ref a_22, .ref a_23])), (a_13, .inl (cy 5, 3, .inr (.inr (.inr (.inr (va_up (va_up (va_up (fun _ => none) 0 (some a_24)) 1 (some a_25)) 2 (some a_26))))))), (a_24, .inr (1, [.ref a_27, .ref a_28, .int i_10, .int i_11, .int i_12])), (a_28, .inl (cy 1, 10, .inl f_0)), (a_25, .inr (1, [.ref a_29, .ref a_30, .int i_13, .int i_14, .int i_15])), (a_30, .inl (cy 1, 10, .inl f_1)), (a_26, .inr (1, [.ref a_31, .ref a_32, .int i_16, .int i_17, .int i_18])), (a_32, .inl (cy 1, 10, .inl f_2))] [.ref a_0, .int i_0, .int i_1] (fun u : Unit => [(a_0, .inr (11, [.ref a_1, .ref a_2, .ref a_3, .ref a_4, .ref a_5, .ref a_6, .ref a_7, .ref a_8, .ref a_9, .ref a_10, .ref a_11])), (a_3, .inr (10, [.ref a_12, .ref a_13])), (a_12, .inr (0, [.int i_2, .int i_3, .int i_4, .int i_5, .int i_6, .int i_7, .int i_8, .int i_9, .ref a_14, .ref a_15, .ref a_16, .ref a_17, .ref a_18, .ref a_19, .ref a_20, .ref a_21, .ref a_22, .ref a_23])), (a_13, .inl (cy 5, 3, .inr (.inr (.inr (.inr (va_up (va_up (va_up (fun _ => none) 0 (some a_24)) 1 (some a_25)) 2 (some a_26))))))), (a_24, .inr (1, [.ref a_27, .ref a_28, .int i_10, .int i_11, .int i_12])), (a_28, .inl (cy 1, 10, .inl f_0)), (a_25, .inr (1, [.ref a_29, .ref a_30, .int i_13, .int i_14, .int i_15])), (a_30, .inl (cy 1, 10, .inl f_1)), (a_26, .inr (1, [.ref a_31, .ref a_32, .int i_16, .int i_17, .int i_18])), (a_32, .inl (cy 1, 10, .inl f_2))]) (fun (r : Int32) (u : Unit) => mm_rg r (-2) 10) 0 0 := by
  refine mm_begin (lv := [(0, .ref a_0), (1, .int i_0), (2, .int i_1)]) (by decide) (Nat.le_of_ble_eq_true rfl) rfl ?_
  intro p e s m below meth c A ls R args Q H locs hRe hQ hAe hx hb hr hlocks hml hown hnm hts hsz hA hS hP hK hD hZ hl
  have hRf : R.frames = 2 := by rw [hRe]
  have hRl : R.locals = 41 := by rw [hRe]
  have hRc : R.cells = 0 := by rw [hRe]
  have hRs : R.slots = 0 := by rw [hRe]
  refine lv_aload_n hx hb dX11_cycle_0 rfl (lv_at hl 0 rfl) ?_
  refine lv_iload_n hx hb dX11_cycle_1 rfl (lv_at hl 1 rfl) ?_
  refine mm_finir (va_runV (As := [.int i_0]) (rest := []) ⟨hx, hb, hml, hown, hts⟩ (K350_X11_isLand l G cy H.size a_0 i_0 a_1 a_2 a_3 a_4 a_5 a_6 a_7 a_8 a_9 a_10 a_11 a_12 a_13 i_2 i_3 i_4 i_5 i_6 i_7 i_8 i_9 a_14 a_15 a_16 a_17 a_18 a_19 a_20 a_21 a_22 a_23 h1) (cwV 1 hts (mm_gV mm_w626 mm_w627 mm_w628 mm_w2 mm_w629) rfl rfl rfl hd_X11_isLand ⟨by rw [hRf]; exact Nat.le_of_ble_eq_true rfl, by rw [hRl]; exact Nat.le_of_ble_eq_true rfl⟩) (mm_preV hK hZ hS hA hP hD [0, 1, 2] rfl rfl 0 rfl rfl rfl) rfl rfl hl.1 rfl (lv_room (Nat.le_of_ble_eq_true rfl)) dX11_cycle_2 ⟨by rw [hRc]; exact Nat.le_of_ble_eq_true rfl, by rw [hRs]; exact Nat.le_of_ble_eq_true rfl⟩) hP hD hS hA [0, 1, 2] rfl (fun _ => rfl) ?_
  clear hP hD hS
  clear H locs
  intro v1 _u H locs hw hP hD hS
  rcases hw with ⟨rfl, w2⟩ | ⟨rfl, w3⟩
  · refine lv_if_eq (tgt := 16) hx hb dX11_cycle_5 (by decide) (fun c4 => ?_) (fun c4 => ?_)
    · refine lv_bipush (v := (-2)) hx hb dX11_cycle_16 (by decide) ?_
      subst hAe
      rw [hQ]
      exact W.iret (v := (-2)) hx hb hr (fun t ht hW => ⟨⟨(-2), (), rfl, (mm_wk mm_km2 (by decide)), by rw [ht]; exact hP, hK.warm hW, hD⟩, hS.F ht⟩) hS.2.2 dX11_cycle_18
    · have q5 := mm_neL (lo := 1) (mm_ne c4) mm_k0 mm_k0 (by decide) (by decide)
      exact mm_no q5 (by decide)
  · refine lv_if_eq (tgt := 16) hx hb dX11_cycle_5 (by decide) (fun c6 => ?_) (fun c6 => ?_)
    · exact mm_eqN c6.symm mm_k0 mm_k1 (by decide)
    · refine lv_aload_n hx hb dX11_cycle_8 rfl (lv_at hl 0 rfl) ?_
      refine lv_iload_n hx hb dX11_cycle_9 rfl (lv_at hl 2 rfl) ?_
      refine mm_finir (va_runV (As := [.int i_1]) (rest := []) ⟨hx, hb, hml, hown, hts⟩ (K351_X11_isWord l G cy H.size a_0 i_1 a_1 a_2 a_3 a_4 a_5 a_6 a_7 a_8 a_9 a_10 a_11 a_12 a_13 i_2 i_3 i_4 i_5 i_6 i_7 i_8 i_9 a_14 a_15 a_16 a_17 a_18 a_19 a_20 a_21 a_22 a_23 h0) (cwV 1 hts (mm_gV mm_w631 mm_w632 mm_w633 mm_w2 mm_w634) rfl rfl rfl hd_X11_isWord ⟨by rw [hRf]; exact Nat.le_of_ble_eq_true rfl, by rw [hRl]; exact Nat.le_of_ble_eq_true rfl⟩) (mm_preV hK hZ hS hA hP hD [0, 1, 2] rfl rfl 0 rfl rfl rfl) rfl rfl hl.1 rfl (lv_room (Nat.le_of_ble_eq_true rfl)) dX11_cycle_10 ⟨by rw [hRc]; exact Nat.le_of_ble_eq_true rfl, by rw [hRs]; exact Nat.le_of_ble_eq_true rfl⟩) hP hD hS hA [0, 1, 2] rfl (fun _ => rfl) ?_
      clear hP hD hS
      clear H locs
      intro v7 _u H locs hw hP hD hS
      rcases hw with ⟨rfl, w8⟩ | ⟨rfl, w9⟩
      · refine lv_if_ne (tgt := 19) hx hb dX11_cycle_13 (by decide) (fun c10 => ?_) (fun c10 => ?_)
        · have q11 := mm_neL (lo := 1) (mm_ne c10) mm_k0 mm_k0 (by decide) (by decide)
          exact mm_no q11 (by decide)
        · refine lv_bipush (v := (-2)) hx hb dX11_cycle_16 (by decide) ?_
          subst hAe
          rw [hQ]
          exact W.iret (v := (-2)) hx hb hr (fun t ht hW => ⟨⟨(-2), (), rfl, (mm_wk mm_km2 (by decide)), by rw [ht]; exact hP, hK.warm hW, hD⟩, hS.F ht⟩) hS.2.2 dX11_cycle_18
      · refine lv_if_ne (tgt := 19) hx hb dX11_cycle_13 (by decide) (fun c12 => ?_) (fun c12 => ?_)
        · refine lv_aload_n hx hb dX11_cycle_19 rfl (lv_at hl 0 rfl) ?_
          refine va_get (D := G) (ci := 11) (v := .ref a_3) (C := RX11) (T := TX11) (N := 11) hx hb hts (mm_i inlX11) hown hK.1 hP 0 rfl rfl 2 (by decide) (mm_h hts mm_w24) (fun _ h9 => h9) rfl dX11_cycle_20 ?_
          refine va_get (D := G) (ci := 10) (v := .ref a_13) (C := RX10) (T := TX10) (N := 2) hx hb hts (mm_i inlX10) hown hK.1 hP 1 rfl rfl 1 (by decide) (mm_h hts mm_w1105) (fun _ h9 => h9) rfl dX11_cycle_23 ?_
          refine lv_iload_n hx hb dX11_cycle_26 rfl (lv_at hl 1 rfl) ?_
          refine va_aldq hx hb hK.1 hP 3 5 rfl rfl (mm_in w3 (by decide)) dX11_cycle_27 ?_
          have c13 := mm_cases3 w3
          rcases c13 with rfl | rfl | rfl
          · refine W.eq (g2 := F0 m 28 ls [.ref a_24]) rfl ?_
            refine lv_iload_n hx hb dX11_cycle_28 rfl (lv_at hl 2 rfl) ?_
            refine mm_finir (va_runV (As := [.int i_1]) (rest := []) ⟨hx, hb, hml, hown, hts⟩ (K333_X1_cycleOf l G cy H.size a_24 i_1 a_27 a_28 i_10 i_11 i_12 f_0 w9 h2) (cwV 1 hts (mm_gV mm_w1118 mm_w408 mm_w409 mm_w91 mm_w410) rfl rfl rfl hd_X1_cycleOf ⟨by rw [hRf]; exact Nat.le_of_ble_eq_true rfl, by rw [hRl]; exact Nat.le_of_ble_eq_true rfl⟩) (mm_preV hK hZ hS hA hP hD [4, 5] rfl rfl 4 rfl rfl rfl) rfl rfl hl.1 rfl (lv_room (Nat.le_of_ble_eq_true rfl)) dX11_cycle_29 ⟨by rw [hRc]; exact Nat.le_of_ble_eq_true rfl, by rw [hRs]; exact Nat.le_of_ble_eq_true rfl⟩) hP hD hS hA [4, 5] rfl (fun _ => rfl) ?_
            clear hP hD hS
            clear H locs
            intro v14 _u H locs hw hP hD hS
            have w15 := hw
            subst hAe
            rw [hQ]
            exact W.iret (v := v14) hx hb hr (fun t ht hW => ⟨⟨v14, (), rfl, (mm_wk w15 (by decide)), by rw [ht]; exact hP, hK.warm hW, hD⟩, hS.F ht⟩) hS.2.2 dX11_cycle_32
          · refine W.eq (g2 := F0 m 28 ls [.ref a_25]) rfl ?_
            refine lv_iload_n hx hb dX11_cycle_28 rfl (lv_at hl 2 rfl) ?_
            refine mm_finir (va_runV (As := [.int i_1]) (rest := []) ⟨hx, hb, hml, hown, hts⟩ (K333_X1_cycleOf l G cy H.size a_25 i_1 a_29 a_30 i_13 i_14 i_15 f_1 w9 h3) (cwV 1 hts (mm_gV mm_w1118 mm_w408 mm_w409 mm_w91 mm_w410) rfl rfl rfl hd_X1_cycleOf ⟨by rw [hRf]; exact Nat.le_of_ble_eq_true rfl, by rw [hRl]; exact Nat.le_of_ble_eq_true rfl⟩) (mm_preV hK hZ hS hA hP hD [6, 7] rfl rfl 6 rfl rfl rfl) rfl rfl hl.1 rfl (lv_room (Nat.le_of_ble_eq_true rfl)) dX11_cycle_29 ⟨by rw [hRc]; exact Nat.le_of_ble_eq_true rfl, by rw [hRs]; exact Nat.le_of_ble_eq_true rfl⟩) hP hD hS hA [6, 7] rfl (fun _ => rfl) ?_
            clear hP hD hS
            clear H locs
            intro v16 _u H locs hw hP hD hS
            have w17 := hw
            subst hAe
            rw [hQ]
            exact W.iret (v := v16) hx hb hr (fun t ht hW => ⟨⟨v16, (), rfl, (mm_wk w17 (by decide)), by rw [ht]; exact hP, hK.warm hW, hD⟩, hS.F ht⟩) hS.2.2 dX11_cycle_32
          · refine W.eq (g2 := F0 m 28 ls [.ref a_26]) rfl ?_
            refine lv_iload_n hx hb dX11_cycle_28 rfl (lv_at hl 2 rfl) ?_
            refine mm_finir (va_runV (As := [.int i_1]) (rest := []) ⟨hx, hb, hml, hown, hts⟩ (K333_X1_cycleOf l G cy H.size a_26 i_1 a_31 a_32 i_16 i_17 i_18 f_2 w9 h4) (cwV 1 hts (mm_gV mm_w1118 mm_w408 mm_w409 mm_w91 mm_w410) rfl rfl rfl hd_X1_cycleOf ⟨by rw [hRf]; exact Nat.le_of_ble_eq_true rfl, by rw [hRl]; exact Nat.le_of_ble_eq_true rfl⟩) (mm_preV hK hZ hS hA hP hD [8, 9] rfl rfl 8 rfl rfl rfl) rfl rfl hl.1 rfl (lv_room (Nat.le_of_ble_eq_true rfl)) dX11_cycle_29 ⟨by rw [hRc]; exact Nat.le_of_ble_eq_true rfl, by rw [hRs]; exact Nat.le_of_ble_eq_true rfl⟩) hP hD hS hA [8, 9] rfl (fun _ => rfl) ?_
            clear hP hD hS
            clear H locs
            intro v18 _u H locs hw hP hD hS
            have w19 := hw
            subst hAe
            rw [hQ]
            exact W.iret (v := v18) hx hb hr (fun t ht hW => ⟨⟨v18, (), rfl, (mm_wk w19 (by decide)), by rw [ht]; exact hP, hK.warm hW, hD⟩, hS.F ht⟩) hS.2.2 dX11_cycle_32
        · exact mm_eqN c12.symm mm_k0 mm_k1 (by decide)

set_option maxHeartbeats 4000000 in
set_option maxRecDepth 100000 in
theorem K425_X11_fixed (l : Launch) (G : va_G) (cy : Nat → ClassId) (sz : Nat) (a_0 : Nat) (i_0 : Int32) (a_1 : Nat) (a_2 : Nat) (a_3 : Nat) (a_4 : Nat) (a_5 : Nat) (a_6 : Nat) (a_7 : Nat) (a_8 : Nat) (a_9 : Nat) (a_10 : Nat) (a_11 : Nat) (a_12 : Nat) (a_13 : Nat) (i_1 : Int32) (i_2 : Int32) (i_3 : Int32) (i_4 : Int32) (i_5 : Int32) (i_6 : Int32) (i_7 : Int32) (i_8 : Int32) (a_14 : Nat) (a_15 : Nat) (a_16 : Nat) (a_17 : Nat) (a_18 : Nat) (a_19 : Nat) (a_20 : Nat) (a_21 : Nat) (a_22 : Nat) (a_23 : Nat) (a_24 : Nat) (a_25 : Nat) (a_26 : Nat) (a_27 : Nat) (a_28 : Nat) (i_9 : Int32) (i_10 : Int32) (i_11 : Int32) (f_0 : Nat → Int32) (a_29 : Nat) (a_30 : Nat) (i_12 : Int32) (i_13 : Int32) (i_14 : Int32) (f_1 : Nat → Int32) (a_31 : Nat) (a_32 : Nat) (i_15 : Int32) (i_16 : Int32) (i_17 : Int32) (f_2 : Nat → Int32) (h0 : mm_rg i_5 0 9) (h1 : mm_rg i_6 0 3) (h2 : mm_ar f_0 0 9) (h3 : mm_ar f_1 0 9) (h4 : mm_ar f_2 0 9)  : mm_CI l yX11_fixed (mm_ws yX11_fixed cX11_fixed 5 (some .int)) ({ frames := 1, cells := 0, slots := 0, locals := 21 } : Room) G cy sz [(a_0, .inr (11, [.ref a_1, .ref a_2, .ref a_3, .ref a_4, .ref a_5, .ref a_6, .ref a_7, .ref a_8, .ref a_9, .ref a_10, .ref a_11])), (a_3, .inr (10, [.ref a_12, .ref a_13])), (a_12, .inr (0, [.int i_1, .int i_2, .int i_3, .int i_4, .int i_5, .int i_6, .int i_7, .int i_8, .ref a_14, .ref a_15, .ref a_16, .ref a_17, .ref a_18, .ref a_19, .ref a_20, .ref a_21, .ref a_22, .ref a_23])), (a_13, .inl (cy 5, 3, .inr (.inr (.inr (.inr (va_up (va_up (va_up (fun _ => none) 0 (some a_24)) 1 (some a_25)) 2 (some a_26))))))), (a_24, .inr (1, [.ref a_27, .ref a_28, .int i_9, .int i_10, .int i_11])), (a_28, .inl (cy 1, 10, .inl f_0)), (a_25, .inr (1, [.ref a_29, .ref a_30, .int i_12, .int i_13, .int i_14])), (a_30, .inl (cy 1, 10, .inl f_1)), (a_26, .inr (1, [.ref a_31, .ref a_32, .int i_15, .int i_16, .int i_17])), (a_32, .inl (cy 1, 10, .inl f_2))] [.ref a_0, .int i_0] (fun u : Unit => [(a_0, .inr (11, [.ref a_1, .ref a_2, .ref a_3, .ref a_4, .ref a_5, .ref a_6, .ref a_7, .ref a_8, .ref a_9, .ref a_10, .ref a_11])), (a_3, .inr (10, [.ref a_12, .ref a_13])), (a_12, .inr (0, [.int i_1, .int i_2, .int i_3, .int i_4, .int i_5, .int i_6, .int i_7, .int i_8, .ref a_14, .ref a_15, .ref a_16, .ref a_17, .ref a_18, .ref a_19, .ref a_20, .ref a_21, .ref a_22, .ref a_23])), (a_13, .inl (cy 5, 3, .inr (.inr (.inr (.inr (va_up (va_up (va_up (fun _ => none) 0 (some a_24)) 1 (some a_25)) 2 (some a_26))))))), (a_24, .inr (1, [.ref a_27, .ref a_28, .int i_9, .int i_10, .int i_11])), (a_28, .inl (cy 1, 10, .inl f_0)), (a_25, .inr (1, [.ref a_29, .ref a_30, .int i_12, .int i_13, .int i_14])), (a_30, .inl (cy 1, 10, .inl f_1)), (a_26, .inr (1, [.ref a_31, .ref a_32, .int i_15, .int i_16, .int i_17])), (a_32, .inl (cy 1, 10, .inl f_2))]) (fun (r : Int32) (u : Unit) => mm_rg r (-2) 2147483647) 0 0 := by
  refine mm_begin (lv := [(0, .ref a_0), (1, .int i_0)]) (by decide) (Nat.le_of_ble_eq_true rfl) rfl ?_
  intro p e s m below meth c A ls R args Q H locs hRe hQ hAe hx hb hr hlocks hml hown hnm hts hsz hA hS hP hK hD hZ hl
  have hRf : R.frames = 1 := by rw [hRe]
  have hRl : R.locals = 21 := by rw [hRe]
  have hRc : R.cells = 0 := by rw [hRe]
  have hRs : R.slots = 0 := by rw [hRe]
  refine lv_aload_n hx hb dX11_fixed_0 rfl (lv_at hl 0 rfl) ?_
  refine lv_iload_n hx hb dX11_fixed_1 rfl (lv_at hl 1 rfl) ?_
  refine mm_finir (va_runV (As := [.int i_0]) (rest := []) ⟨hx, hb, hml, hown, hts⟩ (K350_X11_isLand l G cy H.size a_0 i_0 a_1 a_2 a_3 a_4 a_5 a_6 a_7 a_8 a_9 a_10 a_11 a_12 a_13 i_1 i_2 i_3 i_4 i_5 i_6 i_7 i_8 a_14 a_15 a_16 a_17 a_18 a_19 a_20 a_21 a_22 a_23 h1) (cwV 1 hts (mm_gV mm_w626 mm_w627 mm_w628 mm_w2 mm_w629) rfl rfl rfl hd_X11_isLand ⟨by rw [hRf]; exact Nat.le_of_ble_eq_true rfl, by rw [hRl]; exact Nat.le_of_ble_eq_true rfl⟩) (mm_preV hK hZ hS hA hP hD [0, 1, 2] rfl rfl 0 rfl rfl rfl) rfl rfl hl.1 rfl (lv_room (Nat.le_of_ble_eq_true rfl)) dX11_fixed_2 ⟨by rw [hRc]; exact Nat.le_of_ble_eq_true rfl, by rw [hRs]; exact Nat.le_of_ble_eq_true rfl⟩) hP hD hS hA [0, 1, 2] rfl (fun _ => rfl) ?_
  clear hP hD hS
  clear H locs
  intro v1 _u H locs hw hP hD hS
  rcases hw with ⟨rfl, w2⟩ | ⟨rfl, w3⟩
  · refine lv_if_ne (tgt := 11) hx hb dX11_fixed_5 (by decide) (fun c4 => ?_) (fun c4 => ?_)
    · have q5 := mm_neL (lo := 1) (mm_ne c4) mm_k0 mm_k0 (by decide) (by decide)
      exact mm_no q5 (by decide)
    · refine lv_bipush (v := (-2)) hx hb dX11_fixed_8 (by decide) ?_
      subst hAe
      rw [hQ]
      exact W.iret (v := (-2)) hx hb hr (fun t ht hW => ⟨⟨(-2), (), rfl, (mm_wk mm_km2 (by decide)), by rw [ht]; exact hP, hK.warm hW, hD⟩, hS.F ht⟩) hS.2.2 dX11_fixed_10
  · refine lv_if_ne (tgt := 11) hx hb dX11_fixed_5 (by decide) (fun c6 => ?_) (fun c6 => ?_)
    · refine lv_iconst (v := 0) hx hb dX11_fixed_11 (by decide) ?_
      refine lv_istore_n (lv' := [(2, .int 0), (0, .ref a_0), (1, .int i_0)]) hx hb dX11_fixed_12 rfl hl (by decide) rfl ?_
      clear hl
      clear ls
      intro ls hl
      refine lv_aload_n hx hb dX11_fixed_13 rfl (lv_at hl 1 rfl) ?_
      refine va_get (D := G) (ci := 11) (v := .ref a_3) (C := RX11) (T := TX11) (N := 11) hx hb hts (mm_i inlX11) hown hK.1 hP 0 rfl rfl 2 (by decide) (mm_h hts mm_w24) (fun _ h9 => h9) rfl dX11_fixed_14 ?_
      refine va_get (D := G) (ci := 10) (v := .ref a_12) (C := RX10) (T := TX10) (N := 2) hx hb hts (mm_i inlX10) hown hK.1 hP 1 rfl rfl 0 (by decide) (mm_h hts mm_w199) (fun _ h9 => h9) rfl dX11_fixed_17 ?_
      refine mm_finir (va_runV (As := []) (rest := []) ⟨hx, hb, hml, hown, hts⟩ (K107_X0_wordCount l G cy H.size a_12 i_1 i_2 i_3 i_4 i_5 i_6 i_7 i_8 a_14 a_15 a_16 a_17 a_18 a_19 a_20 a_21 a_22 a_23 h0) (cwV 0 hts (mm_gV mm_w635 mm_w349 mm_w350 mm_w28 mm_w351) rfl rfl rfl hd_X0_wordCount ⟨by rw [hRf]; exact Nat.le_of_ble_eq_true rfl, by rw [hRl]; exact Nat.le_of_ble_eq_true rfl⟩) (mm_preV hK hZ hS hA hP hD [2] rfl rfl 2 rfl rfl rfl) rfl rfl hl.1 rfl (lv_room (Nat.le_of_ble_eq_true rfl)) dX11_fixed_20 ⟨by rw [hRc]; exact Nat.le_of_ble_eq_true rfl, by rw [hRs]; exact Nat.le_of_ble_eq_true rfl⟩) hP hD hS hA [2] rfl (fun _ => rfl) ?_
      clear hP hD hS
      clear H locs
      intro v7 _u H locs hw hP hD hS
      have w8 := hw
      refine lv_istore_n (lv' := [(3, .int v7), (2, .int 0), (0, .ref a_0), (1, .int i_0)]) hx hb dX11_fixed_23 rfl hl (by decide) rfl ?_
      clear hl
      clear ls
      intro ls hl
      refine lv_iconst (v := 0) hx hb dX11_fixed_24 (by decide) ?_
      refine lv_istore (lv' := [(4, .int 0), (3, .int v7), (2, .int 0), (0, .ref a_0), (1, .int i_0)]) hx hb dX11_fixed_25 hl (by decide) rfl ?_
      clear hl
      clear ls
      intro ls hl
      have L27_347 : ∀ (n : Nat) (x27_4_345 : Int32) (x27_2_346 : Int32) (x27_1_347 : Int32), mm_rg x27_4_345 0 10 → mm_rg x27_2_346 0 2147483647 → mm_rg x27_1_347 0 2 → (10 - x27_4_345.toInt).toNat < n → ∀ (H : Heap) (locs : List Loc), va_P G vwCl [(a_0, .inr (11, [.ref a_1, .ref a_2, .ref a_3, .ref a_4, .ref a_5, .ref a_6, .ref a_7, .ref a_8, .ref a_9, .ref a_10, .ref a_11])), (a_3, .inr (10, [.ref a_12, .ref a_13])), (a_12, .inr (0, [.int i_1, .int i_2, .int i_3, .int i_4, .int i_5, .int i_6, .int i_7, .int i_8, .ref a_14, .ref a_15, .ref a_16, .ref a_17, .ref a_18, .ref a_19, .ref a_20, .ref a_21, .ref a_22, .ref a_23])), (a_13, .inl (cy 5, 3, .inr (.inr (.inr (.inr (va_up (va_up (va_up (fun _ => none) 0 (some a_24)) 1 (some a_25)) 2 (some a_26))))))), (a_24, .inr (1, [.ref a_27, .ref a_28, .int i_9, .int i_10, .int i_11])), (a_28, .inl (cy 1, 10, .inl f_0)), (a_25, .inr (1, [.ref a_29, .ref a_30, .int i_12, .int i_13, .int i_14])), (a_30, .inl (cy 1, 10, .inl f_1)), (a_26, .inr (1, [.ref a_31, .ref a_32, .int i_15, .int i_16, .int i_17])), (a_32, .inl (cy 1, 10, .inl f_2))] H → va_D A [(a_0, .inr (11, [.ref a_1, .ref a_2, .ref a_3, .ref a_4, .ref a_5, .ref a_6, .ref a_7, .ref a_8, .ref a_9, .ref a_10, .ref a_11])), (a_3, .inr (10, [.ref a_12, .ref a_13])), (a_12, .inr (0, [.int i_1, .int i_2, .int i_3, .int i_4, .int i_5, .int i_6, .int i_7, .int i_8, .ref a_14, .ref a_15, .ref a_16, .ref a_17, .ref a_18, .ref a_19, .ref a_20, .ref a_21, .ref a_22, .ref a_23])), (a_13, .inl (cy 5, 3, .inr (.inr (.inr (.inr (va_up (va_up (va_up (fun _ => none) 0 (some a_24)) 1 (some a_25)) 2 (some a_26))))))), (a_24, .inr (1, [.ref a_27, .ref a_28, .int i_9, .int i_10, .int i_11])), (a_28, .inl (cy 1, 10, .inl f_0)), (a_25, .inr (1, [.ref a_29, .ref a_30, .int i_12, .int i_13, .int i_14])), (a_30, .inl (cy 1, 10, .inl f_1)), (a_26, .inr (1, [.ref a_31, .ref a_32, .int i_15, .int i_16, .int i_17])), (a_32, .inl (cy 1, 10, .inl f_2))] → va_S A s.heap H locs → ∀ (ls : Array Slot), lv_has ls 5 [(4, .int x27_4_345), (3, .int v7), (2, .int x27_2_346), (0, .ref a_0), (1, .int x27_1_347)] → W p l e R s m args below meth c H locs 0 0 Q (F0 m 27 ls []) := by
        intro n
        induction n with
        | zero => intro x27_4_345 x27_2_346 x27_1_347 rx27_4_345 rx27_2_346 rx27_1_347 hm; exact absurd hm (Nat.not_lt_zero _)
        | succ n ih27 =>
          intro x27_4_345 x27_2_346 x27_1_347 rx27_4_345 rx27_2_346 rx27_1_347 hm27 H locs hP hD hS ls hl
          refine lv_iload hx hb dX11_fixed_27 (lv_at hl 0 rfl) ?_
          refine lv_iload_n hx hb dX11_fixed_29 rfl (lv_at hl 1 rfl) ?_
          refine lv_icmp_ge (tgt := 66) hx hb dX11_fixed_30 (by decide) (fun c349 => ?_) (fun c349 => ?_)
          · have q350 := mm_leR (mm_le c349) w8 rx27_4_345
            refine lv_iload_n hx hb dX11_fixed_66 rfl (lv_at hl 2 rfl) ?_
            subst hAe
            rw [hQ]
            exact W.iret (v := x27_2_346) hx hb hr (fun t ht hW => ⟨⟨x27_2_346, (), rfl, (mm_wk rx27_2_346 (by decide)), by rw [ht]; exact hP, hK.warm hW, hD⟩, hS.F ht⟩) hS.2.2 dX11_fixed_67
          · have q351 := mm_ltL (h := 9) (mm_nle c349) rx27_4_345 w8 (by decide)
            refine lv_aload_n hx hb dX11_fixed_33 rfl (lv_at hl 3 rfl) ?_
            refine va_get (D := G) (ci := 11) (v := .ref a_3) (C := RX11) (T := TX11) (N := 11) hx hb hts (mm_i inlX11) hown hK.1 hP 0 rfl rfl 2 (by decide) (mm_h hts mm_w24) (fun _ h9 => h9) rfl dX11_fixed_34 ?_
            refine va_get (D := G) (ci := 10) (v := .ref a_13) (C := RX10) (T := TX10) (N := 2) hx hb hts (mm_i inlX10) hown hK.1 hP 1 rfl rfl 1 (by decide) (mm_h hts mm_w1105) (fun _ h9 => h9) rfl dX11_fixed_37 ?_
            refine lv_iload_n hx hb dX11_fixed_40 rfl (lv_at hl 4 rfl) ?_
            refine va_aldq hx hb hK.1 hP 3 5 rfl rfl (mm_in rx27_1_347 (by decide)) dX11_fixed_41 ?_
            have c352 := mm_cases3 rx27_1_347
            rcases c352 with rfl | rfl | rfl
            · refine W.eq (g2 := F0 m 42 ls [.ref a_24]) rfl ?_
              refine va_get (D := G) (ci := 1) (v := .ref a_28) (C := RX1) (T := TX1) (N := 5) hx hb hts (mm_i inlX1) hown hK.1 hP 4 rfl rfl 1 (by decide) (mm_h hts mm_w1127) (fun _ h9 => h9) rfl dX11_fixed_42 ?_
              refine lv_iload hx hb dX11_fixed_45 (lv_at hl 0 rfl) ?_
              refine va_iald hx hb hK.1 hP 5 1 rfl rfl (mm_in q351 (by decide)) dX11_fixed_47 ?_
              refine lv_topi (fun v353 ev353 => ?_)
              have rv353 : mm_rg v353 0 9 := mm_eqv ev353 (h2 _)
              refine lv_iload hx hb dX11_fixed_48 (lv_at hl 0 rfl) ?_
              refine lv_icmp_ne (tgt := 60) hx hb dX11_fixed_50 (by decide) (fun c354 => ?_) (fun c354 => ?_)
              · obtain ⟨v355, ev355⟩ : ∃ y : Int32, y = x27_4_345 + 1 := ⟨_, rfl⟩
                refine lv_iinc (v := v355) (lv' := [(4, .int v355), (3, .int v7), (2, .int x27_2_346), (0, .ref a_0), (1, .int 0)]) hx hb dX11_fixed_60 hl (k := 0) rfl (by rw [ev355]; rfl) (by decide) rfl ?_
                clear hl
                clear ls
                intro ls hl
                have rv355 : mm_rg v355 1 10 := mm_add ev355 q351 mm_k1 (by decide) (by decide)
                have tv355 := mm_addEc ev355 q351 mm_k1 (by decide) (k := 1) (by decide)
                refine lv_goto (tgt := 27) hx hb dX11_fixed_63 (by decide) ?_
                exact ih27 v355 x27_2_346 0 (mm_wk rv355 (by decide)) rx27_2_346 (mm_wk mm_k0 (by decide)) (mm_mu hm27 tv355 (by decide) (rv355).2 (by decide)) H locs hP hD hS ls (lv_sub hl [0, 1, 2, 3, 4] rfl)
              · refine lv_iload_n hx hb dX11_fixed_53 rfl (lv_at hl 2 rfl) ?_
                refine lv_iconst (v := 1) hx hb dX11_fixed_54 (by decide) ?_
                refine lv_iload hx hb dX11_fixed_55 (lv_at hl 0 rfl) ?_
                refine lv_ishl hx hb dX11_fixed_57 ?_
                refine lv_topi (fun v356 ev356 => ?_)
                have rv356 : mm_rg v356 1 512 := mm_shl1 ev356 q351 (by decide)
                refine lv_ior hx hb dX11_fixed_58 ?_
                refine lv_topi (fun v357 ev357 => ?_)
                have rv357 : mm_rg v357 0 2147483647 := mm_or ev357 31 rx27_2_346 rv356 (by decide)
                refine lv_istore_n (lv' := [(2, .int v357), (4, .int x27_4_345), (3, .int v7), (0, .ref a_0), (1, .int 0)]) hx hb dX11_fixed_59 rfl hl (by decide) rfl ?_
                clear hl
                clear ls
                intro ls hl
                obtain ⟨v358, ev358⟩ : ∃ y : Int32, y = x27_4_345 + 1 := ⟨_, rfl⟩
                refine lv_iinc (v := v358) (lv' := [(4, .int v358), (2, .int v357), (3, .int v7), (0, .ref a_0), (1, .int 0)]) hx hb dX11_fixed_60 hl (k := 1) rfl (by rw [ev358]; rfl) (by decide) rfl ?_
                clear hl
                clear ls
                intro ls hl
                have rv358 : mm_rg v358 1 10 := mm_add ev358 q351 mm_k1 (by decide) (by decide)
                have tv358 := mm_addEc ev358 q351 mm_k1 (by decide) (k := 1) (by decide)
                refine lv_goto (tgt := 27) hx hb dX11_fixed_63 (by decide) ?_
                exact ih27 v358 v357 0 (mm_wk rv358 (by decide)) rv357 (mm_wk mm_k0 (by decide)) (mm_mu hm27 tv358 (by decide) (rv358).2 (by decide)) H locs hP hD hS ls (lv_sub hl [0, 2, 1, 3, 4] rfl)
            · refine W.eq (g2 := F0 m 42 ls [.ref a_25]) rfl ?_
              refine va_get (D := G) (ci := 1) (v := .ref a_30) (C := RX1) (T := TX1) (N := 5) hx hb hts (mm_i inlX1) hown hK.1 hP 6 rfl rfl 1 (by decide) (mm_h hts mm_w1127) (fun _ h9 => h9) rfl dX11_fixed_42 ?_
              refine lv_iload hx hb dX11_fixed_45 (lv_at hl 0 rfl) ?_
              refine va_iald hx hb hK.1 hP 7 1 rfl rfl (mm_in q351 (by decide)) dX11_fixed_47 ?_
              refine lv_topi (fun v359 ev359 => ?_)
              have rv359 : mm_rg v359 0 9 := mm_eqv ev359 (h3 _)
              refine lv_iload hx hb dX11_fixed_48 (lv_at hl 0 rfl) ?_
              refine lv_icmp_ne (tgt := 60) hx hb dX11_fixed_50 (by decide) (fun c360 => ?_) (fun c360 => ?_)
              · obtain ⟨v361, ev361⟩ : ∃ y : Int32, y = x27_4_345 + 1 := ⟨_, rfl⟩
                refine lv_iinc (v := v361) (lv' := [(4, .int v361), (3, .int v7), (2, .int x27_2_346), (0, .ref a_0), (1, .int 1)]) hx hb dX11_fixed_60 hl (k := 0) rfl (by rw [ev361]; rfl) (by decide) rfl ?_
                clear hl
                clear ls
                intro ls hl
                have rv361 : mm_rg v361 1 10 := mm_add ev361 q351 mm_k1 (by decide) (by decide)
                have tv361 := mm_addEc ev361 q351 mm_k1 (by decide) (k := 1) (by decide)
                refine lv_goto (tgt := 27) hx hb dX11_fixed_63 (by decide) ?_
                exact ih27 v361 x27_2_346 1 (mm_wk rv361 (by decide)) rx27_2_346 (mm_wk mm_k1 (by decide)) (mm_mu hm27 tv361 (by decide) (rv361).2 (by decide)) H locs hP hD hS ls (lv_sub hl [0, 1, 2, 3, 4] rfl)
              · refine lv_iload_n hx hb dX11_fixed_53 rfl (lv_at hl 2 rfl) ?_
                refine lv_iconst (v := 1) hx hb dX11_fixed_54 (by decide) ?_
                refine lv_iload hx hb dX11_fixed_55 (lv_at hl 0 rfl) ?_
                refine lv_ishl hx hb dX11_fixed_57 ?_
                refine lv_topi (fun v362 ev362 => ?_)
                have rv362 : mm_rg v362 1 512 := mm_shl1 ev362 q351 (by decide)
                refine lv_ior hx hb dX11_fixed_58 ?_
                refine lv_topi (fun v363 ev363 => ?_)
                have rv363 : mm_rg v363 0 2147483647 := mm_or ev363 31 rx27_2_346 rv362 (by decide)
                refine lv_istore_n (lv' := [(2, .int v363), (4, .int x27_4_345), (3, .int v7), (0, .ref a_0), (1, .int 1)]) hx hb dX11_fixed_59 rfl hl (by decide) rfl ?_
                clear hl
                clear ls
                intro ls hl
                obtain ⟨v364, ev364⟩ : ∃ y : Int32, y = x27_4_345 + 1 := ⟨_, rfl⟩
                refine lv_iinc (v := v364) (lv' := [(4, .int v364), (2, .int v363), (3, .int v7), (0, .ref a_0), (1, .int 1)]) hx hb dX11_fixed_60 hl (k := 1) rfl (by rw [ev364]; rfl) (by decide) rfl ?_
                clear hl
                clear ls
                intro ls hl
                have rv364 : mm_rg v364 1 10 := mm_add ev364 q351 mm_k1 (by decide) (by decide)
                have tv364 := mm_addEc ev364 q351 mm_k1 (by decide) (k := 1) (by decide)
                refine lv_goto (tgt := 27) hx hb dX11_fixed_63 (by decide) ?_
                exact ih27 v364 v363 1 (mm_wk rv364 (by decide)) rv363 (mm_wk mm_k1 (by decide)) (mm_mu hm27 tv364 (by decide) (rv364).2 (by decide)) H locs hP hD hS ls (lv_sub hl [0, 2, 1, 3, 4] rfl)
            · refine W.eq (g2 := F0 m 42 ls [.ref a_26]) rfl ?_
              refine va_get (D := G) (ci := 1) (v := .ref a_32) (C := RX1) (T := TX1) (N := 5) hx hb hts (mm_i inlX1) hown hK.1 hP 8 rfl rfl 1 (by decide) (mm_h hts mm_w1127) (fun _ h9 => h9) rfl dX11_fixed_42 ?_
              refine lv_iload hx hb dX11_fixed_45 (lv_at hl 0 rfl) ?_
              refine va_iald hx hb hK.1 hP 9 1 rfl rfl (mm_in q351 (by decide)) dX11_fixed_47 ?_
              refine lv_topi (fun v365 ev365 => ?_)
              have rv365 : mm_rg v365 0 9 := mm_eqv ev365 (h4 _)
              refine lv_iload hx hb dX11_fixed_48 (lv_at hl 0 rfl) ?_
              refine lv_icmp_ne (tgt := 60) hx hb dX11_fixed_50 (by decide) (fun c366 => ?_) (fun c366 => ?_)
              · obtain ⟨v367, ev367⟩ : ∃ y : Int32, y = x27_4_345 + 1 := ⟨_, rfl⟩
                refine lv_iinc (v := v367) (lv' := [(4, .int v367), (3, .int v7), (2, .int x27_2_346), (0, .ref a_0), (1, .int 2)]) hx hb dX11_fixed_60 hl (k := 0) rfl (by rw [ev367]; rfl) (by decide) rfl ?_
                clear hl
                clear ls
                intro ls hl
                have rv367 : mm_rg v367 1 10 := mm_add ev367 q351 mm_k1 (by decide) (by decide)
                have tv367 := mm_addEc ev367 q351 mm_k1 (by decide) (k := 1) (by decide)
                refine lv_goto (tgt := 27) hx hb dX11_fixed_63 (by decide) ?_
                exact ih27 v367 x27_2_346 2 (mm_wk rv367 (by decide)) rx27_2_346 (mm_wk mm_k2 (by decide)) (mm_mu hm27 tv367 (by decide) (rv367).2 (by decide)) H locs hP hD hS ls (lv_sub hl [0, 1, 2, 3, 4] rfl)
              · refine lv_iload_n hx hb dX11_fixed_53 rfl (lv_at hl 2 rfl) ?_
                refine lv_iconst (v := 1) hx hb dX11_fixed_54 (by decide) ?_
                refine lv_iload hx hb dX11_fixed_55 (lv_at hl 0 rfl) ?_
                refine lv_ishl hx hb dX11_fixed_57 ?_
                refine lv_topi (fun v368 ev368 => ?_)
                have rv368 : mm_rg v368 1 512 := mm_shl1 ev368 q351 (by decide)
                refine lv_ior hx hb dX11_fixed_58 ?_
                refine lv_topi (fun v369 ev369 => ?_)
                have rv369 : mm_rg v369 0 2147483647 := mm_or ev369 31 rx27_2_346 rv368 (by decide)
                refine lv_istore_n (lv' := [(2, .int v369), (4, .int x27_4_345), (3, .int v7), (0, .ref a_0), (1, .int 2)]) hx hb dX11_fixed_59 rfl hl (by decide) rfl ?_
                clear hl
                clear ls
                intro ls hl
                obtain ⟨v370, ev370⟩ : ∃ y : Int32, y = x27_4_345 + 1 := ⟨_, rfl⟩
                refine lv_iinc (v := v370) (lv' := [(4, .int v370), (2, .int v369), (3, .int v7), (0, .ref a_0), (1, .int 2)]) hx hb dX11_fixed_60 hl (k := 1) rfl (by rw [ev370]; rfl) (by decide) rfl ?_
                clear hl
                clear ls
                intro ls hl
                have rv370 : mm_rg v370 1 10 := mm_add ev370 q351 mm_k1 (by decide) (by decide)
                have tv370 := mm_addEc ev370 q351 mm_k1 (by decide) (k := 1) (by decide)
                refine lv_goto (tgt := 27) hx hb dX11_fixed_63 (by decide) ?_
                exact ih27 v370 v369 2 (mm_wk rv370 (by decide)) rv369 (mm_wk mm_k2 (by decide)) (mm_mu hm27 tv370 (by decide) (rv370).2 (by decide)) H locs hP hD hS ls (lv_sub hl [0, 2, 1, 3, 4] rfl)
      exact L27_347 _ 0 0 i_0 (mm_wk mm_k0 (by decide)) (mm_wk mm_k0 (by decide)) w3 (Nat.lt_succ_self _) H locs hP hD hS ls (lv_sub hl [0, 1, 2, 3, 4] rfl)
    · exact mm_eqN c6.symm mm_k0 mm_k1 (by decide)

set_option maxHeartbeats 4000000 in
set_option maxRecDepth 100000 in
theorem K426_X11_order (l : Launch) (G : va_G) (cy : Nat → ClassId) (sz : Nat) (a_0 : Nat) (i_0 : Int32) (a_1 : Nat) (a_2 : Nat) (a_3 : Nat) (a_4 : Nat) (a_5 : Nat) (a_6 : Nat) (a_7 : Nat) (a_8 : Nat) (a_9 : Nat) (a_10 : Nat) (a_11 : Nat) (a_12 : Nat) (a_13 : Nat) (i_1 : Int32) (i_2 : Int32) (i_3 : Int32) (i_4 : Int32) (i_5 : Int32) (i_6 : Int32) (i_7 : Int32) (i_8 : Int32) (a_14 : Nat) (a_15 : Nat) (a_16 : Nat) (a_17 : Nat) (a_18 : Nat) (a_19 : Nat) (a_20 : Nat) (a_21 : Nat) (a_22 : Nat) (a_23 : Nat) (a_24 : Nat) (a_25 : Nat) (a_26 : Nat) (a_27 : Nat) (a_28 : Nat) (i_9 : Int32) (i_10 : Int32) (i_11 : Int32) (a_29 : Nat) (a_30 : Nat) (i_12 : Int32) (i_13 : Int32) (i_14 : Int32) (a_31 : Nat) (a_32 : Nat) (i_15 : Int32) (i_16 : Int32) (i_17 : Int32) (h0 : mm_rg i_6 0 3)  : mm_CI l yX11_order (mm_ws yX11_order cX11_order 2 (some .int)) ({ frames := 1, cells := 0, slots := 0, locals := 21 } : Room) G cy sz [(a_0, .inr (11, [.ref a_1, .ref a_2, .ref a_3, .ref a_4, .ref a_5, .ref a_6, .ref a_7, .ref a_8, .ref a_9, .ref a_10, .ref a_11])), (a_3, .inr (10, [.ref a_12, .ref a_13])), (a_12, .inr (0, [.int i_1, .int i_2, .int i_3, .int i_4, .int i_5, .int i_6, .int i_7, .int i_8, .ref a_14, .ref a_15, .ref a_16, .ref a_17, .ref a_18, .ref a_19, .ref a_20, .ref a_21, .ref a_22, .ref a_23])), (a_13, .inl (cy 5, 3, .inr (.inr (.inr (.inr (va_up (va_up (va_up (fun _ => none) 0 (some a_24)) 1 (some a_25)) 2 (some a_26))))))), (a_24, .inr (1, [.ref a_27, .ref a_28, .int i_9, .int i_10, .int i_11])), (a_25, .inr (1, [.ref a_29, .ref a_30, .int i_12, .int i_13, .int i_14])), (a_26, .inr (1, [.ref a_31, .ref a_32, .int i_15, .int i_16, .int i_17]))] [.ref a_0, .int i_0] (fun u : Unit => [(a_0, .inr (11, [.ref a_1, .ref a_2, .ref a_3, .ref a_4, .ref a_5, .ref a_6, .ref a_7, .ref a_8, .ref a_9, .ref a_10, .ref a_11])), (a_3, .inr (10, [.ref a_12, .ref a_13])), (a_12, .inr (0, [.int i_1, .int i_2, .int i_3, .int i_4, .int i_5, .int i_6, .int i_7, .int i_8, .ref a_14, .ref a_15, .ref a_16, .ref a_17, .ref a_18, .ref a_19, .ref a_20, .ref a_21, .ref a_22, .ref a_23])), (a_13, .inl (cy 5, 3, .inr (.inr (.inr (.inr (va_up (va_up (va_up (fun _ => none) 0 (some a_24)) 1 (some a_25)) 2 (some a_26))))))), (a_24, .inr (1, [.ref a_27, .ref a_28, .int i_9, .int i_10, .int i_11])), (a_25, .inr (1, [.ref a_29, .ref a_30, .int i_12, .int i_13, .int i_14])), (a_26, .inr (1, [.ref a_31, .ref a_32, .int i_15, .int i_16, .int i_17]))]) (fun (r : Int32) (u : Unit) => True) 0 0 := by
  refine mm_begin (lv := [(0, .ref a_0), (1, .int i_0)]) (by decide) (Nat.le_of_ble_eq_true rfl) rfl ?_
  intro p e s m below meth c A ls R args Q H locs hRe hQ hAe hx hb hr hlocks hml hown hnm hts hsz hA hS hP hK hD hZ hl
  have hRf : R.frames = 1 := by rw [hRe]
  have hRl : R.locals = 21 := by rw [hRe]
  have hRc : R.cells = 0 := by rw [hRe]
  have hRs : R.slots = 0 := by rw [hRe]
  refine lv_aload_n hx hb dX11_order_0 rfl (lv_at hl 0 rfl) ?_
  refine lv_iload_n hx hb dX11_order_1 rfl (lv_at hl 1 rfl) ?_
  refine mm_finir (va_runV (As := [.int i_0]) (rest := []) ⟨hx, hb, hml, hown, hts⟩ (K350_X11_isLand l G cy H.size a_0 i_0 a_1 a_2 a_3 a_4 a_5 a_6 a_7 a_8 a_9 a_10 a_11 a_12 a_13 i_1 i_2 i_3 i_4 i_5 i_6 i_7 i_8 a_14 a_15 a_16 a_17 a_18 a_19 a_20 a_21 a_22 a_23 h0) (cwV 1 hts (mm_gV mm_w626 mm_w627 mm_w628 mm_w2 mm_w629) rfl rfl rfl hd_X11_isLand ⟨by rw [hRf]; exact Nat.le_of_ble_eq_true rfl, by rw [hRl]; exact Nat.le_of_ble_eq_true rfl⟩) (mm_preV hK hZ hS hA hP hD [0, 1, 2] rfl rfl 0 rfl rfl rfl) rfl rfl hl.1 rfl (lv_room (Nat.le_of_ble_eq_true rfl)) dX11_order_2 ⟨by rw [hRc]; exact Nat.le_of_ble_eq_true rfl, by rw [hRs]; exact Nat.le_of_ble_eq_true rfl⟩) hP hD hS hA [0, 1, 2] rfl (fun _ => rfl) ?_
  clear hP hD hS
  clear H locs
  intro v1 _u H locs hw hP hD hS
  rcases hw with ⟨rfl, w2⟩ | ⟨rfl, w3⟩
  · refine lv_if_eq (tgt := 23) hx hb dX11_order_5 (by decide) (fun c4 => ?_) (fun c4 => ?_)
    · refine lv_bipush (v := (-2)) hx hb dX11_order_23 (by decide) ?_
      subst hAe
      rw [hQ]
      exact W.iret (v := (-2)) hx hb hr (fun t ht hW => ⟨⟨(-2), (), rfl, trivial, by rw [ht]; exact hP, hK.warm hW, hD⟩, hS.F ht⟩) hS.2.2 dX11_order_25
    · have q5 := mm_neL (lo := 1) (mm_ne c4) mm_k0 mm_k0 (by decide) (by decide)
      exact mm_no q5 (by decide)
  · refine lv_if_eq (tgt := 23) hx hb dX11_order_5 (by decide) (fun c6 => ?_) (fun c6 => ?_)
    · exact mm_eqN c6.symm mm_k0 mm_k1 (by decide)
    · refine lv_aload_n hx hb dX11_order_8 rfl (lv_at hl 0 rfl) ?_
      refine va_get (D := G) (ci := 11) (v := .ref a_3) (C := RX11) (T := TX11) (N := 11) hx hb hts (mm_i inlX11) hown hK.1 hP 0 rfl rfl 2 (by decide) (mm_h hts mm_w24) (fun _ h9 => h9) rfl dX11_order_9 ?_
      refine va_get (D := G) (ci := 10) (v := .ref a_13) (C := RX10) (T := TX10) (N := 2) hx hb hts (mm_i inlX10) hown hK.1 hP 1 rfl rfl 1 (by decide) (mm_h hts mm_w1105) (fun _ h9 => h9) rfl dX11_order_12 ?_
      refine lv_iload_n hx hb dX11_order_15 rfl (lv_at hl 1 rfl) ?_
      refine va_aldq hx hb hK.1 hP 3 5 rfl rfl (mm_in w3 (by decide)) dX11_order_16 ?_
      have c7 := mm_cases3 w3
      rcases c7 with rfl | rfl | rfl
      · refine W.eq (g2 := F0 m 17 ls [.ref a_24]) rfl ?_
        refine va_get (D := G) (ci := 1) (v := .int i_10) (C := RX1) (T := TX1) (N := 5) hx hb hts (mm_i inlX1) hown hK.1 hP 4 rfl rfl 3 (by decide) (mm_h hts mm_w1136) (fun _ h9 => h9) rfl dX11_order_17 ?_
        refine lv_goto (tgt := 25) hx hb dX11_order_20 (by decide) ?_
        subst hAe
        rw [hQ]
        exact W.iret (v := i_10) hx hb hr (fun t ht hW => ⟨⟨i_10, (), rfl, trivial, by rw [ht]; exact hP, hK.warm hW, hD⟩, hS.F ht⟩) hS.2.2 dX11_order_25
      · refine W.eq (g2 := F0 m 17 ls [.ref a_25]) rfl ?_
        refine va_get (D := G) (ci := 1) (v := .int i_13) (C := RX1) (T := TX1) (N := 5) hx hb hts (mm_i inlX1) hown hK.1 hP 5 rfl rfl 3 (by decide) (mm_h hts mm_w1136) (fun _ h9 => h9) rfl dX11_order_17 ?_
        refine lv_goto (tgt := 25) hx hb dX11_order_20 (by decide) ?_
        subst hAe
        rw [hQ]
        exact W.iret (v := i_13) hx hb hr (fun t ht hW => ⟨⟨i_13, (), rfl, trivial, by rw [ht]; exact hP, hK.warm hW, hD⟩, hS.F ht⟩) hS.2.2 dX11_order_25
      · refine W.eq (g2 := F0 m 17 ls [.ref a_26]) rfl ?_
        refine va_get (D := G) (ci := 1) (v := .int i_16) (C := RX1) (T := TX1) (N := 5) hx hb hts (mm_i inlX1) hown hK.1 hP 6 rfl rfl 3 (by decide) (mm_h hts mm_w1136) (fun _ h9 => h9) rfl dX11_order_17 ?_
        refine lv_goto (tgt := 25) hx hb dX11_order_20 (by decide) ?_
        subst hAe
        rw [hQ]
        exact W.iret (v := i_16) hx hb hr (fun t ht hW => ⟨⟨i_16, (), rfl, trivial, by rw [ht]; exact hP, hK.warm hW, hD⟩, hS.F ht⟩) hS.2.2 dX11_order_25

set_option maxHeartbeats 4000000 in
set_option maxRecDepth 100000 in
theorem K427_X11_even (l : Launch) (G : va_G) (cy : Nat → ClassId) (sz : Nat) (a_0 : Nat) (i_0 : Int32) (i_1 : Int32) (a_1 : Nat) (a_2 : Nat) (a_3 : Nat) (a_4 : Nat) (a_5 : Nat) (a_6 : Nat) (a_7 : Nat) (a_8 : Nat) (a_9 : Nat) (a_10 : Nat) (a_11 : Nat) (a_12 : Nat) (a_13 : Nat) (i_2 : Int32) (i_3 : Int32) (i_4 : Int32) (i_5 : Int32) (i_6 : Int32) (i_7 : Int32) (i_8 : Int32) (i_9 : Int32) (a_14 : Nat) (a_15 : Nat) (a_16 : Nat) (a_17 : Nat) (a_18 : Nat) (a_19 : Nat) (a_20 : Nat) (a_21 : Nat) (a_22 : Nat) (a_23 : Nat) (f_0 : Nat → Int32) (a_24 : Nat) (a_25 : Nat) (a_26 : Nat) (a_27 : Nat) (a_28 : Nat) (i_10 : Int32) (i_11 : Int32) (i_12 : Int32) (f_1 : Nat → Int32) (a_29 : Nat) (a_30 : Nat) (i_13 : Int32) (i_14 : Int32) (i_15 : Int32) (f_2 : Nat → Int32) (a_31 : Nat) (a_32 : Nat) (i_16 : Int32) (i_17 : Int32) (i_18 : Int32) (f_3 : Nat → Int32) (h0 : mm_rg i_6 0 9) (h1 : mm_rg i_7 0 3) (h2 : mm_ar f_0 0 9) (h3 : mm_rg i_12 (-2147483648) 210) (h4 : mm_ar f_1 0 9) (h5 : mm_rg i_15 (-2147483648) 210) (h6 : mm_ar f_2 0 9) (h7 : mm_rg i_18 (-2147483648) 210) (h8 : mm_ar f_3 0 9)  : mm_CI l yX11_even (mm_ws yX11_even cX11_even 8 (some .int)) ({ frames := 2, cells := 0, slots := 0, locals := 45 } : Room) G cy sz [(a_0, .inr (11, [.ref a_1, .ref a_2, .ref a_3, .ref a_4, .ref a_5, .ref a_6, .ref a_7, .ref a_8, .ref a_9, .ref a_10, .ref a_11])), (a_3, .inr (10, [.ref a_12, .ref a_13])), (a_12, .inr (0, [.int i_2, .int i_3, .int i_4, .int i_5, .int i_6, .int i_7, .int i_8, .int i_9, .ref a_14, .ref a_15, .ref a_16, .ref a_17, .ref a_18, .ref a_19, .ref a_20, .ref a_21, .ref a_22, .ref a_23])), (a_20, .inl (cy 1, 30, .inl f_0)), (a_13, .inl (cy 5, 3, .inr (.inr (.inr (.inr (va_up (va_up (va_up (fun _ => none) 0 (some a_24)) 1 (some a_25)) 2 (some a_26))))))), (a_24, .inr (1, [.ref a_27, .ref a_28, .int i_10, .int i_11, .int i_12])), (a_27, .inl (cy 1, 2100, .inl f_1)), (a_25, .inr (1, [.ref a_29, .ref a_30, .int i_13, .int i_14, .int i_15])), (a_29, .inl (cy 1, 2100, .inl f_2)), (a_26, .inr (1, [.ref a_31, .ref a_32, .int i_16, .int i_17, .int i_18])), (a_31, .inl (cy 1, 2100, .inl f_3))] [.ref a_0, .int i_0, .int i_1] (fun u : Unit => [(a_0, .inr (11, [.ref a_1, .ref a_2, .ref a_3, .ref a_4, .ref a_5, .ref a_6, .ref a_7, .ref a_8, .ref a_9, .ref a_10, .ref a_11])), (a_3, .inr (10, [.ref a_12, .ref a_13])), (a_12, .inr (0, [.int i_2, .int i_3, .int i_4, .int i_5, .int i_6, .int i_7, .int i_8, .int i_9, .ref a_14, .ref a_15, .ref a_16, .ref a_17, .ref a_18, .ref a_19, .ref a_20, .ref a_21, .ref a_22, .ref a_23])), (a_20, .inl (cy 1, 30, .inl f_0)), (a_13, .inl (cy 5, 3, .inr (.inr (.inr (.inr (va_up (va_up (va_up (fun _ => none) 0 (some a_24)) 1 (some a_25)) 2 (some a_26))))))), (a_24, .inr (1, [.ref a_27, .ref a_28, .int i_10, .int i_11, .int i_12])), (a_27, .inl (cy 1, 2100, .inl f_1)), (a_25, .inr (1, [.ref a_29, .ref a_30, .int i_13, .int i_14, .int i_15])), (a_29, .inl (cy 1, 2100, .inl f_2)), (a_26, .inr (1, [.ref a_31, .ref a_32, .int i_16, .int i_17, .int i_18])), (a_31, .inl (cy 1, 2100, .inl f_3))]) (fun (r : Int32) (u : Unit) => True) 0 0 := by
  refine mm_begin (lv := [(0, .ref a_0), (1, .int i_0), (2, .int i_1)]) (by decide) (Nat.le_of_ble_eq_true rfl) rfl ?_
  intro p e s m below meth c A ls R args Q H locs hRe hQ hAe hx hb hr hlocks hml hown hnm hts hsz hA hS hP hK hD hZ hl
  have hRf : R.frames = 2 := by rw [hRe]
  have hRl : R.locals = 45 := by rw [hRe]
  have hRc : R.cells = 0 := by rw [hRe]
  have hRs : R.slots = 0 := by rw [hRe]
  refine lv_aload_n hx hb dX11_even_0 rfl (lv_at hl 0 rfl) ?_
  refine lv_iload_n hx hb dX11_even_1 rfl (lv_at hl 1 rfl) ?_
  refine mm_finir (va_runV (As := [.int i_0]) (rest := []) ⟨hx, hb, hml, hown, hts⟩ (K350_X11_isLand l G cy H.size a_0 i_0 a_1 a_2 a_3 a_4 a_5 a_6 a_7 a_8 a_9 a_10 a_11 a_12 a_13 i_2 i_3 i_4 i_5 i_6 i_7 i_8 i_9 a_14 a_15 a_16 a_17 a_18 a_19 a_20 a_21 a_22 a_23 h1) (cwV 1 hts (mm_gV mm_w626 mm_w627 mm_w628 mm_w2 mm_w629) rfl rfl rfl hd_X11_isLand ⟨by rw [hRf]; exact Nat.le_of_ble_eq_true rfl, by rw [hRl]; exact Nat.le_of_ble_eq_true rfl⟩) (mm_preV hK hZ hS hA hP hD [0, 1, 2] rfl rfl 0 rfl rfl rfl) rfl rfl hl.1 rfl (lv_room (Nat.le_of_ble_eq_true rfl)) dX11_even_2 ⟨by rw [hRc]; exact Nat.le_of_ble_eq_true rfl, by rw [hRs]; exact Nat.le_of_ble_eq_true rfl⟩) hP hD hS hA [0, 1, 2] rfl (fun _ => rfl) ?_
  clear hP hD hS
  clear H locs
  intro v1 _u H locs hw hP hD hS
  rcases hw with ⟨rfl, w2⟩ | ⟨rfl, w3⟩
  · refine lv_if_eq (tgt := 15) hx hb dX11_even_5 (by decide) (fun c4 => ?_) (fun c4 => ?_)
    · refine lv_bipush (v := (-2)) hx hb dX11_even_15 (by decide) ?_
      subst hAe
      rw [hQ]
      exact W.iret (v := (-2)) hx hb hr (fun t ht hW => ⟨⟨(-2), (), rfl, trivial, by rw [ht]; exact hP, hK.warm hW, hD⟩, hS.F ht⟩) hS.2.2 dX11_even_17
    · have q5 := mm_neL (lo := 1) (mm_ne c4) mm_k0 mm_k0 (by decide) (by decide)
      exact mm_no q5 (by decide)
  · refine lv_if_eq (tgt := 15) hx hb dX11_even_5 (by decide) (fun c6 => ?_) (fun c6 => ?_)
    · exact mm_eqN c6.symm mm_k0 mm_k1 (by decide)
    · refine lv_iload_n hx hb dX11_even_8 rfl (lv_at hl 2 rfl) ?_
      refine mm_finir (va_runS (As := [.int i_1]) (rest := []) ⟨hx, hb, hml, hown, hts⟩ (K353_X11_isDay l G cy H.size i_1 ) (va_cwS 1 hts (mm_gS mm_w661 mm_w662 mm_w2 mm_w663) rfl rfl rfl hs_X11_isDay ⟨by rw [hRf]; exact Nat.le_of_ble_eq_true rfl, by rw [hRl]; exact Nat.le_of_ble_eq_true rfl⟩) (mm_preS hK hZ hS hA hP hD [] rfl rfl) rfl rfl hl.1 rfl (lv_room (Nat.le_of_ble_eq_true rfl)) dX11_even_9 ⟨by rw [hRc]; exact Nat.le_of_ble_eq_true rfl, by rw [hRs]; exact Nat.le_of_ble_eq_true rfl⟩) hP hD hS hA [] rfl (fun _ => rfl) ?_
      clear hP hD hS
      clear H locs
      intro v7 _u H locs hw hP hD hS
      rcases hw with ⟨rfl, w8⟩ | ⟨rfl, w9⟩
      · refine lv_if_ne (tgt := 18) hx hb dX11_even_12 (by decide) (fun c10 => ?_) (fun c10 => ?_)
        · have q11 := mm_neL (lo := 1) (mm_ne c10) mm_k0 mm_k0 (by decide) (by decide)
          exact mm_no q11 (by decide)
        · refine lv_bipush (v := (-2)) hx hb dX11_even_15 (by decide) ?_
          subst hAe
          rw [hQ]
          exact W.iret (v := (-2)) hx hb hr (fun t ht hW => ⟨⟨(-2), (), rfl, trivial, by rw [ht]; exact hP, hK.warm hW, hD⟩, hS.F ht⟩) hS.2.2 dX11_even_17
      · refine lv_if_ne (tgt := 18) hx hb dX11_even_12 (by decide) (fun c12 => ?_) (fun c12 => ?_)
        · refine lv_iconst (v := 0) hx hb dX11_even_18 (by decide) ?_
          refine lv_istore_n (lv' := [(3, .int 0), (0, .ref a_0), (1, .int i_0), (2, .int i_1)]) hx hb dX11_even_19 rfl hl (by decide) rfl ?_
          clear hl
          clear ls
          intro ls hl
          refine lv_aload_n hx hb dX11_even_20 rfl (lv_at hl 1 rfl) ?_
          refine va_get (D := G) (ci := 11) (v := .ref a_3) (C := RX11) (T := TX11) (N := 11) hx hb hts (mm_i inlX11) hown hK.1 hP 0 rfl rfl 2 (by decide) (mm_h hts mm_w24) (fun _ h9 => h9) rfl dX11_even_21 ?_
          refine va_get (D := G) (ci := 10) (v := .ref a_12) (C := RX10) (T := TX10) (N := 2) hx hb hts (mm_i inlX10) hown hK.1 hP 1 rfl rfl 0 (by decide) (mm_h hts mm_w199) (fun _ h9 => h9) rfl dX11_even_24 ?_
          refine mm_finir (va_runV (As := []) (rest := []) ⟨hx, hb, hml, hown, hts⟩ (K107_X0_wordCount l G cy H.size a_12 i_2 i_3 i_4 i_5 i_6 i_7 i_8 i_9 a_14 a_15 a_16 a_17 a_18 a_19 a_20 a_21 a_22 a_23 h0) (cwV 0 hts (mm_gV mm_w635 mm_w349 mm_w350 mm_w28 mm_w351) rfl rfl rfl hd_X0_wordCount ⟨by rw [hRf]; exact Nat.le_of_ble_eq_true rfl, by rw [hRl]; exact Nat.le_of_ble_eq_true rfl⟩) (mm_preV hK hZ hS hA hP hD [2] rfl rfl 2 rfl rfl rfl) rfl rfl hl.1 rfl (lv_room (Nat.le_of_ble_eq_true rfl)) dX11_even_27 ⟨by rw [hRc]; exact Nat.le_of_ble_eq_true rfl, by rw [hRs]; exact Nat.le_of_ble_eq_true rfl⟩) hP hD hS hA [2] rfl (fun _ => rfl) ?_
          clear hP hD hS
          clear H locs
          intro v13 _u H locs hw hP hD hS
          have w14 := hw
          refine lv_istore (lv' := [(4, .int v13), (3, .int 0), (0, .ref a_0), (1, .int i_0), (2, .int i_1)]) hx hb dX11_even_30 hl (by decide) rfl ?_
          clear hl
          clear ls
          intro ls hl
          refine lv_iconst (v := 1) hx hb dX11_even_32 (by decide) ?_
          refine lv_istore (lv' := [(5, .int 1), (4, .int v13), (3, .int 0), (0, .ref a_0), (1, .int i_0), (2, .int i_1)]) hx hb dX11_even_33 hl (by decide) rfl ?_
          clear hl
          clear ls
          intro ls hl
          have L35_1573 : ∀ (n : Nat) (x35_5_1572 : Int32) (x35_3_1573 : Int32), mm_rg x35_5_1572 1 10 → (10 - x35_5_1572.toInt).toNat < n → ∀ (H : Heap) (locs : List Loc), va_P G vwCl [(a_0, .inr (11, [.ref a_1, .ref a_2, .ref a_3, .ref a_4, .ref a_5, .ref a_6, .ref a_7, .ref a_8, .ref a_9, .ref a_10, .ref a_11])), (a_3, .inr (10, [.ref a_12, .ref a_13])), (a_12, .inr (0, [.int i_2, .int i_3, .int i_4, .int i_5, .int i_6, .int i_7, .int i_8, .int i_9, .ref a_14, .ref a_15, .ref a_16, .ref a_17, .ref a_18, .ref a_19, .ref a_20, .ref a_21, .ref a_22, .ref a_23])), (a_20, .inl (cy 1, 30, .inl f_0)), (a_13, .inl (cy 5, 3, .inr (.inr (.inr (.inr (va_up (va_up (va_up (fun _ => none) 0 (some a_24)) 1 (some a_25)) 2 (some a_26))))))), (a_24, .inr (1, [.ref a_27, .ref a_28, .int i_10, .int i_11, .int i_12])), (a_27, .inl (cy 1, 2100, .inl f_1)), (a_25, .inr (1, [.ref a_29, .ref a_30, .int i_13, .int i_14, .int i_15])), (a_29, .inl (cy 1, 2100, .inl f_2)), (a_26, .inr (1, [.ref a_31, .ref a_32, .int i_16, .int i_17, .int i_18])), (a_31, .inl (cy 1, 2100, .inl f_3))] H → va_D A [(a_0, .inr (11, [.ref a_1, .ref a_2, .ref a_3, .ref a_4, .ref a_5, .ref a_6, .ref a_7, .ref a_8, .ref a_9, .ref a_10, .ref a_11])), (a_3, .inr (10, [.ref a_12, .ref a_13])), (a_12, .inr (0, [.int i_2, .int i_3, .int i_4, .int i_5, .int i_6, .int i_7, .int i_8, .int i_9, .ref a_14, .ref a_15, .ref a_16, .ref a_17, .ref a_18, .ref a_19, .ref a_20, .ref a_21, .ref a_22, .ref a_23])), (a_20, .inl (cy 1, 30, .inl f_0)), (a_13, .inl (cy 5, 3, .inr (.inr (.inr (.inr (va_up (va_up (va_up (fun _ => none) 0 (some a_24)) 1 (some a_25)) 2 (some a_26))))))), (a_24, .inr (1, [.ref a_27, .ref a_28, .int i_10, .int i_11, .int i_12])), (a_27, .inl (cy 1, 2100, .inl f_1)), (a_25, .inr (1, [.ref a_29, .ref a_30, .int i_13, .int i_14, .int i_15])), (a_29, .inl (cy 1, 2100, .inl f_2)), (a_26, .inr (1, [.ref a_31, .ref a_32, .int i_16, .int i_17, .int i_18])), (a_31, .inl (cy 1, 2100, .inl f_3))] → va_S A s.heap H locs → ∀ (ls : Array Slot), lv_has ls 8 [(5, .int x35_5_1572), (4, .int v13), (3, .int x35_3_1573), (0, .ref a_0), (1, .int i_0), (2, .int i_1)] → W p l e R s m args below meth c H locs 0 0 Q (F0 m 35 ls []) := by
            intro n
            induction n with
            | zero => intro x35_5_1572 x35_3_1573 rx35_5_1572 hm; exact absurd hm (Nat.not_lt_zero _)
            | succ n ih35 =>
              intro x35_5_1572 x35_3_1573 rx35_5_1572 hm35 H locs hP hD hS ls hl
              refine lv_iload hx hb dX11_even_35 (lv_at hl 0 rfl) ?_
              refine lv_iload hx hb dX11_even_37 (lv_at hl 1 rfl) ?_
              refine lv_icmp_ge (tgt := 96) hx hb dX11_even_39 (by decide) (fun c1575 => ?_) (fun c1575 => ?_)
              · refine lv_iconst (v := 1) hx hb dX11_even_96 (by decide) ?_
                refine lv_iload_n hx hb dX11_even_97 rfl (lv_at hl 2 rfl) ?_
                refine lv_iconst (v := 2) hx hb dX11_even_98 (by decide) ?_
                refine lv_irem hx hb dX11_even_99 (mm_nz mm_k2 (by decide)) ?_
                refine lv_topi (fun v1576 ev1576 => ?_)
                refine lv_isub hx hb dX11_even_100 ?_
                refine lv_topi (fun v1577 ev1577 => ?_)
                subst hAe
                rw [hQ]
                exact W.iret (v := v1577) hx hb hr (fun t ht hW => ⟨⟨v1577, (), rfl, trivial, by rw [ht]; exact hP, hK.warm hW, hD⟩, hS.F ht⟩) hS.2.2 dX11_even_101
              · have q1578 := mm_ltL (h := 9) (mm_nle c1575) rx35_5_1572 w14 (by decide)
                have q1579 := mm_ltR (lo := 2) (mm_nle c1575) rx35_5_1572 w14 (by decide)
                refine lv_aload_n hx hb dX11_even_42 rfl (lv_at hl 3 rfl) ?_
                refine va_get (D := G) (ci := 11) (v := .ref a_3) (C := RX11) (T := TX11) (N := 11) hx hb hts (mm_i inlX11) hown hK.1 hP 0 rfl rfl 2 (by decide) (mm_h hts mm_w24) (fun _ h9 => h9) rfl dX11_even_43 ?_
                refine lv_iload_n hx hb dX11_even_46 rfl (lv_at hl 4 rfl) ?_
                refine lv_iload_n hx hb dX11_even_47 rfl (lv_at hl 5 rfl) ?_
                refine lv_iload hx hb dX11_even_48 (lv_at hl 0 rfl) ?_
                refine mm_finir (va_runV (As := [.int i_0, .int i_1, .int x35_5_1572]) (rest := []) ⟨hx, hb, hml, hown, hts⟩ (K355_X10_meaning l G cy H.size a_3 i_0 i_1 x35_5_1572 a_12 a_13 i_2 i_3 i_4 i_5 i_6 i_7 i_8 i_9 a_14 a_15 a_16 a_17 a_18 a_19 a_20 a_21 a_22 a_23 f_0 a_24 a_25 a_26 a_27 a_28 i_10 i_11 i_12 f_1 a_29 a_30 i_13 i_14 i_15 f_2 a_31 a_32 i_16 i_17 i_18 f_3 w3 (mm_wk w9 (by decide)) (mm_wk q1578 (by decide)) h2 h3 h4 h5 h6 h7 h8) (cwV 3 hts (mm_gV mm_w665 mm_w666 mm_w667 mm_w23 mm_w668) rfl rfl rfl hd_X10_meaning ⟨by rw [hRf]; exact Nat.le_of_ble_eq_true rfl, by rw [hRl]; exact Nat.le_of_ble_eq_true rfl⟩) (mm_preV hK hZ hS hA hP hD [1, 2, 3, 4, 5, 6, 7, 8, 9, 10] rfl rfl 1 rfl rfl rfl) rfl rfl hl.1 rfl (lv_room (Nat.le_of_ble_eq_true rfl)) dX11_even_50 ⟨by rw [hRc]; exact Nat.le_of_ble_eq_true rfl, by rw [hRs]; exact Nat.le_of_ble_eq_true rfl⟩) hP hD hS hA [1, 2, 3, 4, 5, 6, 7, 8, 9, 10] rfl (fun _ => rfl) ?_
                clear hP hD hS
                clear H locs
                intro v1580 _u H locs hw hP hD hS
                have w1581 := hw
                refine lv_istore (lv' := [(6, .int v1580), (5, .int x35_5_1572), (4, .int v13), (3, .int x35_3_1573), (0, .ref a_0), (1, .int i_0), (2, .int i_1)]) hx hb dX11_even_53 hl (by decide) rfl ?_
                clear hl
                clear ls
                intro ls hl
                refine lv_iconst (v := 0) hx hb dX11_even_55 (by decide) ?_
                refine lv_istore (lv' := [(7, .int 0), (6, .int v1580), (5, .int x35_5_1572), (4, .int v13), (3, .int x35_3_1573), (0, .ref a_0), (1, .int i_0), (2, .int i_1)]) hx hb dX11_even_56 hl (by decide) rfl ?_
                clear hl
                clear ls
                intro ls hl
                have L58_1709 : ∀ (n : Nat) (x58_7_1708 : Int32) (x58_3_1709 : Int32), mm_rg x58_7_1708 0 9 → (9 - x58_7_1708.toInt).toNat < n → ∀ (H : Heap) (locs : List Loc), va_P G vwCl [(a_0, .inr (11, [.ref a_1, .ref a_2, .ref a_3, .ref a_4, .ref a_5, .ref a_6, .ref a_7, .ref a_8, .ref a_9, .ref a_10, .ref a_11])), (a_3, .inr (10, [.ref a_12, .ref a_13])), (a_12, .inr (0, [.int i_2, .int i_3, .int i_4, .int i_5, .int i_6, .int i_7, .int i_8, .int i_9, .ref a_14, .ref a_15, .ref a_16, .ref a_17, .ref a_18, .ref a_19, .ref a_20, .ref a_21, .ref a_22, .ref a_23])), (a_20, .inl (cy 1, 30, .inl f_0)), (a_13, .inl (cy 5, 3, .inr (.inr (.inr (.inr (va_up (va_up (va_up (fun _ => none) 0 (some a_24)) 1 (some a_25)) 2 (some a_26))))))), (a_24, .inr (1, [.ref a_27, .ref a_28, .int i_10, .int i_11, .int i_12])), (a_27, .inl (cy 1, 2100, .inl f_1)), (a_25, .inr (1, [.ref a_29, .ref a_30, .int i_13, .int i_14, .int i_15])), (a_29, .inl (cy 1, 2100, .inl f_2)), (a_26, .inr (1, [.ref a_31, .ref a_32, .int i_16, .int i_17, .int i_18])), (a_31, .inl (cy 1, 2100, .inl f_3))] H → va_D A [(a_0, .inr (11, [.ref a_1, .ref a_2, .ref a_3, .ref a_4, .ref a_5, .ref a_6, .ref a_7, .ref a_8, .ref a_9, .ref a_10, .ref a_11])), (a_3, .inr (10, [.ref a_12, .ref a_13])), (a_12, .inr (0, [.int i_2, .int i_3, .int i_4, .int i_5, .int i_6, .int i_7, .int i_8, .int i_9, .ref a_14, .ref a_15, .ref a_16, .ref a_17, .ref a_18, .ref a_19, .ref a_20, .ref a_21, .ref a_22, .ref a_23])), (a_20, .inl (cy 1, 30, .inl f_0)), (a_13, .inl (cy 5, 3, .inr (.inr (.inr (.inr (va_up (va_up (va_up (fun _ => none) 0 (some a_24)) 1 (some a_25)) 2 (some a_26))))))), (a_24, .inr (1, [.ref a_27, .ref a_28, .int i_10, .int i_11, .int i_12])), (a_27, .inl (cy 1, 2100, .inl f_1)), (a_25, .inr (1, [.ref a_29, .ref a_30, .int i_13, .int i_14, .int i_15])), (a_29, .inl (cy 1, 2100, .inl f_2)), (a_26, .inr (1, [.ref a_31, .ref a_32, .int i_16, .int i_17, .int i_18])), (a_31, .inl (cy 1, 2100, .inl f_3))] → va_S A s.heap H locs → ∀ (ls : Array Slot), lv_has ls 8 [(7, .int x58_7_1708), (6, .int v1580), (5, .int x35_5_1572), (4, .int v13), (3, .int x58_3_1709), (0, .ref a_0), (1, .int i_0), (2, .int i_1)] → W p l e R s m args below meth c H locs 0 0 Q (F0 m 58 ls []) := by
                  intro n
                  induction n with
                  | zero => intro x58_7_1708 x58_3_1709 rx58_7_1708 hm; exact absurd hm (Nat.not_lt_zero _)
                  | succ n ih58 =>
                    intro x58_7_1708 x58_3_1709 rx58_7_1708 hm58 H locs hP hD hS ls hl
                    refine lv_iload hx hb dX11_even_58 (lv_at hl 0 rfl) ?_
                    refine lv_iload hx hb dX11_even_60 (lv_at hl 2 rfl) ?_
                    refine lv_icmp_ge (tgt := 90) hx hb dX11_even_62 (by decide) (fun c1711 => ?_) (fun c1711 => ?_)
                    · have q1712 := mm_leR (mm_le c1711) q1578 rx58_7_1708
                      obtain ⟨v1713, ev1713⟩ : ∃ y : Int32, y = x35_5_1572 + 1 := ⟨_, rfl⟩
                      refine lv_iinc (v := v1713) (lv' := [(5, .int v1713), (7, .int x58_7_1708), (6, .int v1580), (4, .int v13), (3, .int x58_3_1709), (0, .ref a_0), (1, .int i_0), (2, .int i_1)]) hx hb dX11_even_90 hl (k := 2) rfl (by rw [ev1713]; rfl) (by decide) rfl ?_
                      clear hl
                      clear ls
                      intro ls hl
                      have rv1713 : mm_rg v1713 2 10 := mm_add ev1713 q1578 mm_k1 (by decide) (by decide)
                      have tv1713 := mm_addEc ev1713 q1578 mm_k1 (by decide) (k := 1) (by decide)
                      refine lv_goto (tgt := 35) hx hb dX11_even_93 (by decide) ?_
                      exact ih35 v1713 x58_3_1709 (mm_wk rv1713 (by decide)) (mm_mu hm35 tv1713 (by decide) (rv1713).2 (by decide)) H locs hP hD hS ls (lv_sub hl [0, 3, 4, 5, 6, 7] rfl)
                    · have q1714 := mm_ltL (h := 8) (mm_nle c1711) rx58_7_1708 q1578 (by decide)
                      refine lv_aload_n hx hb dX11_even_65 rfl (lv_at hl 5 rfl) ?_
                      refine va_get (D := G) (ci := 11) (v := .ref a_3) (C := RX11) (T := TX11) (N := 11) hx hb hts (mm_i inlX11) hown hK.1 hP 0 rfl rfl 2 (by decide) (mm_h hts mm_w24) (fun _ h9 => h9) rfl dX11_even_66 ?_
                      refine lv_iload_n hx hb dX11_even_69 rfl (lv_at hl 6 rfl) ?_
                      refine lv_iload_n hx hb dX11_even_70 rfl (lv_at hl 7 rfl) ?_
                      refine lv_iload hx hb dX11_even_71 (lv_at hl 0 rfl) ?_
                      refine mm_finir (va_runV (As := [.int i_0, .int i_1, .int x58_7_1708]) (rest := []) ⟨hx, hb, hml, hown, hts⟩ (K355_X10_meaning l G cy H.size a_3 i_0 i_1 x58_7_1708 a_12 a_13 i_2 i_3 i_4 i_5 i_6 i_7 i_8 i_9 a_14 a_15 a_16 a_17 a_18 a_19 a_20 a_21 a_22 a_23 f_0 a_24 a_25 a_26 a_27 a_28 i_10 i_11 i_12 f_1 a_29 a_30 i_13 i_14 i_15 f_2 a_31 a_32 i_16 i_17 i_18 f_3 w3 (mm_wk w9 (by decide)) (mm_wk q1714 (by decide)) h2 h3 h4 h5 h6 h7 h8) (cwV 3 hts (mm_gV mm_w665 mm_w666 mm_w667 mm_w23 mm_w668) rfl rfl rfl hd_X10_meaning ⟨by rw [hRf]; exact Nat.le_of_ble_eq_true rfl, by rw [hRl]; exact Nat.le_of_ble_eq_true rfl⟩) (mm_preV hK hZ hS hA hP hD [1, 2, 3, 4, 5, 6, 7, 8, 9, 10] rfl rfl 1 rfl rfl rfl) rfl rfl hl.1 rfl (lv_room (Nat.le_of_ble_eq_true rfl)) dX11_even_73 ⟨by rw [hRc]; exact Nat.le_of_ble_eq_true rfl, by rw [hRs]; exact Nat.le_of_ble_eq_true rfl⟩) hP hD hS hA [1, 2, 3, 4, 5, 6, 7, 8, 9, 10] rfl (fun _ => rfl) ?_
                      clear hP hD hS
                      clear H locs
                      intro v1715 _u H locs hw hP hD hS
                      have w1716 := hw
                      refine lv_iload hx hb dX11_even_76 (lv_at hl 1 rfl) ?_
                      refine lv_icmp_le (tgt := 84) hx hb dX11_even_78 (by decide) (fun c1717 => ?_) (fun c1717 => ?_)
                      · obtain ⟨v1718, ev1718⟩ : ∃ y : Int32, y = x58_7_1708 + 1 := ⟨_, rfl⟩
                        refine lv_iinc (v := v1718) (lv' := [(7, .int v1718), (6, .int v1580), (5, .int x35_5_1572), (4, .int v13), (3, .int x58_3_1709), (0, .ref a_0), (1, .int i_0), (2, .int i_1)]) hx hb dX11_even_84 hl (k := 0) rfl (by rw [ev1718]; rfl) (by decide) rfl ?_
                        clear hl
                        clear ls
                        intro ls hl
                        have rv1718 : mm_rg v1718 1 9 := mm_add ev1718 q1714 mm_k1 (by decide) (by decide)
                        have tv1718 := mm_addEc ev1718 q1714 mm_k1 (by decide) (k := 1) (by decide)
                        refine lv_goto (tgt := 58) hx hb dX11_even_87 (by decide) ?_
                        exact ih58 v1718 x58_3_1709 (mm_wk rv1718 (by decide)) (mm_mu hm58 tv1718 (by decide) (rv1718).2 (by decide)) H locs hP hD hS ls (lv_sub hl [0, 1, 2, 3, 4, 5, 6, 7] rfl)
                      · have q1719 := mm_ltL (h := 8) (mm_nle c1717) w1581 w1716 (by decide)
                        have q1720 := mm_ltR (lo := 1) (mm_nle c1717) w1581 w1716 (by decide)
                        obtain ⟨v1721, ev1721⟩ : ∃ y : Int32, y = x58_3_1709 + 1 := ⟨_, rfl⟩
                        refine lv_iinc (v := v1721) (lv' := [(3, .int v1721), (7, .int x58_7_1708), (6, .int v1580), (5, .int x35_5_1572), (4, .int v13), (0, .ref a_0), (1, .int i_0), (2, .int i_1)]) hx hb dX11_even_81 hl (k := 4) rfl (by rw [ev1721]; rfl) (by decide) rfl ?_
                        clear hl
                        clear ls
                        intro ls hl
                        obtain ⟨v1722, ev1722⟩ : ∃ y : Int32, y = x58_7_1708 + 1 := ⟨_, rfl⟩
                        refine lv_iinc (v := v1722) (lv' := [(7, .int v1722), (3, .int v1721), (6, .int v1580), (5, .int x35_5_1572), (4, .int v13), (0, .ref a_0), (1, .int i_0), (2, .int i_1)]) hx hb dX11_even_84 hl (k := 1) rfl (by rw [ev1722]; rfl) (by decide) rfl ?_
                        clear hl
                        clear ls
                        intro ls hl
                        have rv1722 : mm_rg v1722 1 9 := mm_add ev1722 q1714 mm_k1 (by decide) (by decide)
                        have tv1722 := mm_addEc ev1722 q1714 mm_k1 (by decide) (k := 1) (by decide)
                        refine lv_goto (tgt := 58) hx hb dX11_even_87 (by decide) ?_
                        exact ih58 v1722 v1721 (mm_wk rv1722 (by decide)) (mm_mu hm58 tv1722 (by decide) (rv1722).2 (by decide)) H locs hP hD hS ls (lv_sub hl [0, 2, 3, 4, 1, 5, 6, 7] rfl)
                exact L58_1709 _ 0 x35_3_1573 (mm_wk mm_k0 (by decide)) (Nat.lt_succ_self _) H locs hP hD hS ls (lv_sub hl [0, 1, 2, 3, 4, 5, 6, 7] rfl)
          exact L35_1573 _ 1 0 (mm_wk mm_k1 (by decide)) (Nat.lt_succ_self _) H locs hP hD hS ls (lv_sub hl [0, 1, 2, 3, 4, 5] rfl)
        · exact mm_eqN c12.symm mm_k0 mm_k1 (by decide)

set_option maxHeartbeats 4000000 in
set_option maxRecDepth 100000 in
theorem K428_X11_otherwise (l : Launch) (G : va_G) (cy : Nat → ClassId) (sz : Nat) (a_0 : Nat) (i_0 : Int32) (i_1 : Int32) (i_2 : Int32) (a_1 : Nat) (a_2 : Nat) (a_3 : Nat) (a_4 : Nat) (a_5 : Nat) (a_6 : Nat) (a_7 : Nat) (a_8 : Nat) (a_9 : Nat) (a_10 : Nat) (a_11 : Nat) (a_12 : Nat) (a_13 : Nat) (i_3 : Int32) (i_4 : Int32) (i_5 : Int32) (i_6 : Int32) (i_7 : Int32) (i_8 : Int32) (i_9 : Int32) (i_10 : Int32) (a_14 : Nat) (a_15 : Nat) (a_16 : Nat) (a_17 : Nat) (a_18 : Nat) (a_19 : Nat) (a_20 : Nat) (a_21 : Nat) (a_22 : Nat) (a_23 : Nat) (f_0 : Nat → Int32) (a_24 : Nat) (a_25 : Nat) (a_26 : Nat) (a_27 : Nat) (a_28 : Nat) (i_11 : Int32) (i_12 : Int32) (i_13 : Int32) (f_1 : Nat → Int32) (a_29 : Nat) (a_30 : Nat) (i_14 : Int32) (i_15 : Int32) (i_16 : Int32) (f_2 : Nat → Int32) (a_31 : Nat) (a_32 : Nat) (i_17 : Int32) (i_18 : Int32) (i_19 : Int32) (f_3 : Nat → Int32) (h0 : mm_rg i_7 0 9) (h1 : mm_rg i_8 0 3) (h2 : mm_ar f_0 0 9) (h3 : mm_rg i_13 (-2147483648) 210) (h4 : mm_ar f_1 0 9) (h5 : mm_rg i_16 (-2147483648) 210) (h6 : mm_ar f_2 0 9) (h7 : mm_rg i_19 (-2147483648) 210) (h8 : mm_ar f_3 0 9)  : mm_CI l yX11_otherwise (mm_ws yX11_otherwise cX11_otherwise 4 (some .int)) ({ frames := 3, cells := 0, slots := 0, locals := 71 } : Room) G cy sz [(a_0, .inr (11, [.ref a_1, .ref a_2, .ref a_3, .ref a_4, .ref a_5, .ref a_6, .ref a_7, .ref a_8, .ref a_9, .ref a_10, .ref a_11])), (a_3, .inr (10, [.ref a_12, .ref a_13])), (a_12, .inr (0, [.int i_3, .int i_4, .int i_5, .int i_6, .int i_7, .int i_8, .int i_9, .int i_10, .ref a_14, .ref a_15, .ref a_16, .ref a_17, .ref a_18, .ref a_19, .ref a_20, .ref a_21, .ref a_22, .ref a_23])), (a_20, .inl (cy 1, 30, .inl f_0)), (a_13, .inl (cy 5, 3, .inr (.inr (.inr (.inr (va_up (va_up (va_up (fun _ => none) 0 (some a_24)) 1 (some a_25)) 2 (some a_26))))))), (a_24, .inr (1, [.ref a_27, .ref a_28, .int i_11, .int i_12, .int i_13])), (a_27, .inl (cy 1, 2100, .inl f_1)), (a_25, .inr (1, [.ref a_29, .ref a_30, .int i_14, .int i_15, .int i_16])), (a_29, .inl (cy 1, 2100, .inl f_2)), (a_26, .inr (1, [.ref a_31, .ref a_32, .int i_17, .int i_18, .int i_19])), (a_31, .inl (cy 1, 2100, .inl f_3))] [.ref a_0, .int i_0, .int i_1, .int i_2] (fun u : Unit => [(a_0, .inr (11, [.ref a_1, .ref a_2, .ref a_3, .ref a_4, .ref a_5, .ref a_6, .ref a_7, .ref a_8, .ref a_9, .ref a_10, .ref a_11])), (a_3, .inr (10, [.ref a_12, .ref a_13])), (a_12, .inr (0, [.int i_3, .int i_4, .int i_5, .int i_6, .int i_7, .int i_8, .int i_9, .int i_10, .ref a_14, .ref a_15, .ref a_16, .ref a_17, .ref a_18, .ref a_19, .ref a_20, .ref a_21, .ref a_22, .ref a_23])), (a_20, .inl (cy 1, 30, .inl f_0)), (a_13, .inl (cy 5, 3, .inr (.inr (.inr (.inr (va_up (va_up (va_up (fun _ => none) 0 (some a_24)) 1 (some a_25)) 2 (some a_26))))))), (a_24, .inr (1, [.ref a_27, .ref a_28, .int i_11, .int i_12, .int i_13])), (a_27, .inl (cy 1, 2100, .inl f_1)), (a_25, .inr (1, [.ref a_29, .ref a_30, .int i_14, .int i_15, .int i_16])), (a_29, .inl (cy 1, 2100, .inl f_2)), (a_26, .inr (1, [.ref a_31, .ref a_32, .int i_17, .int i_18, .int i_19])), (a_31, .inl (cy 1, 2100, .inl f_3))]) (fun (r : Int32) (u : Unit) => True) 0 0 := by
  refine mm_begin (lv := [(0, .ref a_0), (1, .int i_0), (2, .int i_1), (3, .int i_2)]) (by decide) (Nat.le_of_ble_eq_true rfl) rfl ?_
  intro p e s m below meth c A ls R args Q H locs hRe hQ hAe hx hb hr hlocks hml hown hnm hts hsz hA hS hP hK hD hZ hl
  have hRf : R.frames = 3 := by rw [hRe]
  have hRl : R.locals = 71 := by rw [hRe]
  have hRc : R.cells = 0 := by rw [hRe]
  have hRs : R.slots = 0 := by rw [hRe]
  refine lv_aload_n hx hb dX11_otherwise_0 rfl (lv_at hl 0 rfl) ?_
  refine lv_iload_n hx hb dX11_otherwise_1 rfl (lv_at hl 1 rfl) ?_
  refine mm_finir (va_runV (As := [.int i_0]) (rest := []) ⟨hx, hb, hml, hown, hts⟩ (K350_X11_isLand l G cy H.size a_0 i_0 a_1 a_2 a_3 a_4 a_5 a_6 a_7 a_8 a_9 a_10 a_11 a_12 a_13 i_3 i_4 i_5 i_6 i_7 i_8 i_9 i_10 a_14 a_15 a_16 a_17 a_18 a_19 a_20 a_21 a_22 a_23 h1) (cwV 1 hts (mm_gV mm_w626 mm_w627 mm_w628 mm_w2 mm_w629) rfl rfl rfl hd_X11_isLand ⟨by rw [hRf]; exact Nat.le_of_ble_eq_true rfl, by rw [hRl]; exact Nat.le_of_ble_eq_true rfl⟩) (mm_preV hK hZ hS hA hP hD [0, 1, 2] rfl rfl 0 rfl rfl rfl) rfl rfl hl.1 rfl (lv_room (Nat.le_of_ble_eq_true rfl)) dX11_otherwise_2 ⟨by rw [hRc]; exact Nat.le_of_ble_eq_true rfl, by rw [hRs]; exact Nat.le_of_ble_eq_true rfl⟩) hP hD hS hA [0, 1, 2] rfl (fun _ => rfl) ?_
  clear hP hD hS
  clear H locs
  intro v1 _u H locs hw hP hD hS
  rcases hw with ⟨rfl, w2⟩ | ⟨rfl, w3⟩
  · refine lv_if_eq (tgt := 23) hx hb dX11_otherwise_5 (by decide) (fun c4 => ?_) (fun c4 => ?_)
    · refine lv_bipush (v := (-2)) hx hb dX11_otherwise_23 (by decide) ?_
      subst hAe
      rw [hQ]
      exact W.iret (v := (-2)) hx hb hr (fun t ht hW => ⟨⟨(-2), (), rfl, trivial, by rw [ht]; exact hP, hK.warm hW, hD⟩, hS.F ht⟩) hS.2.2 dX11_otherwise_25
    · have q5 := mm_neL (lo := 1) (mm_ne c4) mm_k0 mm_k0 (by decide) (by decide)
      exact mm_no q5 (by decide)
  · refine lv_if_eq (tgt := 23) hx hb dX11_otherwise_5 (by decide) (fun c6 => ?_) (fun c6 => ?_)
    · exact mm_eqN c6.symm mm_k0 mm_k1 (by decide)
    · refine lv_iload_n hx hb dX11_otherwise_8 rfl (lv_at hl 2 rfl) ?_
      refine mm_finir (va_runS (As := [.int i_1]) (rest := []) ⟨hx, hb, hml, hown, hts⟩ (K353_X11_isDay l G cy H.size i_1 ) (va_cwS 1 hts (mm_gS mm_w661 mm_w662 mm_w2 mm_w663) rfl rfl rfl hs_X11_isDay ⟨by rw [hRf]; exact Nat.le_of_ble_eq_true rfl, by rw [hRl]; exact Nat.le_of_ble_eq_true rfl⟩) (mm_preS hK hZ hS hA hP hD [] rfl rfl) rfl rfl hl.1 rfl (lv_room (Nat.le_of_ble_eq_true rfl)) dX11_otherwise_9 ⟨by rw [hRc]; exact Nat.le_of_ble_eq_true rfl, by rw [hRs]; exact Nat.le_of_ble_eq_true rfl⟩) hP hD hS hA [] rfl (fun _ => rfl) ?_
      clear hP hD hS
      clear H locs
      intro v7 _u H locs hw hP hD hS
      rcases hw with ⟨rfl, w8⟩ | ⟨rfl, w9⟩
      · refine lv_if_eq (tgt := 23) hx hb dX11_otherwise_12 (by decide) (fun c10 => ?_) (fun c10 => ?_)
        · refine lv_bipush (v := (-2)) hx hb dX11_otherwise_23 (by decide) ?_
          subst hAe
          rw [hQ]
          exact W.iret (v := (-2)) hx hb hr (fun t ht hW => ⟨⟨(-2), (), rfl, trivial, by rw [ht]; exact hP, hK.warm hW, hD⟩, hS.F ht⟩) hS.2.2 dX11_otherwise_25
        · have q11 := mm_neL (lo := 1) (mm_ne c10) mm_k0 mm_k0 (by decide) (by decide)
          exact mm_no q11 (by decide)
      · refine lv_if_eq (tgt := 23) hx hb dX11_otherwise_12 (by decide) (fun c12 => ?_) (fun c12 => ?_)
        · exact mm_eqN c12.symm mm_k0 mm_k1 (by decide)
        · refine lv_aload_n hx hb dX11_otherwise_15 rfl (lv_at hl 0 rfl) ?_
          refine lv_iload_n hx hb dX11_otherwise_16 rfl (lv_at hl 3 rfl) ?_
          refine mm_finir (va_runV (As := [.int i_2]) (rest := []) ⟨hx, hb, hml, hown, hts⟩ (K350_X11_isLand l G cy H.size a_0 i_2 a_1 a_2 a_3 a_4 a_5 a_6 a_7 a_8 a_9 a_10 a_11 a_12 a_13 i_3 i_4 i_5 i_6 i_7 i_8 i_9 i_10 a_14 a_15 a_16 a_17 a_18 a_19 a_20 a_21 a_22 a_23 h1) (cwV 1 hts (mm_gV mm_w626 mm_w627 mm_w628 mm_w2 mm_w629) rfl rfl rfl hd_X11_isLand ⟨by rw [hRf]; exact Nat.le_of_ble_eq_true rfl, by rw [hRl]; exact Nat.le_of_ble_eq_true rfl⟩) (mm_preV hK hZ hS hA hP hD [0, 1, 2] rfl rfl 0 rfl rfl rfl) rfl rfl hl.1 rfl (lv_room (Nat.le_of_ble_eq_true rfl)) dX11_otherwise_17 ⟨by rw [hRc]; exact Nat.le_of_ble_eq_true rfl, by rw [hRs]; exact Nat.le_of_ble_eq_true rfl⟩) hP hD hS hA [0, 1, 2] rfl (fun _ => rfl) ?_
          clear hP hD hS
          clear H locs
          intro v13 _u H locs hw hP hD hS
          rcases hw with ⟨rfl, w14⟩ | ⟨rfl, w15⟩
          · refine lv_if_ne (tgt := 26) hx hb dX11_otherwise_20 (by decide) (fun c16 => ?_) (fun c16 => ?_)
            · have q17 := mm_neL (lo := 1) (mm_ne c16) mm_k0 mm_k0 (by decide) (by decide)
              exact mm_no q17 (by decide)
            · refine lv_bipush (v := (-2)) hx hb dX11_otherwise_23 (by decide) ?_
              subst hAe
              rw [hQ]
              exact W.iret (v := (-2)) hx hb hr (fun t ht hW => ⟨⟨(-2), (), rfl, trivial, by rw [ht]; exact hP, hK.warm hW, hD⟩, hS.F ht⟩) hS.2.2 dX11_otherwise_25
          · refine lv_if_ne (tgt := 26) hx hb dX11_otherwise_20 (by decide) (fun c18 => ?_) (fun c18 => ?_)
            · refine lv_aload_n hx hb dX11_otherwise_26 rfl (lv_at hl 0 rfl) ?_
              refine va_get (D := G) (ci := 11) (v := .ref a_3) (C := RX11) (T := TX11) (N := 11) hx hb hts (mm_i inlX11) hown hK.1 hP 0 rfl rfl 2 (by decide) (mm_h hts mm_w24) (fun _ h9 => h9) rfl dX11_otherwise_27 ?_
              refine lv_iload_n hx hb dX11_otherwise_30 rfl (lv_at hl 1 rfl) ?_
              refine lv_iload_n hx hb dX11_otherwise_31 rfl (lv_at hl 2 rfl) ?_
              refine lv_iload_n hx hb dX11_otherwise_32 rfl (lv_at hl 3 rfl) ?_
              refine lv_iload_n hx hb dX11_otherwise_33 rfl (lv_at hl 2 rfl) ?_
              refine mm_finir (va_runV (As := [.int i_0, .int i_1, .int i_2, .int i_1]) (rest := []) ⟨hx, hb, hml, hown, hts⟩ (K369_X10_unlikeWords l G cy H.size a_3 i_0 i_1 i_2 i_1 a_12 a_13 i_3 i_4 i_5 i_6 i_7 i_8 i_9 i_10 a_14 a_15 a_16 a_17 a_18 a_19 a_20 a_21 a_22 a_23 f_0 a_24 a_25 a_26 a_27 a_28 i_11 i_12 i_13 f_1 a_29 a_30 i_14 i_15 i_16 f_2 a_31 a_32 i_17 i_18 i_19 f_3 w3 (mm_wk w9 (by decide)) w15 (mm_wk w9 (by decide)) h0 h2 h3 h4 h5 h6 h7 h8) (cwV 4 hts (mm_gV mm_w813 mm_w814 mm_w815 mm_w23 mm_w816) rfl rfl rfl hd_X10_unlikeWords ⟨by rw [hRf]; exact Nat.le_of_ble_eq_true rfl, by rw [hRl]; exact Nat.le_of_ble_eq_true rfl⟩) (mm_preV hK hZ hS hA hP hD [1, 2, 3, 4, 5, 6, 7, 8, 9, 10] rfl rfl 1 rfl rfl rfl) rfl rfl hl.1 rfl (lv_room (Nat.le_of_ble_eq_true rfl)) dX11_otherwise_34 ⟨by rw [hRc]; exact Nat.le_of_ble_eq_true rfl, by rw [hRs]; exact Nat.le_of_ble_eq_true rfl⟩) hP hD hS hA [1, 2, 3, 4, 5, 6, 7, 8, 9, 10] rfl (fun _ => rfl) ?_
              clear hP hD hS
              clear H locs
              intro v19 _u H locs hw hP hD hS
              subst hAe
              rw [hQ]
              exact W.iret (v := v19) hx hb hr (fun t ht hW => ⟨⟨v19, (), rfl, trivial, by rw [ht]; exact hP, hK.warm hW, hD⟩, hS.F ht⟩) hS.2.2 dX11_otherwise_37
            · exact mm_eqN c18.symm mm_k0 mm_k1 (by decide)

set_option maxHeartbeats 4000000 in
set_option maxRecDepth 100000 in
theorem K429_X10_firstUnlike (l : Launch) (G : va_G) (cy : Nat → ClassId) (sz : Nat) (a_0 : Nat) (i_0 : Int32) (i_1 : Int32) (i_2 : Int32) (i_3 : Int32) (a_1 : Nat) (a_2 : Nat) (i_4 : Int32) (i_5 : Int32) (i_6 : Int32) (i_7 : Int32) (i_8 : Int32) (i_9 : Int32) (i_10 : Int32) (i_11 : Int32) (a_3 : Nat) (a_4 : Nat) (a_5 : Nat) (a_6 : Nat) (a_7 : Nat) (a_8 : Nat) (a_9 : Nat) (a_10 : Nat) (a_11 : Nat) (a_12 : Nat) (f_0 : Nat → Int32) (a_13 : Nat) (a_14 : Nat) (a_15 : Nat) (a_16 : Nat) (a_17 : Nat) (i_12 : Int32) (i_13 : Int32) (i_14 : Int32) (f_1 : Nat → Int32) (a_18 : Nat) (a_19 : Nat) (i_15 : Int32) (i_16 : Int32) (i_17 : Int32) (f_2 : Nat → Int32) (a_20 : Nat) (a_21 : Nat) (i_18 : Int32) (i_19 : Int32) (i_20 : Int32) (f_3 : Nat → Int32) (h0 : mm_rg i_0 0 2) (h1 : mm_rg i_1 0 2147483647) (h2 : mm_rg i_2 0 2) (h3 : mm_rg i_3 0 2147483647) (h4 : mm_rg i_8 0 9) (h5 : mm_ar f_0 0 9) (h6 : mm_rg i_14 (-2147483648) 210) (h7 : mm_ar f_1 0 9) (h8 : mm_rg i_17 (-2147483648) 210) (h9 : mm_ar f_2 0 9) (h10 : mm_rg i_20 (-2147483648) 210) (h11 : mm_ar f_3 0 9)  : mm_CI l yX10_firstUnlike (mm_ws yX10_firstUnlike cX10_firstUnlike 6 (some .int)) ({ frames := 2, cells := 0, slots := 0, locals := 45 } : Room) G cy sz [(a_0, .inr (10, [.ref a_1, .ref a_2])), (a_1, .inr (0, [.int i_4, .int i_5, .int i_6, .int i_7, .int i_8, .int i_9, .int i_10, .int i_11, .ref a_3, .ref a_4, .ref a_5, .ref a_6, .ref a_7, .ref a_8, .ref a_9, .ref a_10, .ref a_11, .ref a_12])), (a_9, .inl (cy 1, 30, .inl f_0)), (a_2, .inl (cy 5, 3, .inr (.inr (.inr (.inr (va_up (va_up (va_up (fun _ => none) 0 (some a_13)) 1 (some a_14)) 2 (some a_15))))))), (a_13, .inr (1, [.ref a_16, .ref a_17, .int i_12, .int i_13, .int i_14])), (a_16, .inl (cy 1, 2100, .inl f_1)), (a_14, .inr (1, [.ref a_18, .ref a_19, .int i_15, .int i_16, .int i_17])), (a_18, .inl (cy 1, 2100, .inl f_2)), (a_15, .inr (1, [.ref a_20, .ref a_21, .int i_18, .int i_19, .int i_20])), (a_20, .inl (cy 1, 2100, .inl f_3))] [.ref a_0, .int i_0, .int i_1, .int i_2, .int i_3] (fun u : Unit => [(a_0, .inr (10, [.ref a_1, .ref a_2])), (a_1, .inr (0, [.int i_4, .int i_5, .int i_6, .int i_7, .int i_8, .int i_9, .int i_10, .int i_11, .ref a_3, .ref a_4, .ref a_5, .ref a_6, .ref a_7, .ref a_8, .ref a_9, .ref a_10, .ref a_11, .ref a_12])), (a_9, .inl (cy 1, 30, .inl f_0)), (a_2, .inl (cy 5, 3, .inr (.inr (.inr (.inr (va_up (va_up (va_up (fun _ => none) 0 (some a_13)) 1 (some a_14)) 2 (some a_15))))))), (a_13, .inr (1, [.ref a_16, .ref a_17, .int i_12, .int i_13, .int i_14])), (a_16, .inl (cy 1, 2100, .inl f_1)), (a_14, .inr (1, [.ref a_18, .ref a_19, .int i_15, .int i_16, .int i_17])), (a_18, .inl (cy 1, 2100, .inl f_2)), (a_15, .inr (1, [.ref a_20, .ref a_21, .int i_18, .int i_19, .int i_20])), (a_20, .inl (cy 1, 2100, .inl f_3))]) (fun (r : Int32) (u : Unit) => mm_rg r (-1) 9) 0 0 := by
  refine mm_begin (lv := [(0, .ref a_0), (1, .int i_0), (2, .int i_1), (3, .int i_2), (4, .int i_3)]) (by decide) (Nat.le_of_ble_eq_true rfl) rfl ?_
  intro p e s m below meth c A ls R args Q H locs hRe hQ hAe hx hb hr hlocks hml hown hnm hts hsz hA hS hP hK hD hZ hl
  have hRf : R.frames = 2 := by rw [hRe]
  have hRl : R.locals = 45 := by rw [hRe]
  have hRc : R.cells = 0 := by rw [hRe]
  have hRs : R.slots = 0 := by rw [hRe]
  refine lv_iconst (v := 0) hx hb dX10_firstUnlike_0 (by decide) ?_
  refine lv_istore (lv' := [(5, .int 0), (0, .ref a_0), (1, .int i_0), (2, .int i_1), (3, .int i_2), (4, .int i_3)]) hx hb dX10_firstUnlike_1 hl (by decide) rfl ?_
  clear hl
  clear ls
  intro ls hl
  have L3_106 : ∀ (n : Nat) (x3_5_106 : Int32), mm_rg x3_5_106 0 10 → (10 - x3_5_106.toInt).toNat < n → ∀ (H : Heap) (locs : List Loc), va_P G vwCl [(a_0, .inr (10, [.ref a_1, .ref a_2])), (a_1, .inr (0, [.int i_4, .int i_5, .int i_6, .int i_7, .int i_8, .int i_9, .int i_10, .int i_11, .ref a_3, .ref a_4, .ref a_5, .ref a_6, .ref a_7, .ref a_8, .ref a_9, .ref a_10, .ref a_11, .ref a_12])), (a_9, .inl (cy 1, 30, .inl f_0)), (a_2, .inl (cy 5, 3, .inr (.inr (.inr (.inr (va_up (va_up (va_up (fun _ => none) 0 (some a_13)) 1 (some a_14)) 2 (some a_15))))))), (a_13, .inr (1, [.ref a_16, .ref a_17, .int i_12, .int i_13, .int i_14])), (a_16, .inl (cy 1, 2100, .inl f_1)), (a_14, .inr (1, [.ref a_18, .ref a_19, .int i_15, .int i_16, .int i_17])), (a_18, .inl (cy 1, 2100, .inl f_2)), (a_15, .inr (1, [.ref a_20, .ref a_21, .int i_18, .int i_19, .int i_20])), (a_20, .inl (cy 1, 2100, .inl f_3))] H → va_D A [(a_0, .inr (10, [.ref a_1, .ref a_2])), (a_1, .inr (0, [.int i_4, .int i_5, .int i_6, .int i_7, .int i_8, .int i_9, .int i_10, .int i_11, .ref a_3, .ref a_4, .ref a_5, .ref a_6, .ref a_7, .ref a_8, .ref a_9, .ref a_10, .ref a_11, .ref a_12])), (a_9, .inl (cy 1, 30, .inl f_0)), (a_2, .inl (cy 5, 3, .inr (.inr (.inr (.inr (va_up (va_up (va_up (fun _ => none) 0 (some a_13)) 1 (some a_14)) 2 (some a_15))))))), (a_13, .inr (1, [.ref a_16, .ref a_17, .int i_12, .int i_13, .int i_14])), (a_16, .inl (cy 1, 2100, .inl f_1)), (a_14, .inr (1, [.ref a_18, .ref a_19, .int i_15, .int i_16, .int i_17])), (a_18, .inl (cy 1, 2100, .inl f_2)), (a_15, .inr (1, [.ref a_20, .ref a_21, .int i_18, .int i_19, .int i_20])), (a_20, .inl (cy 1, 2100, .inl f_3))] → va_S A s.heap H locs → ∀ (ls : Array Slot), lv_has ls 6 [(5, .int x3_5_106), (0, .ref a_0), (1, .int i_0), (2, .int i_1), (3, .int i_2), (4, .int i_3)] → W p l e R s m args below meth c H locs 0 0 Q (F0 m 3 ls []) := by
    intro n
    induction n with
    | zero => intro x3_5_106 rx3_5_106 hm; exact absurd hm (Nat.not_lt_zero _)
    | succ n ih3 =>
      intro x3_5_106 rx3_5_106 hm3 H locs hP hD hS ls hl
      refine lv_iload hx hb dX10_firstUnlike_3 (lv_at hl 0 rfl) ?_
      refine lv_aload_n hx hb dX10_firstUnlike_5 rfl (lv_at hl 1 rfl) ?_
      refine va_get (D := G) (ci := 10) (v := .ref a_1) (C := RX10) (T := TX10) (N := 2) hx hb hts (mm_i inlX10) hown hK.1 hP 0 rfl rfl 0 (by decide) (mm_h hts mm_w87) (fun _ h9 => h9) rfl dX10_firstUnlike_6 ?_
      refine va_get (D := G) (ci := 0) (v := .int i_8) (C := RX0) (T := TX0) (N := 18) hx hb hts (mm_i inlX0) hown hK.1 hP 1 rfl rfl 4 (by decide) (mm_h hts mm_w729) (fun _ h9 => h9) rfl dX10_firstUnlike_9 ?_
      refine lv_icmp_gt (tgt := 44) hx hb dX10_firstUnlike_12 (by decide) (fun c108 => ?_) (fun c108 => ?_)
      · have q109 := mm_ltR (lo := 1) (mm_lt c108) h4 rx3_5_106 (by decide)
        refine lv_iconst (v := (-1)) hx hb dX10_firstUnlike_44 (by decide) ?_
        subst hAe
        rw [hQ]
        exact W.iret (v := (-1)) hx hb hr (fun t ht hW => ⟨⟨(-1), (), rfl, (mm_wk mm_km1 (by decide)), by rw [ht]; exact hP, hK.warm hW, hD⟩, hS.F ht⟩) hS.2.2 dX10_firstUnlike_45
      · have q110 := mm_leL (mm_nlt c108) rx3_5_106 h4
        refine lv_aload_n hx hb dX10_firstUnlike_15 rfl (lv_at hl 1 rfl) ?_
        refine lv_iload_n hx hb dX10_firstUnlike_16 rfl (lv_at hl 2 rfl) ?_
        refine lv_iload_n hx hb dX10_firstUnlike_17 rfl (lv_at hl 3 rfl) ?_
        refine lv_iload hx hb dX10_firstUnlike_18 (lv_at hl 0 rfl) ?_
        refine mm_finir (va_runV (As := [.int i_0, .int i_1, .int x3_5_106]) (rest := []) ⟨hx, hb, hml, hown, hts⟩ (K355_X10_meaning l G cy H.size a_0 i_0 i_1 x3_5_106 a_1 a_2 i_4 i_5 i_6 i_7 i_8 i_9 i_10 i_11 a_3 a_4 a_5 a_6 a_7 a_8 a_9 a_10 a_11 a_12 f_0 a_13 a_14 a_15 a_16 a_17 i_12 i_13 i_14 f_1 a_18 a_19 i_15 i_16 i_17 f_2 a_20 a_21 i_18 i_19 i_20 f_3 h0 h1 q110 h5 h6 h7 h8 h9 h10 h11) (cwV 3 hts (mm_gV mm_w730 mm_w666 mm_w667 mm_w23 mm_w668) rfl rfl rfl hd_X10_meaning ⟨by rw [hRf]; exact Nat.le_of_ble_eq_true rfl, by rw [hRl]; exact Nat.le_of_ble_eq_true rfl⟩) (mm_preV hK hZ hS hA hP hD [0, 1, 2, 3, 4, 5, 6, 7, 8, 9] rfl rfl 0 rfl rfl rfl) rfl rfl hl.1 rfl (lv_room (Nat.le_of_ble_eq_true rfl)) dX10_firstUnlike_20 ⟨by rw [hRc]; exact Nat.le_of_ble_eq_true rfl, by rw [hRs]; exact Nat.le_of_ble_eq_true rfl⟩) hP hD hS hA [0, 1, 2, 3, 4, 5, 6, 7, 8, 9] rfl (fun _ => rfl) ?_
        clear hP hD hS
        clear H locs
        intro v111 _u H locs hw hP hD hS
        have w112 := hw
        refine lv_aload_n hx hb dX10_firstUnlike_23 rfl (lv_at hl 1 rfl) ?_
        refine lv_iload_n hx hb dX10_firstUnlike_24 rfl (lv_at hl 4 rfl) ?_
        refine lv_iload hx hb dX10_firstUnlike_25 (lv_at hl 5 rfl) ?_
        refine lv_iload hx hb dX10_firstUnlike_27 (lv_at hl 0 rfl) ?_
        refine mm_finir (va_runV (As := [.int i_2, .int i_3, .int x3_5_106]) (rest := [.int v111]) ⟨hx, hb, hml, hown, hts⟩ (K355_X10_meaning l G cy H.size a_0 i_2 i_3 x3_5_106 a_1 a_2 i_4 i_5 i_6 i_7 i_8 i_9 i_10 i_11 a_3 a_4 a_5 a_6 a_7 a_8 a_9 a_10 a_11 a_12 f_0 a_13 a_14 a_15 a_16 a_17 i_12 i_13 i_14 f_1 a_18 a_19 i_15 i_16 i_17 f_2 a_20 a_21 i_18 i_19 i_20 f_3 h2 h3 q110 h5 h6 h7 h8 h9 h10 h11) (cwV 3 hts (mm_gV mm_w730 mm_w666 mm_w667 mm_w23 mm_w668) rfl rfl rfl hd_X10_meaning ⟨by rw [hRf]; exact Nat.le_of_ble_eq_true rfl, by rw [hRl]; exact Nat.le_of_ble_eq_true rfl⟩) (mm_preV hK hZ hS hA hP hD [0, 1, 2, 3, 4, 5, 6, 7, 8, 9] rfl rfl 0 rfl rfl rfl) rfl rfl hl.1 rfl (lv_room (Nat.le_of_ble_eq_true rfl)) dX10_firstUnlike_29 ⟨by rw [hRc]; exact Nat.le_of_ble_eq_true rfl, by rw [hRs]; exact Nat.le_of_ble_eq_true rfl⟩) hP hD hS hA [0, 1, 2, 3, 4, 5, 6, 7, 8, 9] rfl (fun _ => rfl) ?_
        clear hP hD hS
        clear H locs
        intro v113 _u H locs hw hP hD hS
        have w114 := hw
        refine lv_icmp_eq (tgt := 38) hx hb dX10_firstUnlike_32 (by decide) (fun c115 => ?_) (fun c115 => ?_)
        · obtain ⟨v116, ev116⟩ : ∃ y : Int32, y = x3_5_106 + 1 := ⟨_, rfl⟩
          refine lv_iinc (v := v116) (lv' := [(5, .int v116), (0, .ref a_0), (1, .int i_0), (2, .int i_1), (3, .int i_2), (4, .int i_3)]) hx hb dX10_firstUnlike_38 hl (k := 0) rfl (by rw [ev116]; rfl) (by decide) rfl ?_
          clear hl
          clear ls
          intro ls hl
          have rv116 : mm_rg v116 1 10 := mm_add ev116 q110 mm_k1 (by decide) (by decide)
          have tv116 := mm_addEc ev116 q110 mm_k1 (by decide) (k := 1) (by decide)
          refine lv_goto (tgt := 3) hx hb dX10_firstUnlike_41 (by decide) ?_
          exact ih3 v116 (mm_wk rv116 (by decide)) (mm_mu hm3 tv116 (by decide) (rv116).2 (by decide)) H locs hP hD hS ls (lv_sub hl [0, 1, 2, 3, 4, 5] rfl)
        · refine lv_iload hx hb dX10_firstUnlike_35 (lv_at hl 0 rfl) ?_
          subst hAe
          rw [hQ]
          exact W.iret (v := x3_5_106) hx hb hr (fun t ht hW => ⟨⟨x3_5_106, (), rfl, (mm_wk q110 (by decide)), by rw [ht]; exact hP, hK.warm hW, hD⟩, hS.F ht⟩) hS.2.2 dX10_firstUnlike_37
  exact L3_106 _ 0 (mm_wk mm_k0 (by decide)) (Nat.lt_succ_self _) H locs hP hD hS ls (lv_sub hl [0, 1, 2, 3, 4, 5] rfl)

set_option maxHeartbeats 4000000 in
set_option maxRecDepth 100000 in
theorem K430_X11_like (l : Launch) (G : va_G) (cy : Nat → ClassId) (sz : Nat) (a_0 : Nat) (i_0 : Int32) (i_1 : Int32) (i_2 : Int32) (a_1 : Nat) (a_2 : Nat) (a_3 : Nat) (a_4 : Nat) (a_5 : Nat) (a_6 : Nat) (a_7 : Nat) (a_8 : Nat) (a_9 : Nat) (a_10 : Nat) (a_11 : Nat) (a_12 : Nat) (a_13 : Nat) (i_3 : Int32) (i_4 : Int32) (i_5 : Int32) (i_6 : Int32) (i_7 : Int32) (i_8 : Int32) (i_9 : Int32) (i_10 : Int32) (a_14 : Nat) (a_15 : Nat) (a_16 : Nat) (a_17 : Nat) (a_18 : Nat) (a_19 : Nat) (a_20 : Nat) (a_21 : Nat) (a_22 : Nat) (a_23 : Nat) (f_0 : Nat → Int32) (a_24 : Nat) (a_25 : Nat) (a_26 : Nat) (a_27 : Nat) (a_28 : Nat) (i_11 : Int32) (i_12 : Int32) (i_13 : Int32) (f_1 : Nat → Int32) (a_29 : Nat) (a_30 : Nat) (i_14 : Int32) (i_15 : Int32) (i_16 : Int32) (f_2 : Nat → Int32) (a_31 : Nat) (a_32 : Nat) (i_17 : Int32) (i_18 : Int32) (i_19 : Int32) (f_3 : Nat → Int32) (h0 : mm_rg i_7 0 9) (h1 : mm_rg i_8 0 3) (h2 : mm_ar f_0 0 9) (h3 : mm_rg i_13 (-2147483648) 210) (h4 : mm_ar f_1 0 9) (h5 : mm_rg i_16 (-2147483648) 210) (h6 : mm_ar f_2 0 9) (h7 : mm_rg i_19 (-2147483648) 210) (h8 : mm_ar f_3 0 9)  : mm_CI l yX11_like (mm_ws yX11_like cX11_like 6 (some .int)) ({ frames := 3, cells := 0, slots := 0, locals := 70 } : Room) G cy sz [(a_0, .inr (11, [.ref a_1, .ref a_2, .ref a_3, .ref a_4, .ref a_5, .ref a_6, .ref a_7, .ref a_8, .ref a_9, .ref a_10, .ref a_11])), (a_3, .inr (10, [.ref a_12, .ref a_13])), (a_12, .inr (0, [.int i_3, .int i_4, .int i_5, .int i_6, .int i_7, .int i_8, .int i_9, .int i_10, .ref a_14, .ref a_15, .ref a_16, .ref a_17, .ref a_18, .ref a_19, .ref a_20, .ref a_21, .ref a_22, .ref a_23])), (a_20, .inl (cy 1, 30, .inl f_0)), (a_13, .inl (cy 5, 3, .inr (.inr (.inr (.inr (va_up (va_up (va_up (fun _ => none) 0 (some a_24)) 1 (some a_25)) 2 (some a_26))))))), (a_24, .inr (1, [.ref a_27, .ref a_28, .int i_11, .int i_12, .int i_13])), (a_27, .inl (cy 1, 2100, .inl f_1)), (a_25, .inr (1, [.ref a_29, .ref a_30, .int i_14, .int i_15, .int i_16])), (a_29, .inl (cy 1, 2100, .inl f_2)), (a_26, .inr (1, [.ref a_31, .ref a_32, .int i_17, .int i_18, .int i_19])), (a_31, .inl (cy 1, 2100, .inl f_3))] [.ref a_0, .int i_0, .int i_1, .int i_2] (fun u : Unit => [(a_0, .inr (11, [.ref a_1, .ref a_2, .ref a_3, .ref a_4, .ref a_5, .ref a_6, .ref a_7, .ref a_8, .ref a_9, .ref a_10, .ref a_11])), (a_3, .inr (10, [.ref a_12, .ref a_13])), (a_12, .inr (0, [.int i_3, .int i_4, .int i_5, .int i_6, .int i_7, .int i_8, .int i_9, .int i_10, .ref a_14, .ref a_15, .ref a_16, .ref a_17, .ref a_18, .ref a_19, .ref a_20, .ref a_21, .ref a_22, .ref a_23])), (a_20, .inl (cy 1, 30, .inl f_0)), (a_13, .inl (cy 5, 3, .inr (.inr (.inr (.inr (va_up (va_up (va_up (fun _ => none) 0 (some a_24)) 1 (some a_25)) 2 (some a_26))))))), (a_24, .inr (1, [.ref a_27, .ref a_28, .int i_11, .int i_12, .int i_13])), (a_27, .inl (cy 1, 2100, .inl f_1)), (a_25, .inr (1, [.ref a_29, .ref a_30, .int i_14, .int i_15, .int i_16])), (a_29, .inl (cy 1, 2100, .inl f_2)), (a_26, .inr (1, [.ref a_31, .ref a_32, .int i_17, .int i_18, .int i_19])), (a_31, .inl (cy 1, 2100, .inl f_3))]) (fun (r : Int32) (u : Unit) => mm_rg r (-2) 209) 0 0 := by
  refine mm_begin (lv := [(0, .ref a_0), (1, .int i_0), (2, .int i_1), (3, .int i_2)]) (by decide) (Nat.le_of_ble_eq_true rfl) rfl ?_
  intro p e s m below meth c A ls R args Q H locs hRe hQ hAe hx hb hr hlocks hml hown hnm hts hsz hA hS hP hK hD hZ hl
  have hRf : R.frames = 3 := by rw [hRe]
  have hRl : R.locals = 70 := by rw [hRe]
  have hRc : R.cells = 0 := by rw [hRe]
  have hRs : R.slots = 0 := by rw [hRe]
  refine lv_aload_n hx hb dX11_like_0 rfl (lv_at hl 0 rfl) ?_
  refine lv_iload_n hx hb dX11_like_1 rfl (lv_at hl 1 rfl) ?_
  refine mm_finir (va_runV (As := [.int i_0]) (rest := []) ⟨hx, hb, hml, hown, hts⟩ (K350_X11_isLand l G cy H.size a_0 i_0 a_1 a_2 a_3 a_4 a_5 a_6 a_7 a_8 a_9 a_10 a_11 a_12 a_13 i_3 i_4 i_5 i_6 i_7 i_8 i_9 i_10 a_14 a_15 a_16 a_17 a_18 a_19 a_20 a_21 a_22 a_23 h1) (cwV 1 hts (mm_gV mm_w626 mm_w627 mm_w628 mm_w2 mm_w629) rfl rfl rfl hd_X11_isLand ⟨by rw [hRf]; exact Nat.le_of_ble_eq_true rfl, by rw [hRl]; exact Nat.le_of_ble_eq_true rfl⟩) (mm_preV hK hZ hS hA hP hD [0, 1, 2] rfl rfl 0 rfl rfl rfl) rfl rfl hl.1 rfl (lv_room (Nat.le_of_ble_eq_true rfl)) dX11_like_2 ⟨by rw [hRc]; exact Nat.le_of_ble_eq_true rfl, by rw [hRs]; exact Nat.le_of_ble_eq_true rfl⟩) hP hD hS hA [0, 1, 2] rfl (fun _ => rfl) ?_
  clear hP hD hS
  clear H locs
  intro v1 _u H locs hw hP hD hS
  rcases hw with ⟨rfl, w2⟩ | ⟨rfl, w3⟩
  · refine lv_if_eq (tgt := 23) hx hb dX11_like_5 (by decide) (fun c4 => ?_) (fun c4 => ?_)
    · refine lv_bipush (v := (-2)) hx hb dX11_like_23 (by decide) ?_
      subst hAe
      rw [hQ]
      exact W.iret (v := (-2)) hx hb hr (fun t ht hW => ⟨⟨(-2), (), rfl, (mm_wk mm_km2 (by decide)), by rw [ht]; exact hP, hK.warm hW, hD⟩, hS.F ht⟩) hS.2.2 dX11_like_25
    · have q5 := mm_neL (lo := 1) (mm_ne c4) mm_k0 mm_k0 (by decide) (by decide)
      exact mm_no q5 (by decide)
  · refine lv_if_eq (tgt := 23) hx hb dX11_like_5 (by decide) (fun c6 => ?_) (fun c6 => ?_)
    · exact mm_eqN c6.symm mm_k0 mm_k1 (by decide)
    · refine lv_iload_n hx hb dX11_like_8 rfl (lv_at hl 2 rfl) ?_
      refine mm_finir (va_runS (As := [.int i_1]) (rest := []) ⟨hx, hb, hml, hown, hts⟩ (K353_X11_isDay l G cy H.size i_1 ) (va_cwS 1 hts (mm_gS mm_w661 mm_w662 mm_w2 mm_w663) rfl rfl rfl hs_X11_isDay ⟨by rw [hRf]; exact Nat.le_of_ble_eq_true rfl, by rw [hRl]; exact Nat.le_of_ble_eq_true rfl⟩) (mm_preS hK hZ hS hA hP hD [] rfl rfl) rfl rfl hl.1 rfl (lv_room (Nat.le_of_ble_eq_true rfl)) dX11_like_9 ⟨by rw [hRc]; exact Nat.le_of_ble_eq_true rfl, by rw [hRs]; exact Nat.le_of_ble_eq_true rfl⟩) hP hD hS hA [] rfl (fun _ => rfl) ?_
      clear hP hD hS
      clear H locs
      intro v7 _u H locs hw hP hD hS
      rcases hw with ⟨rfl, w8⟩ | ⟨rfl, w9⟩
      · refine lv_if_eq (tgt := 23) hx hb dX11_like_12 (by decide) (fun c10 => ?_) (fun c10 => ?_)
        · refine lv_bipush (v := (-2)) hx hb dX11_like_23 (by decide) ?_
          subst hAe
          rw [hQ]
          exact W.iret (v := (-2)) hx hb hr (fun t ht hW => ⟨⟨(-2), (), rfl, (mm_wk mm_km2 (by decide)), by rw [ht]; exact hP, hK.warm hW, hD⟩, hS.F ht⟩) hS.2.2 dX11_like_25
        · have q11 := mm_neL (lo := 1) (mm_ne c10) mm_k0 mm_k0 (by decide) (by decide)
          exact mm_no q11 (by decide)
      · refine lv_if_eq (tgt := 23) hx hb dX11_like_12 (by decide) (fun c12 => ?_) (fun c12 => ?_)
        · exact mm_eqN c12.symm mm_k0 mm_k1 (by decide)
        · refine lv_aload_n hx hb dX11_like_15 rfl (lv_at hl 0 rfl) ?_
          refine lv_iload_n hx hb dX11_like_16 rfl (lv_at hl 3 rfl) ?_
          refine mm_finir (va_runV (As := [.int i_2]) (rest := []) ⟨hx, hb, hml, hown, hts⟩ (K350_X11_isLand l G cy H.size a_0 i_2 a_1 a_2 a_3 a_4 a_5 a_6 a_7 a_8 a_9 a_10 a_11 a_12 a_13 i_3 i_4 i_5 i_6 i_7 i_8 i_9 i_10 a_14 a_15 a_16 a_17 a_18 a_19 a_20 a_21 a_22 a_23 h1) (cwV 1 hts (mm_gV mm_w626 mm_w627 mm_w628 mm_w2 mm_w629) rfl rfl rfl hd_X11_isLand ⟨by rw [hRf]; exact Nat.le_of_ble_eq_true rfl, by rw [hRl]; exact Nat.le_of_ble_eq_true rfl⟩) (mm_preV hK hZ hS hA hP hD [0, 1, 2] rfl rfl 0 rfl rfl rfl) rfl rfl hl.1 rfl (lv_room (Nat.le_of_ble_eq_true rfl)) dX11_like_17 ⟨by rw [hRc]; exact Nat.le_of_ble_eq_true rfl, by rw [hRs]; exact Nat.le_of_ble_eq_true rfl⟩) hP hD hS hA [0, 1, 2] rfl (fun _ => rfl) ?_
          clear hP hD hS
          clear H locs
          intro v13 _u H locs hw hP hD hS
          rcases hw with ⟨rfl, w14⟩ | ⟨rfl, w15⟩
          · refine lv_if_ne (tgt := 26) hx hb dX11_like_20 (by decide) (fun c16 => ?_) (fun c16 => ?_)
            · have q17 := mm_neL (lo := 1) (mm_ne c16) mm_k0 mm_k0 (by decide) (by decide)
              exact mm_no q17 (by decide)
            · refine lv_bipush (v := (-2)) hx hb dX11_like_23 (by decide) ?_
              subst hAe
              rw [hQ]
              exact W.iret (v := (-2)) hx hb hr (fun t ht hW => ⟨⟨(-2), (), rfl, (mm_wk mm_km2 (by decide)), by rw [ht]; exact hP, hK.warm hW, hD⟩, hS.F ht⟩) hS.2.2 dX11_like_25
          · refine lv_if_ne (tgt := 26) hx hb dX11_like_20 (by decide) (fun c18 => ?_) (fun c18 => ?_)
            · refine lv_aload_n hx hb dX11_like_26 rfl (lv_at hl 0 rfl) ?_
              refine va_get (D := G) (ci := 11) (v := .ref a_3) (C := RX11) (T := TX11) (N := 11) hx hb hts (mm_i inlX11) hown hK.1 hP 0 rfl rfl 2 (by decide) (mm_h hts mm_w24) (fun _ h9 => h9) rfl dX11_like_27 ?_
              refine lv_iload_n hx hb dX11_like_30 rfl (lv_at hl 3 rfl) ?_
              refine mm_finir (va_runV (As := [.int i_2]) (rest := []) ⟨hx, hb, hml, hown, hts⟩ (K360_X10_period l G cy H.size a_3 i_2 a_12 a_13 a_24 a_25 a_26 a_27 a_28 i_11 i_12 i_13 a_29 a_30 i_14 i_15 i_16 a_31 a_32 i_17 i_18 i_19 w15 h3 h5 h7) (cwV 1 hts (mm_gV mm_w743 mm_w744 mm_w745 mm_w23 mm_w746) rfl rfl rfl hd_X10_period ⟨by rw [hRf]; exact Nat.le_of_ble_eq_true rfl, by rw [hRl]; exact Nat.le_of_ble_eq_true rfl⟩) (mm_preV hK hZ hS hA hP hD [1, 4, 5, 7, 9] rfl rfl 1 rfl rfl rfl) rfl rfl hl.1 rfl (lv_room (Nat.le_of_ble_eq_true rfl)) dX11_like_31 ⟨by rw [hRc]; exact Nat.le_of_ble_eq_true rfl, by rw [hRs]; exact Nat.le_of_ble_eq_true rfl⟩) hP hD hS hA [1, 4, 5, 7, 9] rfl (fun _ => rfl) ?_
              clear hP hD hS
              clear H locs
              intro v19 _u H locs hw hP hD hS
              have w20 := hw
              refine lv_istore (lv' := [(4, .int v19), (0, .ref a_0), (1, .int i_0), (2, .int i_1), (3, .int i_2)]) hx hb dX11_like_34 hl (by decide) rfl ?_
              clear hl
              clear ls
              intro ls hl
              refine lv_iconst (v := 0) hx hb dX11_like_36 (by decide) ?_
              refine lv_istore (lv' := [(5, .int 0), (4, .int v19), (0, .ref a_0), (1, .int i_0), (2, .int i_1), (3, .int i_2)]) hx hb dX11_like_37 hl (by decide) rfl ?_
              clear hl
              clear ls
              intro ls hl
              have L39_164 : ∀ (n : Nat) (x39_5_164 : Int32), mm_rg x39_5_164 0 210 → (210 - x39_5_164.toInt).toNat < n → ∀ (H : Heap) (locs : List Loc), va_P G vwCl [(a_0, .inr (11, [.ref a_1, .ref a_2, .ref a_3, .ref a_4, .ref a_5, .ref a_6, .ref a_7, .ref a_8, .ref a_9, .ref a_10, .ref a_11])), (a_3, .inr (10, [.ref a_12, .ref a_13])), (a_12, .inr (0, [.int i_3, .int i_4, .int i_5, .int i_6, .int i_7, .int i_8, .int i_9, .int i_10, .ref a_14, .ref a_15, .ref a_16, .ref a_17, .ref a_18, .ref a_19, .ref a_20, .ref a_21, .ref a_22, .ref a_23])), (a_20, .inl (cy 1, 30, .inl f_0)), (a_13, .inl (cy 5, 3, .inr (.inr (.inr (.inr (va_up (va_up (va_up (fun _ => none) 0 (some a_24)) 1 (some a_25)) 2 (some a_26))))))), (a_24, .inr (1, [.ref a_27, .ref a_28, .int i_11, .int i_12, .int i_13])), (a_27, .inl (cy 1, 2100, .inl f_1)), (a_25, .inr (1, [.ref a_29, .ref a_30, .int i_14, .int i_15, .int i_16])), (a_29, .inl (cy 1, 2100, .inl f_2)), (a_26, .inr (1, [.ref a_31, .ref a_32, .int i_17, .int i_18, .int i_19])), (a_31, .inl (cy 1, 2100, .inl f_3))] H → va_D A [(a_0, .inr (11, [.ref a_1, .ref a_2, .ref a_3, .ref a_4, .ref a_5, .ref a_6, .ref a_7, .ref a_8, .ref a_9, .ref a_10, .ref a_11])), (a_3, .inr (10, [.ref a_12, .ref a_13])), (a_12, .inr (0, [.int i_3, .int i_4, .int i_5, .int i_6, .int i_7, .int i_8, .int i_9, .int i_10, .ref a_14, .ref a_15, .ref a_16, .ref a_17, .ref a_18, .ref a_19, .ref a_20, .ref a_21, .ref a_22, .ref a_23])), (a_20, .inl (cy 1, 30, .inl f_0)), (a_13, .inl (cy 5, 3, .inr (.inr (.inr (.inr (va_up (va_up (va_up (fun _ => none) 0 (some a_24)) 1 (some a_25)) 2 (some a_26))))))), (a_24, .inr (1, [.ref a_27, .ref a_28, .int i_11, .int i_12, .int i_13])), (a_27, .inl (cy 1, 2100, .inl f_1)), (a_25, .inr (1, [.ref a_29, .ref a_30, .int i_14, .int i_15, .int i_16])), (a_29, .inl (cy 1, 2100, .inl f_2)), (a_26, .inr (1, [.ref a_31, .ref a_32, .int i_17, .int i_18, .int i_19])), (a_31, .inl (cy 1, 2100, .inl f_3))] → va_S A s.heap H locs → ∀ (ls : Array Slot), lv_has ls 6 [(5, .int x39_5_164), (4, .int v19), (0, .ref a_0), (1, .int i_0), (2, .int i_1), (3, .int i_2)] → W p l e R s m args below meth c H locs 0 0 Q (F0 m 39 ls []) := by
                intro n
                induction n with
                | zero => intro x39_5_164 rx39_5_164 hm; exact absurd hm (Nat.not_lt_zero _)
                | succ n ih39 =>
                  intro x39_5_164 rx39_5_164 hm39 H locs hP hD hS ls hl
                  refine lv_iload hx hb dX11_like_39 (lv_at hl 0 rfl) ?_
                  refine lv_iload hx hb dX11_like_41 (lv_at hl 1 rfl) ?_
                  refine lv_icmp_ge (tgt := 71) hx hb dX11_like_43 (by decide) (fun c166 => ?_) (fun c166 => ?_)
                  · refine lv_iconst (v := (-1)) hx hb dX11_like_71 (by decide) ?_
                    subst hAe
                    rw [hQ]
                    exact W.iret (v := (-1)) hx hb hr (fun t ht hW => ⟨⟨(-1), (), rfl, (mm_wk mm_km1 (by decide)), by rw [ht]; exact hP, hK.warm hW, hD⟩, hS.F ht⟩) hS.2.2 dX11_like_72
                  · have q167 := mm_ltL (h := 209) (mm_nle c166) rx39_5_164 w20 (by decide)
                    have q168 := mm_ltR (lo := 1) (mm_nle c166) rx39_5_164 w20 (by decide)
                    refine lv_aload_n hx hb dX11_like_46 rfl (lv_at hl 2 rfl) ?_
                    refine va_get (D := G) (ci := 11) (v := .ref a_3) (C := RX11) (T := TX11) (N := 11) hx hb hts (mm_i inlX11) hown hK.1 hP 0 rfl rfl 2 (by decide) (mm_h hts mm_w24) (fun _ h9 => h9) rfl dX11_like_47 ?_
                    refine lv_iload_n hx hb dX11_like_50 rfl (lv_at hl 3 rfl) ?_
                    refine lv_iload_n hx hb dX11_like_51 rfl (lv_at hl 4 rfl) ?_
                    refine lv_iload_n hx hb dX11_like_52 rfl (lv_at hl 5 rfl) ?_
                    refine lv_iload hx hb dX11_like_53 (lv_at hl 0 rfl) ?_
                    refine mm_finir (va_runV (As := [.int i_0, .int i_1, .int i_2, .int x39_5_164]) (rest := []) ⟨hx, hb, hml, hown, hts⟩ (K429_X10_firstUnlike l G cy H.size a_3 i_0 i_1 i_2 x39_5_164 a_12 a_13 i_3 i_4 i_5 i_6 i_7 i_8 i_9 i_10 a_14 a_15 a_16 a_17 a_18 a_19 a_20 a_21 a_22 a_23 f_0 a_24 a_25 a_26 a_27 a_28 i_11 i_12 i_13 f_1 a_29 a_30 i_14 i_15 i_16 f_2 a_31 a_32 i_17 i_18 i_19 f_3 w3 (mm_wk w9 (by decide)) w15 (mm_wk q167 (by decide)) h0 h2 h3 h4 h5 h6 h7 h8) (cwV 4 hts (mm_gV mm_w1161 mm_w1162 mm_w1163 mm_w23 mm_w1164) rfl rfl rfl hd_X10_firstUnlike ⟨by rw [hRf]; exact Nat.le_of_ble_eq_true rfl, by rw [hRl]; exact Nat.le_of_ble_eq_true rfl⟩) (mm_preV hK hZ hS hA hP hD [1, 2, 3, 4, 5, 6, 7, 8, 9, 10] rfl rfl 1 rfl rfl rfl) rfl rfl hl.1 rfl (lv_room (Nat.le_of_ble_eq_true rfl)) dX11_like_55 ⟨by rw [hRc]; exact Nat.le_of_ble_eq_true rfl, by rw [hRs]; exact Nat.le_of_ble_eq_true rfl⟩) hP hD hS hA [1, 2, 3, 4, 5, 6, 7, 8, 9, 10] rfl (fun _ => rfl) ?_
                    clear hP hD hS
                    clear H locs
                    intro v169 _u H locs hw hP hD hS
                    have w170 := hw
                    refine lv_iconst (v := (-1)) hx hb dX11_like_58 (by decide) ?_
                    refine lv_icmp_ne (tgt := 65) hx hb dX11_like_59 (by decide) (fun c171 => ?_) (fun c171 => ?_)
                    · have q172 := mm_neL (lo := 0) (mm_ne c171) w170 mm_km1 (by decide) (by decide)
                      obtain ⟨v173, ev173⟩ : ∃ y : Int32, y = x39_5_164 + 1 := ⟨_, rfl⟩
                      refine lv_iinc (v := v173) (lv' := [(5, .int v173), (4, .int v19), (0, .ref a_0), (1, .int i_0), (2, .int i_1), (3, .int i_2)]) hx hb dX11_like_65 hl (k := 0) rfl (by rw [ev173]; rfl) (by decide) rfl ?_
                      clear hl
                      clear ls
                      intro ls hl
                      have rv173 : mm_rg v173 1 210 := mm_add ev173 q167 mm_k1 (by decide) (by decide)
                      have tv173 := mm_addEc ev173 q167 mm_k1 (by decide) (k := 1) (by decide)
                      refine lv_goto (tgt := 39) hx hb dX11_like_68 (by decide) ?_
                      exact ih39 v173 (mm_wk rv173 (by decide)) (mm_mu hm39 tv173 (by decide) (rv173).2 (by decide)) H locs hP hD hS ls (lv_sub hl [0, 1, 2, 3, 4, 5] rfl)
                    · have q174 := mm_eqI (lo := (-1)) (hi := (-1)) c171 w170 mm_km1 (by decide)
                      refine lv_iload hx hb dX11_like_62 (lv_at hl 0 rfl) ?_
                      subst hAe
                      rw [hQ]
                      exact W.iret (v := x39_5_164) hx hb hr (fun t ht hW => ⟨⟨x39_5_164, (), rfl, (mm_wk q167 (by decide)), by rw [ht]; exact hP, hK.warm hW, hD⟩, hS.F ht⟩) hS.2.2 dX11_like_64
              exact L39_164 _ 0 (mm_wk mm_k0 (by decide)) (Nat.lt_succ_self _) H locs hP hD hS ls (lv_sub hl [0, 1, 2, 3, 4, 5] rfl)
            · exact mm_eqN c18.symm mm_k0 mm_k1 (by decide)

set_option maxHeartbeats 4000000 in
set_option maxRecDepth 100000 in
theorem K431_X11_carry (l : Launch) (G : va_G) (cy : Nat → ClassId) (sz : Nat) (a_0 : Nat) (i_0 : Int32) (i_1 : Int32) (i_2 : Int32) (i_3 : Int32) (i_4 : Int32) (a_1 : Nat) (a_2 : Nat) (a_3 : Nat) (a_4 : Nat) (a_5 : Nat) (a_6 : Nat) (a_7 : Nat) (a_8 : Nat) (a_9 : Nat) (a_10 : Nat) (a_11 : Nat) (a_12 : Nat) (a_13 : Nat) (i_5 : Int32) (i_6 : Int32) (i_7 : Int32) (i_8 : Int32) (i_9 : Int32) (i_10 : Int32) (i_11 : Int32) (i_12 : Int32) (a_14 : Nat) (a_15 : Nat) (a_16 : Nat) (a_17 : Nat) (a_18 : Nat) (a_19 : Nat) (a_20 : Nat) (a_21 : Nat) (a_22 : Nat) (a_23 : Nat) (f_0 : Nat → Int32) (a_24 : Nat) (a_25 : Nat) (a_26 : Nat) (a_27 : Nat) (a_28 : Nat) (i_13 : Int32) (i_14 : Int32) (i_15 : Int32) (f_1 : Nat → Int32) (a_29 : Nat) (a_30 : Nat) (i_16 : Int32) (i_17 : Int32) (i_18 : Int32) (f_2 : Nat → Int32) (a_31 : Nat) (a_32 : Nat) (i_19 : Int32) (i_20 : Int32) (i_21 : Int32) (f_3 : Nat → Int32) (h0 : mm_rg i_9 0 9) (h1 : mm_rg i_10 0 3) (h2 : mm_ar f_0 0 9) (h3 : mm_rg i_15 (-2147483648) 210) (h4 : mm_ar f_1 0 9) (h5 : mm_rg i_18 (-2147483648) 210) (h6 : mm_ar f_2 0 9) (h7 : mm_rg i_21 (-2147483648) 210) (h8 : mm_ar f_3 0 9)  : mm_CI l yX11_carry (mm_ws yX11_carry cX11_carry 6 (some .int)) ({ frames := 3, cells := 0, slots := 0, locals := 70 } : Room) G cy sz [(a_0, .inr (11, [.ref a_1, .ref a_2, .ref a_3, .ref a_4, .ref a_5, .ref a_6, .ref a_7, .ref a_8, .ref a_9, .ref a_10, .ref a_11])), (a_3, .inr (10, [.ref a_12, .ref a_13])), (a_12, .inr (0, [.int i_5, .int i_6, .int i_7, .int i_8, .int i_9, .int i_10, .int i_11, .int i_12, .ref a_14, .ref a_15, .ref a_16, .ref a_17, .ref a_18, .ref a_19, .ref a_20, .ref a_21, .ref a_22, .ref a_23])), (a_20, .inl (cy 1, 30, .inl f_0)), (a_13, .inl (cy 5, 3, .inr (.inr (.inr (.inr (va_up (va_up (va_up (fun _ => none) 0 (some a_24)) 1 (some a_25)) 2 (some a_26))))))), (a_24, .inr (1, [.ref a_27, .ref a_28, .int i_13, .int i_14, .int i_15])), (a_27, .inl (cy 1, 2100, .inl f_1)), (a_25, .inr (1, [.ref a_29, .ref a_30, .int i_16, .int i_17, .int i_18])), (a_29, .inl (cy 1, 2100, .inl f_2)), (a_26, .inr (1, [.ref a_31, .ref a_32, .int i_19, .int i_20, .int i_21])), (a_31, .inl (cy 1, 2100, .inl f_3))] [.ref a_0, .int i_0, .int i_1, .int i_2, .int i_3, .int i_4] (fun u : Unit => [(a_0, .inr (11, [.ref a_1, .ref a_2, .ref a_3, .ref a_4, .ref a_5, .ref a_6, .ref a_7, .ref a_8, .ref a_9, .ref a_10, .ref a_11])), (a_3, .inr (10, [.ref a_12, .ref a_13])), (a_12, .inr (0, [.int i_5, .int i_6, .int i_7, .int i_8, .int i_9, .int i_10, .int i_11, .int i_12, .ref a_14, .ref a_15, .ref a_16, .ref a_17, .ref a_18, .ref a_19, .ref a_20, .ref a_21, .ref a_22, .ref a_23])), (a_20, .inl (cy 1, 30, .inl f_0)), (a_13, .inl (cy 5, 3, .inr (.inr (.inr (.inr (va_up (va_up (va_up (fun _ => none) 0 (some a_24)) 1 (some a_25)) 2 (some a_26))))))), (a_24, .inr (1, [.ref a_27, .ref a_28, .int i_13, .int i_14, .int i_15])), (a_27, .inl (cy 1, 2100, .inl f_1)), (a_25, .inr (1, [.ref a_29, .ref a_30, .int i_16, .int i_17, .int i_18])), (a_29, .inl (cy 1, 2100, .inl f_2)), (a_26, .inr (1, [.ref a_31, .ref a_32, .int i_19, .int i_20, .int i_21])), (a_31, .inl (cy 1, 2100, .inl f_3))]) (fun (r : Int32) (u : Unit) => mm_rg r (-2) 9) 0 0 := by
  refine mm_begin (lv := [(0, .ref a_0), (1, .int i_0), (2, .int i_1), (3, .int i_2), (4, .int i_3), (5, .int i_4)]) (by decide) (Nat.le_of_ble_eq_true rfl) rfl ?_
  intro p e s m below meth c A ls R args Q H locs hRe hQ hAe hx hb hr hlocks hml hown hnm hts hsz hA hS hP hK hD hZ hl
  have hRf : R.frames = 3 := by rw [hRe]
  have hRl : R.locals = 70 := by rw [hRe]
  have hRc : R.cells = 0 := by rw [hRe]
  have hRs : R.slots = 0 := by rw [hRe]
  refine lv_aload_n hx hb dX11_carry_0 rfl (lv_at hl 0 rfl) ?_
  refine lv_iload_n hx hb dX11_carry_1 rfl (lv_at hl 1 rfl) ?_
  refine mm_finir (va_runV (As := [.int i_0]) (rest := []) ⟨hx, hb, hml, hown, hts⟩ (K350_X11_isLand l G cy H.size a_0 i_0 a_1 a_2 a_3 a_4 a_5 a_6 a_7 a_8 a_9 a_10 a_11 a_12 a_13 i_5 i_6 i_7 i_8 i_9 i_10 i_11 i_12 a_14 a_15 a_16 a_17 a_18 a_19 a_20 a_21 a_22 a_23 h1) (cwV 1 hts (mm_gV mm_w626 mm_w627 mm_w628 mm_w2 mm_w629) rfl rfl rfl hd_X11_isLand ⟨by rw [hRf]; exact Nat.le_of_ble_eq_true rfl, by rw [hRl]; exact Nat.le_of_ble_eq_true rfl⟩) (mm_preV hK hZ hS hA hP hD [0, 1, 2] rfl rfl 0 rfl rfl rfl) rfl rfl hl.1 rfl (lv_room (Nat.le_of_ble_eq_true rfl)) dX11_carry_2 ⟨by rw [hRc]; exact Nat.le_of_ble_eq_true rfl, by rw [hRs]; exact Nat.le_of_ble_eq_true rfl⟩) hP hD hS hA [0, 1, 2] rfl (fun _ => rfl) ?_
  clear hP hD hS
  clear H locs
  intro v1 _u H locs hw hP hD hS
  rcases hw with ⟨rfl, w2⟩ | ⟨rfl, w3⟩
  · refine lv_if_eq (tgt := 40) hx hb dX11_carry_5 (by decide) (fun c4 => ?_) (fun c4 => ?_)
    · refine lv_bipush (v := (-2)) hx hb dX11_carry_40 (by decide) ?_
      subst hAe
      rw [hQ]
      exact W.iret (v := (-2)) hx hb hr (fun t ht hW => ⟨⟨(-2), (), rfl, (mm_wk mm_km2 (by decide)), by rw [ht]; exact hP, hK.warm hW, hD⟩, hS.F ht⟩) hS.2.2 dX11_carry_42
    · have q5 := mm_neL (lo := 1) (mm_ne c4) mm_k0 mm_k0 (by decide) (by decide)
      exact mm_no q5 (by decide)
  · refine lv_if_eq (tgt := 40) hx hb dX11_carry_5 (by decide) (fun c6 => ?_) (fun c6 => ?_)
    · exact mm_eqN c6.symm mm_k0 mm_k1 (by decide)
    · refine lv_iload_n hx hb dX11_carry_8 rfl (lv_at hl 2 rfl) ?_
      refine mm_finir (va_runS (As := [.int i_1]) (rest := []) ⟨hx, hb, hml, hown, hts⟩ (K353_X11_isDay l G cy H.size i_1 ) (va_cwS 1 hts (mm_gS mm_w661 mm_w662 mm_w2 mm_w663) rfl rfl rfl hs_X11_isDay ⟨by rw [hRf]; exact Nat.le_of_ble_eq_true rfl, by rw [hRl]; exact Nat.le_of_ble_eq_true rfl⟩) (mm_preS hK hZ hS hA hP hD [] rfl rfl) rfl rfl hl.1 rfl (lv_room (Nat.le_of_ble_eq_true rfl)) dX11_carry_9 ⟨by rw [hRc]; exact Nat.le_of_ble_eq_true rfl, by rw [hRs]; exact Nat.le_of_ble_eq_true rfl⟩) hP hD hS hA [] rfl (fun _ => rfl) ?_
      clear hP hD hS
      clear H locs
      intro v7 _u H locs hw hP hD hS
      rcases hw with ⟨rfl, w8⟩ | ⟨rfl, w9⟩
      · refine lv_if_eq (tgt := 40) hx hb dX11_carry_12 (by decide) (fun c10 => ?_) (fun c10 => ?_)
        · refine lv_bipush (v := (-2)) hx hb dX11_carry_40 (by decide) ?_
          subst hAe
          rw [hQ]
          exact W.iret (v := (-2)) hx hb hr (fun t ht hW => ⟨⟨(-2), (), rfl, (mm_wk mm_km2 (by decide)), by rw [ht]; exact hP, hK.warm hW, hD⟩, hS.F ht⟩) hS.2.2 dX11_carry_42
        · have q11 := mm_neL (lo := 1) (mm_ne c10) mm_k0 mm_k0 (by decide) (by decide)
          exact mm_no q11 (by decide)
      · refine lv_if_eq (tgt := 40) hx hb dX11_carry_12 (by decide) (fun c12 => ?_) (fun c12 => ?_)
        · exact mm_eqN c12.symm mm_k0 mm_k1 (by decide)
        · refine lv_aload_n hx hb dX11_carry_15 rfl (lv_at hl 0 rfl) ?_
          refine lv_iload_n hx hb dX11_carry_16 rfl (lv_at hl 3 rfl) ?_
          refine mm_finir (va_runV (As := [.int i_2]) (rest := []) ⟨hx, hb, hml, hown, hts⟩ (K351_X11_isWord l G cy H.size a_0 i_2 a_1 a_2 a_3 a_4 a_5 a_6 a_7 a_8 a_9 a_10 a_11 a_12 a_13 i_5 i_6 i_7 i_8 i_9 i_10 i_11 i_12 a_14 a_15 a_16 a_17 a_18 a_19 a_20 a_21 a_22 a_23 h0) (cwV 1 hts (mm_gV mm_w631 mm_w632 mm_w633 mm_w2 mm_w634) rfl rfl rfl hd_X11_isWord ⟨by rw [hRf]; exact Nat.le_of_ble_eq_true rfl, by rw [hRl]; exact Nat.le_of_ble_eq_true rfl⟩) (mm_preV hK hZ hS hA hP hD [0, 1, 2] rfl rfl 0 rfl rfl rfl) rfl rfl hl.1 rfl (lv_room (Nat.le_of_ble_eq_true rfl)) dX11_carry_17 ⟨by rw [hRc]; exact Nat.le_of_ble_eq_true rfl, by rw [hRs]; exact Nat.le_of_ble_eq_true rfl⟩) hP hD hS hA [0, 1, 2] rfl (fun _ => rfl) ?_
          clear hP hD hS
          clear H locs
          intro v13 _u H locs hw hP hD hS
          rcases hw with ⟨rfl, w14⟩ | ⟨rfl, w15⟩
          · refine lv_if_eq (tgt := 40) hx hb dX11_carry_20 (by decide) (fun c16 => ?_) (fun c16 => ?_)
            · refine lv_bipush (v := (-2)) hx hb dX11_carry_40 (by decide) ?_
              subst hAe
              rw [hQ]
              exact W.iret (v := (-2)) hx hb hr (fun t ht hW => ⟨⟨(-2), (), rfl, (mm_wk mm_km2 (by decide)), by rw [ht]; exact hP, hK.warm hW, hD⟩, hS.F ht⟩) hS.2.2 dX11_carry_42
            · have q17 := mm_neL (lo := 1) (mm_ne c16) mm_k0 mm_k0 (by decide) (by decide)
              exact mm_no q17 (by decide)
          · refine lv_if_eq (tgt := 40) hx hb dX11_carry_20 (by decide) (fun c18 => ?_) (fun c18 => ?_)
            · exact mm_eqN c18.symm mm_k0 mm_k1 (by decide)
            · refine lv_aload_n hx hb dX11_carry_23 rfl (lv_at hl 0 rfl) ?_
              refine lv_iload hx hb dX11_carry_24 (lv_at hl 4 rfl) ?_
              refine mm_finir (va_runV (As := [.int i_3]) (rest := []) ⟨hx, hb, hml, hown, hts⟩ (K350_X11_isLand l G cy H.size a_0 i_3 a_1 a_2 a_3 a_4 a_5 a_6 a_7 a_8 a_9 a_10 a_11 a_12 a_13 i_5 i_6 i_7 i_8 i_9 i_10 i_11 i_12 a_14 a_15 a_16 a_17 a_18 a_19 a_20 a_21 a_22 a_23 h1) (cwV 1 hts (mm_gV mm_w626 mm_w627 mm_w628 mm_w2 mm_w629) rfl rfl rfl hd_X11_isLand ⟨by rw [hRf]; exact Nat.le_of_ble_eq_true rfl, by rw [hRl]; exact Nat.le_of_ble_eq_true rfl⟩) (mm_preV hK hZ hS hA hP hD [0, 1, 2] rfl rfl 0 rfl rfl rfl) rfl rfl hl.1 rfl (lv_room (Nat.le_of_ble_eq_true rfl)) dX11_carry_26 ⟨by rw [hRc]; exact Nat.le_of_ble_eq_true rfl, by rw [hRs]; exact Nat.le_of_ble_eq_true rfl⟩) hP hD hS hA [0, 1, 2] rfl (fun _ => rfl) ?_
              clear hP hD hS
              clear H locs
              intro v19 _u H locs hw hP hD hS
              rcases hw with ⟨rfl, w20⟩ | ⟨rfl, w21⟩
              · refine lv_if_eq (tgt := 40) hx hb dX11_carry_29 (by decide) (fun c22 => ?_) (fun c22 => ?_)
                · refine lv_bipush (v := (-2)) hx hb dX11_carry_40 (by decide) ?_
                  subst hAe
                  rw [hQ]
                  exact W.iret (v := (-2)) hx hb hr (fun t ht hW => ⟨⟨(-2), (), rfl, (mm_wk mm_km2 (by decide)), by rw [ht]; exact hP, hK.warm hW, hD⟩, hS.F ht⟩) hS.2.2 dX11_carry_42
                · have q23 := mm_neL (lo := 1) (mm_ne c22) mm_k0 mm_k0 (by decide) (by decide)
                  exact mm_no q23 (by decide)
              · refine lv_if_eq (tgt := 40) hx hb dX11_carry_29 (by decide) (fun c24 => ?_) (fun c24 => ?_)
                · exact mm_eqN c24.symm mm_k0 mm_k1 (by decide)
                · refine lv_iload hx hb dX11_carry_32 (lv_at hl 5 rfl) ?_
                  refine mm_finir (va_runS (As := [.int i_4]) (rest := []) ⟨hx, hb, hml, hown, hts⟩ (K353_X11_isDay l G cy H.size i_4 ) (va_cwS 1 hts (mm_gS mm_w661 mm_w662 mm_w2 mm_w663) rfl rfl rfl hs_X11_isDay ⟨by rw [hRf]; exact Nat.le_of_ble_eq_true rfl, by rw [hRl]; exact Nat.le_of_ble_eq_true rfl⟩) (mm_preS hK hZ hS hA hP hD [] rfl rfl) rfl rfl hl.1 rfl (lv_room (Nat.le_of_ble_eq_true rfl)) dX11_carry_34 ⟨by rw [hRc]; exact Nat.le_of_ble_eq_true rfl, by rw [hRs]; exact Nat.le_of_ble_eq_true rfl⟩) hP hD hS hA [] rfl (fun _ => rfl) ?_
                  clear hP hD hS
                  clear H locs
                  intro v25 _u H locs hw hP hD hS
                  rcases hw with ⟨rfl, w26⟩ | ⟨rfl, w27⟩
                  · refine lv_if_ne (tgt := 43) hx hb dX11_carry_37 (by decide) (fun c28 => ?_) (fun c28 => ?_)
                    · have q29 := mm_neL (lo := 1) (mm_ne c28) mm_k0 mm_k0 (by decide) (by decide)
                      exact mm_no q29 (by decide)
                    · refine lv_bipush (v := (-2)) hx hb dX11_carry_40 (by decide) ?_
                      subst hAe
                      rw [hQ]
                      exact W.iret (v := (-2)) hx hb hr (fun t ht hW => ⟨⟨(-2), (), rfl, (mm_wk mm_km2 (by decide)), by rw [ht]; exact hP, hK.warm hW, hD⟩, hS.F ht⟩) hS.2.2 dX11_carry_42
                  · refine lv_if_ne (tgt := 43) hx hb dX11_carry_37 (by decide) (fun c30 => ?_) (fun c30 => ?_)
                    · refine lv_aload_n hx hb dX11_carry_43 rfl (lv_at hl 0 rfl) ?_
                      refine va_get (D := G) (ci := 11) (v := .ref a_3) (C := RX11) (T := TX11) (N := 11) hx hb hts (mm_i inlX11) hown hK.1 hP 0 rfl rfl 2 (by decide) (mm_h hts mm_w24) (fun _ h9 => h9) rfl dX11_carry_44 ?_
                      refine lv_iload hx hb dX11_carry_47 (lv_at hl 4 rfl) ?_
                      refine lv_iload hx hb dX11_carry_49 (lv_at hl 5 rfl) ?_
                      refine lv_aload_n hx hb dX11_carry_51 rfl (lv_at hl 0 rfl) ?_
                      refine va_get (D := G) (ci := 11) (v := .ref a_3) (C := RX11) (T := TX11) (N := 11) hx hb hts (mm_i inlX11) hown hK.1 hP 0 rfl rfl 2 (by decide) (mm_h hts mm_w24) (fun _ h9 => h9) rfl dX11_carry_52 ?_
                      refine lv_iload_n hx hb dX11_carry_55 rfl (lv_at hl 1 rfl) ?_
                      refine lv_iload_n hx hb dX11_carry_56 rfl (lv_at hl 2 rfl) ?_
                      refine lv_iload_n hx hb dX11_carry_57 rfl (lv_at hl 3 rfl) ?_
                      refine mm_finir (va_runV (As := [.int i_0, .int i_1, .int i_2]) (rest := [.int i_4, .int i_3, .ref a_3]) ⟨hx, hb, hml, hown, hts⟩ (K355_X10_meaning l G cy H.size a_3 i_0 i_1 i_2 a_12 a_13 i_5 i_6 i_7 i_8 i_9 i_10 i_11 i_12 a_14 a_15 a_16 a_17 a_18 a_19 a_20 a_21 a_22 a_23 f_0 a_24 a_25 a_26 a_27 a_28 i_13 i_14 i_15 f_1 a_29 a_30 i_16 i_17 i_18 f_2 a_31 a_32 i_19 i_20 i_21 f_3 w3 (mm_wk w9 (by decide)) w15 h2 h3 h4 h5 h6 h7 h8) (cwV 3 hts (mm_gV mm_w665 mm_w666 mm_w667 mm_w23 mm_w668) rfl rfl rfl hd_X10_meaning ⟨by rw [hRf]; exact Nat.le_of_ble_eq_true rfl, by rw [hRl]; exact Nat.le_of_ble_eq_true rfl⟩) (mm_preV hK hZ hS hA hP hD [1, 2, 3, 4, 5, 6, 7, 8, 9, 10] rfl rfl 1 rfl rfl rfl) rfl rfl hl.1 rfl (lv_room (Nat.le_of_ble_eq_true rfl)) dX11_carry_58 ⟨by rw [hRc]; exact Nat.le_of_ble_eq_true rfl, by rw [hRs]; exact Nat.le_of_ble_eq_true rfl⟩) hP hD hS hA [1, 2, 3, 4, 5, 6, 7, 8, 9, 10] rfl (fun _ => rfl) ?_
                      clear hP hD hS
                      clear H locs
                      intro v31 _u H locs hw hP hD hS
                      have w32 := hw
                      refine mm_finir (va_runV (As := [.int i_3, .int i_4, .int v31]) (rest := []) ⟨hx, hb, hml, hown, hts⟩ (K358_X10_wordFor l G cy H.size a_3 i_3 i_4 v31 a_12 a_13 i_5 i_6 i_7 i_8 i_9 i_10 i_11 i_12 a_14 a_15 a_16 a_17 a_18 a_19 a_20 a_21 a_22 a_23 f_0 a_24 a_25 a_26 a_27 a_28 i_13 i_14 i_15 f_1 a_29 a_30 i_16 i_17 i_18 f_2 a_31 a_32 i_19 i_20 i_21 f_3 w21 (mm_wk w27 (by decide)) w32 h0 h2 h3 h4 h5 h6 h7 h8) (cwV 3 hts (mm_gV mm_w725 mm_w726 mm_w727 mm_w23 mm_w728) rfl rfl rfl hd_X10_wordFor ⟨by rw [hRf]; exact Nat.le_of_ble_eq_true rfl, by rw [hRl]; exact Nat.le_of_ble_eq_true rfl⟩) (mm_preV hK hZ hS hA hP hD [1, 2, 3, 4, 5, 6, 7, 8, 9, 10] rfl rfl 1 rfl rfl rfl) rfl rfl hl.1 rfl (lv_room (Nat.le_of_ble_eq_true rfl)) dX11_carry_61 ⟨by rw [hRc]; exact Nat.le_of_ble_eq_true rfl, by rw [hRs]; exact Nat.le_of_ble_eq_true rfl⟩) hP hD hS hA [1, 2, 3, 4, 5, 6, 7, 8, 9, 10] rfl (fun _ => rfl) ?_
                      clear hP hD hS
                      clear H locs
                      intro v33 _u H locs hw hP hD hS
                      have w34 := hw
                      subst hAe
                      rw [hQ]
                      exact W.iret (v := v33) hx hb hr (fun t ht hW => ⟨⟨v33, (), rfl, (mm_wk w34 (by decide)), by rw [ht]; exact hP, hK.warm hW, hD⟩, hS.F ht⟩) hS.2.2 dX11_carry_64
                    · exact mm_eqN c30.symm mm_k0 mm_k1 (by decide)

set_option maxHeartbeats 4000000 in
set_option maxRecDepth 100000 in
theorem K432_X11_carried (l : Launch) (G : va_G) (cy : Nat → ClassId) (sz : Nat) (a_0 : Nat) (i_0 : Int32) (i_1 : Int32) (i_2 : Int32) (i_3 : Int32) (i_4 : Int32) (a_1 : Nat) (a_2 : Nat) (a_3 : Nat) (a_4 : Nat) (a_5 : Nat) (a_6 : Nat) (a_7 : Nat) (a_8 : Nat) (a_9 : Nat) (a_10 : Nat) (a_11 : Nat) (a_12 : Nat) (a_13 : Nat) (i_5 : Int32) (i_6 : Int32) (i_7 : Int32) (i_8 : Int32) (i_9 : Int32) (i_10 : Int32) (i_11 : Int32) (i_12 : Int32) (a_14 : Nat) (a_15 : Nat) (a_16 : Nat) (a_17 : Nat) (a_18 : Nat) (a_19 : Nat) (a_20 : Nat) (a_21 : Nat) (a_22 : Nat) (a_23 : Nat) (f_0 : Nat → Int32) (f_1 : Nat → Int32) (f_2 : Nat → Int32) (f_3 : Nat → Int32) (f_4 : Nat → Int32) (a_24 : Nat) (a_25 : Nat) (a_26 : Nat) (a_27 : Nat) (a_28 : Nat) (i_13 : Int32) (i_14 : Int32) (i_15 : Int32) (f_5 : Nat → Int32) (a_29 : Nat) (a_30 : Nat) (i_16 : Int32) (i_17 : Int32) (i_18 : Int32) (f_6 : Nat → Int32) (a_31 : Nat) (a_32 : Nat) (i_19 : Int32) (i_20 : Int32) (i_21 : Int32) (f_7 : Nat → Int32) (h0 : mm_rg i_8 0 99) (h1 : mm_rg i_9 0 9) (h2 : mm_rg i_10 0 3) (h3 : mm_rg i_11 0 6) (h4 : mm_ar f_0 (-1) 4) (h5 : mm_ar f_1 0 99) (h6 : mm_ar f_2 0 8) (h7 : mm_ar f_3 0 9) (h8 : mm_ar f_4 0 9) (h9 : mm_rg i_15 (-2147483648) 210) (h10 : mm_ar f_5 0 9) (h11 : mm_rg i_18 (-2147483648) 210) (h12 : mm_ar f_6 0 9) (h13 : mm_rg i_21 (-2147483648) 210) (h14 : mm_ar f_7 0 9)  : mm_CI l yX11_carried (mm_ws yX11_carried cX11_carried 6 (some .int)) ({ frames := 4, cells := 0, slots := 0, locals := 111 } : Room) G cy sz [(a_0, .inr (11, [.ref a_1, .ref a_2, .ref a_3, .ref a_4, .ref a_5, .ref a_6, .ref a_7, .ref a_8, .ref a_9, .ref a_10, .ref a_11])), (a_3, .inr (10, [.ref a_12, .ref a_13])), (a_12, .inr (0, [.int i_5, .int i_6, .int i_7, .int i_8, .int i_9, .int i_10, .int i_11, .int i_12, .ref a_14, .ref a_15, .ref a_16, .ref a_17, .ref a_18, .ref a_19, .ref a_20, .ref a_21, .ref a_22, .ref a_23])), (a_14, .inl (cy 1, 9, .inl f_0)), (a_15, .inl (cy 1, 9, .inl f_1)), (a_18, .inl (cy 1, 6, .inl f_2)), (a_19, .inl (cy 1, 48, .inl f_3)), (a_20, .inl (cy 1, 30, .inl f_4)), (a_13, .inl (cy 5, 3, .inr (.inr (.inr (.inr (va_up (va_up (va_up (fun _ => none) 0 (some a_24)) 1 (some a_25)) 2 (some a_26))))))), (a_24, .inr (1, [.ref a_27, .ref a_28, .int i_13, .int i_14, .int i_15])), (a_27, .inl (cy 1, 2100, .inl f_5)), (a_25, .inr (1, [.ref a_29, .ref a_30, .int i_16, .int i_17, .int i_18])), (a_29, .inl (cy 1, 2100, .inl f_6)), (a_26, .inr (1, [.ref a_31, .ref a_32, .int i_19, .int i_20, .int i_21])), (a_31, .inl (cy 1, 2100, .inl f_7))] [.ref a_0, .int i_0, .int i_1, .int i_2, .int i_3, .int i_4] (fun u : Unit => [(a_0, .inr (11, [.ref a_1, .ref a_2, .ref a_3, .ref a_4, .ref a_5, .ref a_6, .ref a_7, .ref a_8, .ref a_9, .ref a_10, .ref a_11])), (a_3, .inr (10, [.ref a_12, .ref a_13])), (a_12, .inr (0, [.int i_5, .int i_6, .int i_7, .int i_8, .int i_9, .int i_10, .int i_11, .int i_12, .ref a_14, .ref a_15, .ref a_16, .ref a_17, .ref a_18, .ref a_19, .ref a_20, .ref a_21, .ref a_22, .ref a_23])), (a_14, .inl (cy 1, 9, .inl f_0)), (a_15, .inl (cy 1, 9, .inl f_1)), (a_18, .inl (cy 1, 6, .inl f_2)), (a_19, .inl (cy 1, 48, .inl f_3)), (a_20, .inl (cy 1, 30, .inl f_4)), (a_13, .inl (cy 5, 3, .inr (.inr (.inr (.inr (va_up (va_up (va_up (fun _ => none) 0 (some a_24)) 1 (some a_25)) 2 (some a_26))))))), (a_24, .inr (1, [.ref a_27, .ref a_28, .int i_13, .int i_14, .int i_15])), (a_27, .inl (cy 1, 2100, .inl f_5)), (a_25, .inr (1, [.ref a_29, .ref a_30, .int i_16, .int i_17, .int i_18])), (a_29, .inl (cy 1, 2100, .inl f_6)), (a_26, .inr (1, [.ref a_31, .ref a_32, .int i_19, .int i_20, .int i_21])), (a_31, .inl (cy 1, 2100, .inl f_7))]) (fun (r : Int32) (u : Unit) => True) 0 0 := by
  refine mm_begin (lv := [(0, .ref a_0), (1, .int i_0), (2, .int i_1), (3, .int i_2), (4, .int i_3), (5, .int i_4)]) (by decide) (Nat.le_of_ble_eq_true rfl) rfl ?_
  intro p e s m below meth c A ls R args Q H locs hRe hQ hAe hx hb hr hlocks hml hown hnm hts hsz hA hS hP hK hD hZ hl
  have hRf : R.frames = 4 := by rw [hRe]
  have hRl : R.locals = 111 := by rw [hRe]
  have hRc : R.cells = 0 := by rw [hRe]
  have hRs : R.slots = 0 := by rw [hRe]
  refine lv_aload_n hx hb dX11_carried_0 rfl (lv_at hl 0 rfl) ?_
  refine lv_iload_n hx hb dX11_carried_1 rfl (lv_at hl 1 rfl) ?_
  refine lv_iload_n hx hb dX11_carried_2 rfl (lv_at hl 2 rfl) ?_
  refine lv_iload_n hx hb dX11_carried_3 rfl (lv_at hl 3 rfl) ?_
  refine mm_finir (va_runV (As := [.int i_0, .int i_1, .int i_2]) (rest := []) ⟨hx, hb, hml, hown, hts⟩ (K371_X11_isReading l G cy H.size a_0 i_0 i_1 i_2 a_1 a_2 a_3 a_4 a_5 a_6 a_7 a_8 a_9 a_10 a_11 a_12 a_13 i_5 i_6 i_7 i_8 i_9 i_10 i_11 i_12 a_14 a_15 a_16 a_17 a_18 a_19 a_20 a_21 a_22 a_23 h2 h3) (cwV 3 hts (mm_gV mm_w825 mm_w826 mm_w827 mm_w2 mm_w828) rfl rfl rfl hd_X11_isReading ⟨by rw [hRf]; exact Nat.le_of_ble_eq_true rfl, by rw [hRl]; exact Nat.le_of_ble_eq_true rfl⟩) (mm_preV hK hZ hS hA hP hD [0, 1, 2] rfl rfl 0 rfl rfl rfl) rfl rfl hl.1 rfl (lv_room (Nat.le_of_ble_eq_true rfl)) dX11_carried_4 ⟨by rw [hRc]; exact Nat.le_of_ble_eq_true rfl, by rw [hRs]; exact Nat.le_of_ble_eq_true rfl⟩) hP hD hS hA [0, 1, 2] rfl (fun _ => rfl) ?_
  clear hP hD hS
  clear H locs
  intro v1 _u H locs hw hP hD hS
  rcases hw with rfl | ⟨rfl, w2, w3, w4⟩
  · refine lv_if_eq (tgt := 27) hx hb dX11_carried_7 (by decide) (fun c5 => ?_) (fun c5 => ?_)
    · refine lv_bipush (v := (-2)) hx hb dX11_carried_27 (by decide) ?_
      subst hAe
      rw [hQ]
      exact W.iret (v := (-2)) hx hb hr (fun t ht hW => ⟨⟨(-2), (), rfl, trivial, by rw [ht]; exact hP, hK.warm hW, hD⟩, hS.F ht⟩) hS.2.2 dX11_carried_29
    · have q6 := mm_neL (lo := 1) (mm_ne c5) mm_k0 mm_k0 (by decide) (by decide)
      exact mm_no q6 (by decide)
  · refine lv_if_eq (tgt := 27) hx hb dX11_carried_7 (by decide) (fun c7 => ?_) (fun c7 => ?_)
    · exact mm_eqN c7.symm mm_k0 mm_k1 (by decide)
    · refine lv_aload_n hx hb dX11_carried_10 rfl (lv_at hl 0 rfl) ?_
      refine lv_iload hx hb dX11_carried_11 (lv_at hl 4 rfl) ?_
      refine mm_finir (va_runV (As := [.int i_3]) (rest := []) ⟨hx, hb, hml, hown, hts⟩ (K350_X11_isLand l G cy H.size a_0 i_3 a_1 a_2 a_3 a_4 a_5 a_6 a_7 a_8 a_9 a_10 a_11 a_12 a_13 i_5 i_6 i_7 i_8 i_9 i_10 i_11 i_12 a_14 a_15 a_16 a_17 a_18 a_19 a_20 a_21 a_22 a_23 h2) (cwV 1 hts (mm_gV mm_w626 mm_w627 mm_w628 mm_w2 mm_w629) rfl rfl rfl hd_X11_isLand ⟨by rw [hRf]; exact Nat.le_of_ble_eq_true rfl, by rw [hRl]; exact Nat.le_of_ble_eq_true rfl⟩) (mm_preV hK hZ hS hA hP hD [0, 1, 2] rfl rfl 0 rfl rfl rfl) rfl rfl hl.1 rfl (lv_room (Nat.le_of_ble_eq_true rfl)) dX11_carried_13 ⟨by rw [hRc]; exact Nat.le_of_ble_eq_true rfl, by rw [hRs]; exact Nat.le_of_ble_eq_true rfl⟩) hP hD hS hA [0, 1, 2] rfl (fun _ => rfl) ?_
      clear hP hD hS
      clear H locs
      intro v8 _u H locs hw hP hD hS
      rcases hw with ⟨rfl, w9⟩ | ⟨rfl, w10⟩
      · refine lv_if_eq (tgt := 27) hx hb dX11_carried_16 (by decide) (fun c11 => ?_) (fun c11 => ?_)
        · refine lv_bipush (v := (-2)) hx hb dX11_carried_27 (by decide) ?_
          subst hAe
          rw [hQ]
          exact W.iret (v := (-2)) hx hb hr (fun t ht hW => ⟨⟨(-2), (), rfl, trivial, by rw [ht]; exact hP, hK.warm hW, hD⟩, hS.F ht⟩) hS.2.2 dX11_carried_29
        · have q12 := mm_neL (lo := 1) (mm_ne c11) mm_k0 mm_k0 (by decide) (by decide)
          exact mm_no q12 (by decide)
      · refine lv_if_eq (tgt := 27) hx hb dX11_carried_16 (by decide) (fun c13 => ?_) (fun c13 => ?_)
        · exact mm_eqN c13.symm mm_k0 mm_k1 (by decide)
        · refine lv_iload hx hb dX11_carried_19 (lv_at hl 5 rfl) ?_
          refine mm_finir (va_runS (As := [.int i_4]) (rest := []) ⟨hx, hb, hml, hown, hts⟩ (K353_X11_isDay l G cy H.size i_4 ) (va_cwS 1 hts (mm_gS mm_w661 mm_w662 mm_w2 mm_w663) rfl rfl rfl hs_X11_isDay ⟨by rw [hRf]; exact Nat.le_of_ble_eq_true rfl, by rw [hRl]; exact Nat.le_of_ble_eq_true rfl⟩) (mm_preS hK hZ hS hA hP hD [] rfl rfl) rfl rfl hl.1 rfl (lv_room (Nat.le_of_ble_eq_true rfl)) dX11_carried_21 ⟨by rw [hRc]; exact Nat.le_of_ble_eq_true rfl, by rw [hRs]; exact Nat.le_of_ble_eq_true rfl⟩) hP hD hS hA [] rfl (fun _ => rfl) ?_
          clear hP hD hS
          clear H locs
          intro v14 _u H locs hw hP hD hS
          rcases hw with ⟨rfl, w15⟩ | ⟨rfl, w16⟩
          · refine lv_if_ne (tgt := 30) hx hb dX11_carried_24 (by decide) (fun c17 => ?_) (fun c17 => ?_)
            · have q18 := mm_neL (lo := 1) (mm_ne c17) mm_k0 mm_k0 (by decide) (by decide)
              exact mm_no q18 (by decide)
            · refine lv_bipush (v := (-2)) hx hb dX11_carried_27 (by decide) ?_
              subst hAe
              rw [hQ]
              exact W.iret (v := (-2)) hx hb hr (fun t ht hW => ⟨⟨(-2), (), rfl, trivial, by rw [ht]; exact hP, hK.warm hW, hD⟩, hS.F ht⟩) hS.2.2 dX11_carried_29
          · refine lv_if_ne (tgt := 30) hx hb dX11_carried_24 (by decide) (fun c19 => ?_) (fun c19 => ?_)
            · refine lv_aload_n hx hb dX11_carried_30 rfl (lv_at hl 0 rfl) ?_
              refine va_get (D := G) (ci := 11) (v := .ref a_3) (C := RX11) (T := TX11) (N := 11) hx hb hts (mm_i inlX11) hown hK.1 hP 0 rfl rfl 2 (by decide) (mm_h hts mm_w24) (fun _ h9 => h9) rfl dX11_carried_31 ?_
              refine lv_iload_n hx hb dX11_carried_34 rfl (lv_at hl 1 rfl) ?_
              refine lv_iload_n hx hb dX11_carried_35 rfl (lv_at hl 2 rfl) ?_
              refine lv_iload_n hx hb dX11_carried_36 rfl (lv_at hl 3 rfl) ?_
              refine mm_finir (va_runV (As := [.int i_0, .int i_1, .int i_2]) (rest := []) ⟨hx, hb, hml, hown, hts⟩ (K374_X10_leaving l G cy H.size a_3 i_0 i_1 i_2 a_12 a_13 i_5 i_6 i_7 i_8 i_9 i_10 i_11 i_12 a_14 a_15 a_16 a_17 a_18 a_19 a_20 a_21 a_22 a_23 f_0 f_1 f_2 f_3 f_4 a_24 a_25 a_26 a_27 a_28 i_13 i_14 i_15 f_5 a_29 a_30 i_16 i_17 i_18 f_6 a_31 a_32 i_19 i_20 i_21 f_7 w2 (mm_wk w3 (by decide)) w4 h0 h1 h4 h5 h6 h7 h8 h9 h10 h11 h12 h13 h14) (cwV 3 hts (mm_gV mm_w829 mm_w830 mm_w831 mm_w23 mm_w832) rfl rfl rfl hd_X10_leaving ⟨by rw [hRf]; exact Nat.le_of_ble_eq_true rfl, by rw [hRl]; exact Nat.le_of_ble_eq_true rfl⟩) (mm_preV hK hZ hS hA hP hD [1, 2, 3, 4, 5, 6, 7, 8, 9, 10, 11, 12, 13, 14] rfl rfl 1 rfl rfl rfl) rfl rfl hl.1 rfl (lv_room (Nat.le_of_ble_eq_true rfl)) dX11_carried_37 ⟨by rw [hRc]; exact Nat.le_of_ble_eq_true rfl, by rw [hRs]; exact Nat.le_of_ble_eq_true rfl⟩) hP hD hS hA [1, 2, 3, 4, 5, 6, 7, 8, 9, 10, 11, 12, 13, 14] rfl (fun _ => rfl) ?_
              clear hP hD hS
              clear H locs
              intro v20 _u H locs hw hP hD hS
              subst hAe
              rw [hQ]
              exact W.iret (v := v20) hx hb hr (fun t ht hW => ⟨⟨v20, (), rfl, trivial, by rw [ht]; exact hP, hK.warm hW, hD⟩, hS.F ht⟩) hS.2.2 dX11_carried_40
            · exact mm_eqN c19.symm mm_k0 mm_k1 (by decide)

set_option maxHeartbeats 4000000 in
set_option maxRecDepth 100000 in
theorem K433_X10_firstDayUnlike (l : Launch) (G : va_G) (cy : Nat → ClassId) (sz : Nat) (a_0 : Nat) (i_0 : Int32) (i_1 : Int32) (a_1 : Nat) (a_2 : Nat) (i_2 : Int32) (i_3 : Int32) (i_4 : Int32) (i_5 : Int32) (i_6 : Int32) (i_7 : Int32) (i_8 : Int32) (i_9 : Int32) (a_3 : Nat) (a_4 : Nat) (a_5 : Nat) (a_6 : Nat) (a_7 : Nat) (a_8 : Nat) (a_9 : Nat) (a_10 : Nat) (a_11 : Nat) (a_12 : Nat) (f_0 : Nat → Int32) (a_13 : Nat) (a_14 : Nat) (a_15 : Nat) (a_16 : Nat) (a_17 : Nat) (i_10 : Int32) (i_11 : Int32) (i_12 : Int32) (f_1 : Nat → Int32) (a_18 : Nat) (a_19 : Nat) (i_13 : Int32) (i_14 : Int32) (i_15 : Int32) (f_2 : Nat → Int32) (a_20 : Nat) (a_21 : Nat) (i_16 : Int32) (i_17 : Int32) (i_18 : Int32) (f_3 : Nat → Int32) (h0 : mm_rg i_0 0 2) (h1 : mm_rg i_1 0 2) (h2 : mm_rg i_6 0 9) (h3 : mm_ar f_0 0 9) (h4 : mm_rg i_12 (-2147483648) 210) (h5 : mm_ar f_1 0 9) (h6 : mm_rg i_15 (-2147483648) 210) (h7 : mm_ar f_2 0 9) (h8 : mm_rg i_18 (-2147483648) 210) (h9 : mm_ar f_3 0 9)  : mm_CI l yX10_firstDayUnlike (mm_ws yX10_firstDayUnlike cX10_firstDayUnlike 5 (some .int)) ({ frames := 3, cells := 0, slots := 0, locals := 70 } : Room) G cy sz [(a_0, .inr (10, [.ref a_1, .ref a_2])), (a_1, .inr (0, [.int i_2, .int i_3, .int i_4, .int i_5, .int i_6, .int i_7, .int i_8, .int i_9, .ref a_3, .ref a_4, .ref a_5, .ref a_6, .ref a_7, .ref a_8, .ref a_9, .ref a_10, .ref a_11, .ref a_12])), (a_9, .inl (cy 1, 30, .inl f_0)), (a_2, .inl (cy 5, 3, .inr (.inr (.inr (.inr (va_up (va_up (va_up (fun _ => none) 0 (some a_13)) 1 (some a_14)) 2 (some a_15))))))), (a_13, .inr (1, [.ref a_16, .ref a_17, .int i_10, .int i_11, .int i_12])), (a_16, .inl (cy 1, 2100, .inl f_1)), (a_14, .inr (1, [.ref a_18, .ref a_19, .int i_13, .int i_14, .int i_15])), (a_18, .inl (cy 1, 2100, .inl f_2)), (a_15, .inr (1, [.ref a_20, .ref a_21, .int i_16, .int i_17, .int i_18])), (a_20, .inl (cy 1, 2100, .inl f_3))] [.ref a_0, .int i_0, .int i_1] (fun u : Unit => [(a_0, .inr (10, [.ref a_1, .ref a_2])), (a_1, .inr (0, [.int i_2, .int i_3, .int i_4, .int i_5, .int i_6, .int i_7, .int i_8, .int i_9, .ref a_3, .ref a_4, .ref a_5, .ref a_6, .ref a_7, .ref a_8, .ref a_9, .ref a_10, .ref a_11, .ref a_12])), (a_9, .inl (cy 1, 30, .inl f_0)), (a_2, .inl (cy 5, 3, .inr (.inr (.inr (.inr (va_up (va_up (va_up (fun _ => none) 0 (some a_13)) 1 (some a_14)) 2 (some a_15))))))), (a_13, .inr (1, [.ref a_16, .ref a_17, .int i_10, .int i_11, .int i_12])), (a_16, .inl (cy 1, 2100, .inl f_1)), (a_14, .inr (1, [.ref a_18, .ref a_19, .int i_13, .int i_14, .int i_15])), (a_18, .inl (cy 1, 2100, .inl f_2)), (a_15, .inr (1, [.ref a_20, .ref a_21, .int i_16, .int i_17, .int i_18])), (a_20, .inl (cy 1, 2100, .inl f_3))]) (fun (r : Int32) (u : Unit) => mm_rg r (-1) 2147483646) 0 0 := by
  refine mm_begin (lv := [(0, .ref a_0), (1, .int i_0), (2, .int i_1)]) (by decide) (Nat.le_of_ble_eq_true rfl) rfl ?_
  intro p e s m below meth c A ls R args Q H locs hRe hQ hAe hx hb hr hlocks hml hown hnm hts hsz hA hS hP hK hD hZ hl
  have hRf : R.frames = 3 := by rw [hRe]
  have hRl : R.locals = 70 := by rw [hRe]
  have hRc : R.cells = 0 := by rw [hRe]
  have hRs : R.slots = 0 := by rw [hRe]
  refine lv_aload_n hx hb dX10_firstDayUnlike_0 rfl (lv_at hl 0 rfl) ?_
  refine lv_iload_n hx hb dX10_firstDayUnlike_1 rfl (lv_at hl 1 rfl) ?_
  refine mm_finir (va_runV (As := [.int i_0]) (rest := []) ⟨hx, hb, hml, hown, hts⟩ (K360_X10_period l G cy H.size a_0 i_0 a_1 a_2 a_13 a_14 a_15 a_16 a_17 i_10 i_11 i_12 a_18 a_19 i_13 i_14 i_15 a_20 a_21 i_16 i_17 i_18 h0 h4 h6 h8) (cwV 1 hts (mm_gV mm_w768 mm_w744 mm_w745 mm_w23 mm_w746) rfl rfl rfl hd_X10_period ⟨by rw [hRf]; exact Nat.le_of_ble_eq_true rfl, by rw [hRl]; exact Nat.le_of_ble_eq_true rfl⟩) (mm_preV hK hZ hS hA hP hD [0, 3, 4, 6, 8] rfl rfl 0 rfl rfl rfl) rfl rfl hl.1 rfl (lv_room (Nat.le_of_ble_eq_true rfl)) dX10_firstDayUnlike_2 ⟨by rw [hRc]; exact Nat.le_of_ble_eq_true rfl, by rw [hRs]; exact Nat.le_of_ble_eq_true rfl⟩) hP hD hS hA [0, 3, 4, 6, 8] rfl (fun _ => rfl) ?_
  clear hP hD hS
  clear H locs
  intro v1 _u H locs hw hP hD hS
  have w2 := hw
  refine lv_aload_n hx hb dX10_firstDayUnlike_5 rfl (lv_at hl 0 rfl) ?_
  refine lv_iload_n hx hb dX10_firstDayUnlike_6 rfl (lv_at hl 2 rfl) ?_
  refine mm_finir (va_runV (As := [.int i_1]) (rest := [.int v1]) ⟨hx, hb, hml, hown, hts⟩ (K360_X10_period l G cy H.size a_0 i_1 a_1 a_2 a_13 a_14 a_15 a_16 a_17 i_10 i_11 i_12 a_18 a_19 i_13 i_14 i_15 a_20 a_21 i_16 i_17 i_18 h1 h4 h6 h8) (cwV 1 hts (mm_gV mm_w768 mm_w744 mm_w745 mm_w23 mm_w746) rfl rfl rfl hd_X10_period ⟨by rw [hRf]; exact Nat.le_of_ble_eq_true rfl, by rw [hRl]; exact Nat.le_of_ble_eq_true rfl⟩) (mm_preV hK hZ hS hA hP hD [0, 3, 4, 6, 8] rfl rfl 0 rfl rfl rfl) rfl rfl hl.1 rfl (lv_room (Nat.le_of_ble_eq_true rfl)) dX10_firstDayUnlike_7 ⟨by rw [hRc]; exact Nat.le_of_ble_eq_true rfl, by rw [hRs]; exact Nat.le_of_ble_eq_true rfl⟩) hP hD hS hA [0, 3, 4, 6, 8] rfl (fun _ => rfl) ?_
  clear hP hD hS
  clear H locs
  intro v3 _u H locs hw hP hD hS
  have w4 := hw
  refine lv_iadd hx hb dX10_firstDayUnlike_10 ?_
  refine lv_topi (fun v5 ev5 => ?_)
  refine lv_istore_n (lv' := [(3, .int v5), (0, .ref a_0), (1, .int i_0), (2, .int i_1)]) hx hb dX10_firstDayUnlike_11 rfl hl (by decide) rfl ?_
  clear hl
  clear ls
  intro ls hl
  refine lv_iconst (v := 0) hx hb dX10_firstDayUnlike_12 (by decide) ?_
  refine lv_istore (lv' := [(4, .int 0), (3, .int v5), (0, .ref a_0), (1, .int i_0), (2, .int i_1)]) hx hb dX10_firstDayUnlike_13 hl (by decide) rfl ?_
  clear hl
  clear ls
  intro ls hl
  have L15_203 : ∀ (n : Nat) (x15_4_203 : Int32), mm_rg x15_4_203 0 2147483647 → (2147483647 - x15_4_203.toInt).toNat < n → ∀ (H : Heap) (locs : List Loc), va_P G vwCl [(a_0, .inr (10, [.ref a_1, .ref a_2])), (a_1, .inr (0, [.int i_2, .int i_3, .int i_4, .int i_5, .int i_6, .int i_7, .int i_8, .int i_9, .ref a_3, .ref a_4, .ref a_5, .ref a_6, .ref a_7, .ref a_8, .ref a_9, .ref a_10, .ref a_11, .ref a_12])), (a_9, .inl (cy 1, 30, .inl f_0)), (a_2, .inl (cy 5, 3, .inr (.inr (.inr (.inr (va_up (va_up (va_up (fun _ => none) 0 (some a_13)) 1 (some a_14)) 2 (some a_15))))))), (a_13, .inr (1, [.ref a_16, .ref a_17, .int i_10, .int i_11, .int i_12])), (a_16, .inl (cy 1, 2100, .inl f_1)), (a_14, .inr (1, [.ref a_18, .ref a_19, .int i_13, .int i_14, .int i_15])), (a_18, .inl (cy 1, 2100, .inl f_2)), (a_15, .inr (1, [.ref a_20, .ref a_21, .int i_16, .int i_17, .int i_18])), (a_20, .inl (cy 1, 2100, .inl f_3))] H → va_D A [(a_0, .inr (10, [.ref a_1, .ref a_2])), (a_1, .inr (0, [.int i_2, .int i_3, .int i_4, .int i_5, .int i_6, .int i_7, .int i_8, .int i_9, .ref a_3, .ref a_4, .ref a_5, .ref a_6, .ref a_7, .ref a_8, .ref a_9, .ref a_10, .ref a_11, .ref a_12])), (a_9, .inl (cy 1, 30, .inl f_0)), (a_2, .inl (cy 5, 3, .inr (.inr (.inr (.inr (va_up (va_up (va_up (fun _ => none) 0 (some a_13)) 1 (some a_14)) 2 (some a_15))))))), (a_13, .inr (1, [.ref a_16, .ref a_17, .int i_10, .int i_11, .int i_12])), (a_16, .inl (cy 1, 2100, .inl f_1)), (a_14, .inr (1, [.ref a_18, .ref a_19, .int i_13, .int i_14, .int i_15])), (a_18, .inl (cy 1, 2100, .inl f_2)), (a_15, .inr (1, [.ref a_20, .ref a_21, .int i_16, .int i_17, .int i_18])), (a_20, .inl (cy 1, 2100, .inl f_3))] → va_S A s.heap H locs → ∀ (ls : Array Slot), lv_has ls 5 [(4, .int x15_4_203), (3, .int v5), (0, .ref a_0), (1, .int i_0), (2, .int i_1)] → W p l e R s m args below meth c H locs 0 0 Q (F0 m 15 ls []) := by
    intro n
    induction n with
    | zero => intro x15_4_203 rx15_4_203 hm; exact absurd hm (Nat.not_lt_zero _)
    | succ n ih15 =>
      intro x15_4_203 rx15_4_203 hm15 H locs hP hD hS ls hl
      refine lv_iload hx hb dX10_firstDayUnlike_15 (lv_at hl 0 rfl) ?_
      refine lv_iload_n hx hb dX10_firstDayUnlike_17 rfl (lv_at hl 1 rfl) ?_
      refine lv_icmp_ge (tgt := 44) hx hb dX10_firstDayUnlike_18 (by decide) (fun c205 => ?_) (fun c205 => ?_)
      · refine lv_iconst (v := (-1)) hx hb dX10_firstDayUnlike_44 (by decide) ?_
        subst hAe
        rw [hQ]
        exact W.iret (v := (-1)) hx hb hr (fun t ht hW => ⟨⟨(-1), (), rfl, (mm_wk mm_km1 (by decide)), by rw [ht]; exact hP, hK.warm hW, hD⟩, hS.F ht⟩) hS.2.2 dX10_firstDayUnlike_45
      · have q206 := mm_ltL (h := 2147483646) (mm_nle c205) rx15_4_203 (mm_top v5) (by decide)
        have q207 := mm_ltR (lo := 1) (mm_nle c205) rx15_4_203 (mm_top v5) (by decide)
        refine lv_aload_n hx hb dX10_firstDayUnlike_21 rfl (lv_at hl 2 rfl) ?_
        refine lv_iload_n hx hb dX10_firstDayUnlike_22 rfl (lv_at hl 3 rfl) ?_
        refine lv_iload hx hb dX10_firstDayUnlike_23 (lv_at hl 0 rfl) ?_
        refine lv_iload_n hx hb dX10_firstDayUnlike_25 rfl (lv_at hl 4 rfl) ?_
        refine lv_iload hx hb dX10_firstDayUnlike_26 (lv_at hl 0 rfl) ?_
        refine mm_finir (va_runV (As := [.int i_0, .int x15_4_203, .int i_1, .int x15_4_203]) (rest := []) ⟨hx, hb, hml, hown, hts⟩ (K429_X10_firstUnlike l G cy H.size a_0 i_0 x15_4_203 i_1 x15_4_203 a_1 a_2 i_2 i_3 i_4 i_5 i_6 i_7 i_8 i_9 a_3 a_4 a_5 a_6 a_7 a_8 a_9 a_10 a_11 a_12 f_0 a_13 a_14 a_15 a_16 a_17 i_10 i_11 i_12 f_1 a_18 a_19 i_13 i_14 i_15 f_2 a_20 a_21 i_16 i_17 i_18 f_3 h0 (mm_wk q206 (by decide)) h1 (mm_wk q206 (by decide)) h2 h3 h4 h5 h6 h7 h8 h9) (cwV 4 hts (mm_gV mm_w1197 mm_w1162 mm_w1163 mm_w23 mm_w1164) rfl rfl rfl hd_X10_firstUnlike ⟨by rw [hRf]; exact Nat.le_of_ble_eq_true rfl, by rw [hRl]; exact Nat.le_of_ble_eq_true rfl⟩) (mm_preV hK hZ hS hA hP hD [0, 1, 2, 3, 4, 5, 6, 7, 8, 9] rfl rfl 0 rfl rfl rfl) rfl rfl hl.1 rfl (lv_room (Nat.le_of_ble_eq_true rfl)) dX10_firstDayUnlike_28 ⟨by rw [hRc]; exact Nat.le_of_ble_eq_true rfl, by rw [hRs]; exact Nat.le_of_ble_eq_true rfl⟩) hP hD hS hA [0, 1, 2, 3, 4, 5, 6, 7, 8, 9] rfl (fun _ => rfl) ?_
        clear hP hD hS
        clear H locs
        intro v208 _u H locs hw hP hD hS
        have w209 := hw
        refine lv_iconst (v := (-1)) hx hb dX10_firstDayUnlike_31 (by decide) ?_
        refine lv_icmp_eq (tgt := 38) hx hb dX10_firstDayUnlike_32 (by decide) (fun c210 => ?_) (fun c210 => ?_)
        · have q211 := mm_eqI (lo := (-1)) (hi := (-1)) c210 w209 mm_km1 (by decide)
          obtain ⟨v212, ev212⟩ : ∃ y : Int32, y = x15_4_203 + 1 := ⟨_, rfl⟩
          refine lv_iinc (v := v212) (lv' := [(4, .int v212), (3, .int v5), (0, .ref a_0), (1, .int i_0), (2, .int i_1)]) hx hb dX10_firstDayUnlike_38 hl (k := 0) rfl (by rw [ev212]; rfl) (by decide) rfl ?_
          clear hl
          clear ls
          intro ls hl
          have rv212 : mm_rg v212 1 2147483647 := mm_add ev212 q206 mm_k1 (by decide) (by decide)
          have tv212 := mm_addEc ev212 q206 mm_k1 (by decide) (k := 1) (by decide)
          refine lv_goto (tgt := 15) hx hb dX10_firstDayUnlike_41 (by decide) ?_
          exact ih15 v212 (mm_wk rv212 (by decide)) (mm_mu hm15 tv212 (by decide) (rv212).2 (by decide)) H locs hP hD hS ls (lv_sub hl [0, 1, 2, 3, 4] rfl)
        · have q213 := mm_neL (lo := 0) (mm_ne c210) w209 mm_km1 (by decide) (by decide)
          refine lv_iload hx hb dX10_firstDayUnlike_35 (lv_at hl 0 rfl) ?_
          subst hAe
          rw [hQ]
          exact W.iret (v := x15_4_203) hx hb hr (fun t ht hW => ⟨⟨x15_4_203, (), rfl, (mm_wk q206 (by decide)), by rw [ht]; exact hP, hK.warm hW, hD⟩, hS.F ht⟩) hS.2.2 dX10_firstDayUnlike_37
  exact L15_203 _ 0 (mm_wk mm_k0 (by decide)) (Nat.lt_succ_self _) H locs hP hD hS ls (lv_sub hl [0, 1, 2, 3, 4] rfl)

set_option maxHeartbeats 4000000 in
set_option maxRecDepth 100000 in
theorem K434_X11_differ (l : Launch) (G : va_G) (cy : Nat → ClassId) (sz : Nat) (a_0 : Nat) (i_0 : Int32) (i_1 : Int32) (a_1 : Nat) (a_2 : Nat) (a_3 : Nat) (a_4 : Nat) (a_5 : Nat) (a_6 : Nat) (a_7 : Nat) (a_8 : Nat) (a_9 : Nat) (a_10 : Nat) (a_11 : Nat) (a_12 : Nat) (a_13 : Nat) (i_2 : Int32) (i_3 : Int32) (i_4 : Int32) (i_5 : Int32) (i_6 : Int32) (i_7 : Int32) (i_8 : Int32) (i_9 : Int32) (a_14 : Nat) (a_15 : Nat) (a_16 : Nat) (a_17 : Nat) (a_18 : Nat) (a_19 : Nat) (a_20 : Nat) (a_21 : Nat) (a_22 : Nat) (a_23 : Nat) (f_0 : Nat → Int32) (a_24 : Nat) (a_25 : Nat) (a_26 : Nat) (a_27 : Nat) (a_28 : Nat) (i_10 : Int32) (i_11 : Int32) (i_12 : Int32) (f_1 : Nat → Int32) (a_29 : Nat) (a_30 : Nat) (i_13 : Int32) (i_14 : Int32) (i_15 : Int32) (f_2 : Nat → Int32) (a_31 : Nat) (a_32 : Nat) (i_16 : Int32) (i_17 : Int32) (i_18 : Int32) (f_3 : Nat → Int32) (h0 : mm_rg i_6 0 9) (h1 : mm_rg i_7 0 3) (h2 : mm_ar f_0 0 9) (h3 : mm_rg i_12 (-2147483648) 210) (h4 : mm_ar f_1 0 9) (h5 : mm_rg i_15 (-2147483648) 210) (h6 : mm_ar f_2 0 9) (h7 : mm_rg i_18 (-2147483648) 210) (h8 : mm_ar f_3 0 9)  : mm_CI l yX11_differ (mm_ws yX11_differ cX11_differ 3 (some .int)) ({ frames := 4, cells := 0, slots := 0, locals := 94 } : Room) G cy sz [(a_0, .inr (11, [.ref a_1, .ref a_2, .ref a_3, .ref a_4, .ref a_5, .ref a_6, .ref a_7, .ref a_8, .ref a_9, .ref a_10, .ref a_11])), (a_3, .inr (10, [.ref a_12, .ref a_13])), (a_12, .inr (0, [.int i_2, .int i_3, .int i_4, .int i_5, .int i_6, .int i_7, .int i_8, .int i_9, .ref a_14, .ref a_15, .ref a_16, .ref a_17, .ref a_18, .ref a_19, .ref a_20, .ref a_21, .ref a_22, .ref a_23])), (a_20, .inl (cy 1, 30, .inl f_0)), (a_13, .inl (cy 5, 3, .inr (.inr (.inr (.inr (va_up (va_up (va_up (fun _ => none) 0 (some a_24)) 1 (some a_25)) 2 (some a_26))))))), (a_24, .inr (1, [.ref a_27, .ref a_28, .int i_10, .int i_11, .int i_12])), (a_27, .inl (cy 1, 2100, .inl f_1)), (a_25, .inr (1, [.ref a_29, .ref a_30, .int i_13, .int i_14, .int i_15])), (a_29, .inl (cy 1, 2100, .inl f_2)), (a_26, .inr (1, [.ref a_31, .ref a_32, .int i_16, .int i_17, .int i_18])), (a_31, .inl (cy 1, 2100, .inl f_3))] [.ref a_0, .int i_0, .int i_1] (fun u : Unit => [(a_0, .inr (11, [.ref a_1, .ref a_2, .ref a_3, .ref a_4, .ref a_5, .ref a_6, .ref a_7, .ref a_8, .ref a_9, .ref a_10, .ref a_11])), (a_3, .inr (10, [.ref a_12, .ref a_13])), (a_12, .inr (0, [.int i_2, .int i_3, .int i_4, .int i_5, .int i_6, .int i_7, .int i_8, .int i_9, .ref a_14, .ref a_15, .ref a_16, .ref a_17, .ref a_18, .ref a_19, .ref a_20, .ref a_21, .ref a_22, .ref a_23])), (a_20, .inl (cy 1, 30, .inl f_0)), (a_13, .inl (cy 5, 3, .inr (.inr (.inr (.inr (va_up (va_up (va_up (fun _ => none) 0 (some a_24)) 1 (some a_25)) 2 (some a_26))))))), (a_24, .inr (1, [.ref a_27, .ref a_28, .int i_10, .int i_11, .int i_12])), (a_27, .inl (cy 1, 2100, .inl f_1)), (a_25, .inr (1, [.ref a_29, .ref a_30, .int i_13, .int i_14, .int i_15])), (a_29, .inl (cy 1, 2100, .inl f_2)), (a_26, .inr (1, [.ref a_31, .ref a_32, .int i_16, .int i_17, .int i_18])), (a_31, .inl (cy 1, 2100, .inl f_3))]) (fun (r : Int32) (u : Unit) => mm_rg r (-2) 2147483646) 0 0 := by
  refine mm_begin (lv := [(0, .ref a_0), (1, .int i_0), (2, .int i_1)]) (by decide) (Nat.le_of_ble_eq_true rfl) rfl ?_
  intro p e s m below meth c A ls R args Q H locs hRe hQ hAe hx hb hr hlocks hml hown hnm hts hsz hA hS hP hK hD hZ hl
  have hRf : R.frames = 4 := by rw [hRe]
  have hRl : R.locals = 94 := by rw [hRe]
  have hRc : R.cells = 0 := by rw [hRe]
  have hRs : R.slots = 0 := by rw [hRe]
  refine lv_aload_n hx hb dX11_differ_0 rfl (lv_at hl 0 rfl) ?_
  refine lv_iload_n hx hb dX11_differ_1 rfl (lv_at hl 1 rfl) ?_
  refine mm_finir (va_runV (As := [.int i_0]) (rest := []) ⟨hx, hb, hml, hown, hts⟩ (K350_X11_isLand l G cy H.size a_0 i_0 a_1 a_2 a_3 a_4 a_5 a_6 a_7 a_8 a_9 a_10 a_11 a_12 a_13 i_2 i_3 i_4 i_5 i_6 i_7 i_8 i_9 a_14 a_15 a_16 a_17 a_18 a_19 a_20 a_21 a_22 a_23 h1) (cwV 1 hts (mm_gV mm_w626 mm_w627 mm_w628 mm_w2 mm_w629) rfl rfl rfl hd_X11_isLand ⟨by rw [hRf]; exact Nat.le_of_ble_eq_true rfl, by rw [hRl]; exact Nat.le_of_ble_eq_true rfl⟩) (mm_preV hK hZ hS hA hP hD [0, 1, 2] rfl rfl 0 rfl rfl rfl) rfl rfl hl.1 rfl (lv_room (Nat.le_of_ble_eq_true rfl)) dX11_differ_2 ⟨by rw [hRc]; exact Nat.le_of_ble_eq_true rfl, by rw [hRs]; exact Nat.le_of_ble_eq_true rfl⟩) hP hD hS hA [0, 1, 2] rfl (fun _ => rfl) ?_
  clear hP hD hS
  clear H locs
  intro v1 _u H locs hw hP hD hS
  rcases hw with ⟨rfl, w2⟩ | ⟨rfl, w3⟩
  · refine lv_if_eq (tgt := 16) hx hb dX11_differ_5 (by decide) (fun c4 => ?_) (fun c4 => ?_)
    · refine lv_bipush (v := (-2)) hx hb dX11_differ_16 (by decide) ?_
      subst hAe
      rw [hQ]
      exact W.iret (v := (-2)) hx hb hr (fun t ht hW => ⟨⟨(-2), (), rfl, (mm_wk mm_km2 (by decide)), by rw [ht]; exact hP, hK.warm hW, hD⟩, hS.F ht⟩) hS.2.2 dX11_differ_18
    · have q5 := mm_neL (lo := 1) (mm_ne c4) mm_k0 mm_k0 (by decide) (by decide)
      exact mm_no q5 (by decide)
  · refine lv_if_eq (tgt := 16) hx hb dX11_differ_5 (by decide) (fun c6 => ?_) (fun c6 => ?_)
    · exact mm_eqN c6.symm mm_k0 mm_k1 (by decide)
    · refine lv_aload_n hx hb dX11_differ_8 rfl (lv_at hl 0 rfl) ?_
      refine lv_iload_n hx hb dX11_differ_9 rfl (lv_at hl 2 rfl) ?_
      refine mm_finir (va_runV (As := [.int i_1]) (rest := []) ⟨hx, hb, hml, hown, hts⟩ (K350_X11_isLand l G cy H.size a_0 i_1 a_1 a_2 a_3 a_4 a_5 a_6 a_7 a_8 a_9 a_10 a_11 a_12 a_13 i_2 i_3 i_4 i_5 i_6 i_7 i_8 i_9 a_14 a_15 a_16 a_17 a_18 a_19 a_20 a_21 a_22 a_23 h1) (cwV 1 hts (mm_gV mm_w626 mm_w627 mm_w628 mm_w2 mm_w629) rfl rfl rfl hd_X11_isLand ⟨by rw [hRf]; exact Nat.le_of_ble_eq_true rfl, by rw [hRl]; exact Nat.le_of_ble_eq_true rfl⟩) (mm_preV hK hZ hS hA hP hD [0, 1, 2] rfl rfl 0 rfl rfl rfl) rfl rfl hl.1 rfl (lv_room (Nat.le_of_ble_eq_true rfl)) dX11_differ_10 ⟨by rw [hRc]; exact Nat.le_of_ble_eq_true rfl, by rw [hRs]; exact Nat.le_of_ble_eq_true rfl⟩) hP hD hS hA [0, 1, 2] rfl (fun _ => rfl) ?_
      clear hP hD hS
      clear H locs
      intro v7 _u H locs hw hP hD hS
      rcases hw with ⟨rfl, w8⟩ | ⟨rfl, w9⟩
      · refine lv_if_ne (tgt := 19) hx hb dX11_differ_13 (by decide) (fun c10 => ?_) (fun c10 => ?_)
        · have q11 := mm_neL (lo := 1) (mm_ne c10) mm_k0 mm_k0 (by decide) (by decide)
          exact mm_no q11 (by decide)
        · refine lv_bipush (v := (-2)) hx hb dX11_differ_16 (by decide) ?_
          subst hAe
          rw [hQ]
          exact W.iret (v := (-2)) hx hb hr (fun t ht hW => ⟨⟨(-2), (), rfl, (mm_wk mm_km2 (by decide)), by rw [ht]; exact hP, hK.warm hW, hD⟩, hS.F ht⟩) hS.2.2 dX11_differ_18
      · refine lv_if_ne (tgt := 19) hx hb dX11_differ_13 (by decide) (fun c12 => ?_) (fun c12 => ?_)
        · refine lv_aload_n hx hb dX11_differ_19 rfl (lv_at hl 0 rfl) ?_
          refine va_get (D := G) (ci := 11) (v := .ref a_3) (C := RX11) (T := TX11) (N := 11) hx hb hts (mm_i inlX11) hown hK.1 hP 0 rfl rfl 2 (by decide) (mm_h hts mm_w24) (fun _ h9 => h9) rfl dX11_differ_20 ?_
          refine lv_iload_n hx hb dX11_differ_23 rfl (lv_at hl 1 rfl) ?_
          refine lv_iload_n hx hb dX11_differ_24 rfl (lv_at hl 2 rfl) ?_
          refine mm_finir (va_runV (As := [.int i_0, .int i_1]) (rest := []) ⟨hx, hb, hml, hown, hts⟩ (K433_X10_firstDayUnlike l G cy H.size a_3 i_0 i_1 a_12 a_13 i_2 i_3 i_4 i_5 i_6 i_7 i_8 i_9 a_14 a_15 a_16 a_17 a_18 a_19 a_20 a_21 a_22 a_23 f_0 a_24 a_25 a_26 a_27 a_28 i_10 i_11 i_12 f_1 a_29 a_30 i_13 i_14 i_15 f_2 a_31 a_32 i_16 i_17 i_18 f_3 w3 w9 h0 h2 h3 h4 h5 h6 h7 h8) (cwV 2 hts (mm_gV mm_w1193 mm_w1194 mm_w1195 mm_w23 mm_w1196) rfl rfl rfl hd_X10_firstDayUnlike ⟨by rw [hRf]; exact Nat.le_of_ble_eq_true rfl, by rw [hRl]; exact Nat.le_of_ble_eq_true rfl⟩) (mm_preV hK hZ hS hA hP hD [1, 2, 3, 4, 5, 6, 7, 8, 9, 10] rfl rfl 1 rfl rfl rfl) rfl rfl hl.1 rfl (lv_room (Nat.le_of_ble_eq_true rfl)) dX11_differ_25 ⟨by rw [hRc]; exact Nat.le_of_ble_eq_true rfl, by rw [hRs]; exact Nat.le_of_ble_eq_true rfl⟩) hP hD hS hA [1, 2, 3, 4, 5, 6, 7, 8, 9, 10] rfl (fun _ => rfl) ?_
          clear hP hD hS
          clear H locs
          intro v13 _u H locs hw hP hD hS
          have w14 := hw
          subst hAe
          rw [hQ]
          exact W.iret (v := v13) hx hb hr (fun t ht hW => ⟨⟨v13, (), rfl, (mm_wk w14 (by decide)), by rw [ht]; exact hP, hK.warm hW, hD⟩, hS.F ht⟩) hS.2.2 dX11_differ_28
        · exact mm_eqN c12.symm mm_k0 mm_k1 (by decide)

set_option maxHeartbeats 4000000 in
set_option maxRecDepth 100000 in
theorem K435_X11_differs (l : Launch) (G : va_G) (cy : Nat → ClassId) (sz : Nat) (a_0 : Nat) (i_0 : Int32) (i_1 : Int32) (a_1 : Nat) (a_2 : Nat) (a_3 : Nat) (a_4 : Nat) (a_5 : Nat) (a_6 : Nat) (a_7 : Nat) (a_8 : Nat) (a_9 : Nat) (a_10 : Nat) (a_11 : Nat) (a_12 : Nat) (a_13 : Nat) (i_2 : Int32) (i_3 : Int32) (i_4 : Int32) (i_5 : Int32) (i_6 : Int32) (i_7 : Int32) (i_8 : Int32) (i_9 : Int32) (a_14 : Nat) (a_15 : Nat) (a_16 : Nat) (a_17 : Nat) (a_18 : Nat) (a_19 : Nat) (a_20 : Nat) (a_21 : Nat) (a_22 : Nat) (a_23 : Nat) (f_0 : Nat → Int32) (a_24 : Nat) (a_25 : Nat) (a_26 : Nat) (a_27 : Nat) (a_28 : Nat) (i_10 : Int32) (i_11 : Int32) (i_12 : Int32) (f_1 : Nat → Int32) (a_29 : Nat) (a_30 : Nat) (i_13 : Int32) (i_14 : Int32) (i_15 : Int32) (f_2 : Nat → Int32) (a_31 : Nat) (a_32 : Nat) (i_16 : Int32) (i_17 : Int32) (i_18 : Int32) (f_3 : Nat → Int32) (h0 : mm_rg i_6 0 9) (h1 : mm_rg i_7 0 3) (h2 : mm_ar f_0 0 9) (h3 : mm_rg i_12 (-2147483648) 210) (h4 : mm_ar f_1 0 9) (h5 : mm_rg i_15 (-2147483648) 210) (h6 : mm_ar f_2 0 9) (h7 : mm_rg i_18 (-2147483648) 210) (h8 : mm_ar f_3 0 9)  : mm_CI l yX11_differs (mm_ws yX11_differs cX11_differs 4 (some .int)) ({ frames := 4, cells := 0, slots := 0, locals := 94 } : Room) G cy sz [(a_0, .inr (11, [.ref a_1, .ref a_2, .ref a_3, .ref a_4, .ref a_5, .ref a_6, .ref a_7, .ref a_8, .ref a_9, .ref a_10, .ref a_11])), (a_3, .inr (10, [.ref a_12, .ref a_13])), (a_12, .inr (0, [.int i_2, .int i_3, .int i_4, .int i_5, .int i_6, .int i_7, .int i_8, .int i_9, .ref a_14, .ref a_15, .ref a_16, .ref a_17, .ref a_18, .ref a_19, .ref a_20, .ref a_21, .ref a_22, .ref a_23])), (a_20, .inl (cy 1, 30, .inl f_0)), (a_13, .inl (cy 5, 3, .inr (.inr (.inr (.inr (va_up (va_up (va_up (fun _ => none) 0 (some a_24)) 1 (some a_25)) 2 (some a_26))))))), (a_24, .inr (1, [.ref a_27, .ref a_28, .int i_10, .int i_11, .int i_12])), (a_27, .inl (cy 1, 2100, .inl f_1)), (a_25, .inr (1, [.ref a_29, .ref a_30, .int i_13, .int i_14, .int i_15])), (a_29, .inl (cy 1, 2100, .inl f_2)), (a_26, .inr (1, [.ref a_31, .ref a_32, .int i_16, .int i_17, .int i_18])), (a_31, .inl (cy 1, 2100, .inl f_3))] [.ref a_0, .int i_0, .int i_1] (fun u : Unit => [(a_0, .inr (11, [.ref a_1, .ref a_2, .ref a_3, .ref a_4, .ref a_5, .ref a_6, .ref a_7, .ref a_8, .ref a_9, .ref a_10, .ref a_11])), (a_3, .inr (10, [.ref a_12, .ref a_13])), (a_12, .inr (0, [.int i_2, .int i_3, .int i_4, .int i_5, .int i_6, .int i_7, .int i_8, .int i_9, .ref a_14, .ref a_15, .ref a_16, .ref a_17, .ref a_18, .ref a_19, .ref a_20, .ref a_21, .ref a_22, .ref a_23])), (a_20, .inl (cy 1, 30, .inl f_0)), (a_13, .inl (cy 5, 3, .inr (.inr (.inr (.inr (va_up (va_up (va_up (fun _ => none) 0 (some a_24)) 1 (some a_25)) 2 (some a_26))))))), (a_24, .inr (1, [.ref a_27, .ref a_28, .int i_10, .int i_11, .int i_12])), (a_27, .inl (cy 1, 2100, .inl f_1)), (a_25, .inr (1, [.ref a_29, .ref a_30, .int i_13, .int i_14, .int i_15])), (a_29, .inl (cy 1, 2100, .inl f_2)), (a_26, .inr (1, [.ref a_31, .ref a_32, .int i_16, .int i_17, .int i_18])), (a_31, .inl (cy 1, 2100, .inl f_3))]) (fun (r : Int32) (u : Unit) => mm_rg r (-2) 9) 0 0 := by
  refine mm_begin (lv := [(0, .ref a_0), (1, .int i_0), (2, .int i_1)]) (by decide) (Nat.le_of_ble_eq_true rfl) rfl ?_
  intro p e s m below meth c A ls R args Q H locs hRe hQ hAe hx hb hr hlocks hml hown hnm hts hsz hA hS hP hK hD hZ hl
  have hRf : R.frames = 4 := by rw [hRe]
  have hRl : R.locals = 94 := by rw [hRe]
  have hRc : R.cells = 0 := by rw [hRe]
  have hRs : R.slots = 0 := by rw [hRe]
  refine lv_aload_n hx hb dX11_differs_0 rfl (lv_at hl 0 rfl) ?_
  refine lv_iload_n hx hb dX11_differs_1 rfl (lv_at hl 1 rfl) ?_
  refine mm_finir (va_runV (As := [.int i_0]) (rest := []) ⟨hx, hb, hml, hown, hts⟩ (K350_X11_isLand l G cy H.size a_0 i_0 a_1 a_2 a_3 a_4 a_5 a_6 a_7 a_8 a_9 a_10 a_11 a_12 a_13 i_2 i_3 i_4 i_5 i_6 i_7 i_8 i_9 a_14 a_15 a_16 a_17 a_18 a_19 a_20 a_21 a_22 a_23 h1) (cwV 1 hts (mm_gV mm_w626 mm_w627 mm_w628 mm_w2 mm_w629) rfl rfl rfl hd_X11_isLand ⟨by rw [hRf]; exact Nat.le_of_ble_eq_true rfl, by rw [hRl]; exact Nat.le_of_ble_eq_true rfl⟩) (mm_preV hK hZ hS hA hP hD [0, 1, 2] rfl rfl 0 rfl rfl rfl) rfl rfl hl.1 rfl (lv_room (Nat.le_of_ble_eq_true rfl)) dX11_differs_2 ⟨by rw [hRc]; exact Nat.le_of_ble_eq_true rfl, by rw [hRs]; exact Nat.le_of_ble_eq_true rfl⟩) hP hD hS hA [0, 1, 2] rfl (fun _ => rfl) ?_
  clear hP hD hS
  clear H locs
  intro v1 _u H locs hw hP hD hS
  rcases hw with ⟨rfl, w2⟩ | ⟨rfl, w3⟩
  · refine lv_if_eq (tgt := 16) hx hb dX11_differs_5 (by decide) (fun c4 => ?_) (fun c4 => ?_)
    · refine lv_bipush (v := (-2)) hx hb dX11_differs_16 (by decide) ?_
      subst hAe
      rw [hQ]
      exact W.iret (v := (-2)) hx hb hr (fun t ht hW => ⟨⟨(-2), (), rfl, (mm_wk mm_km2 (by decide)), by rw [ht]; exact hP, hK.warm hW, hD⟩, hS.F ht⟩) hS.2.2 dX11_differs_18
    · have q5 := mm_neL (lo := 1) (mm_ne c4) mm_k0 mm_k0 (by decide) (by decide)
      exact mm_no q5 (by decide)
  · refine lv_if_eq (tgt := 16) hx hb dX11_differs_5 (by decide) (fun c6 => ?_) (fun c6 => ?_)
    · exact mm_eqN c6.symm mm_k0 mm_k1 (by decide)
    · refine lv_aload_n hx hb dX11_differs_8 rfl (lv_at hl 0 rfl) ?_
      refine lv_iload_n hx hb dX11_differs_9 rfl (lv_at hl 2 rfl) ?_
      refine mm_finir (va_runV (As := [.int i_1]) (rest := []) ⟨hx, hb, hml, hown, hts⟩ (K350_X11_isLand l G cy H.size a_0 i_1 a_1 a_2 a_3 a_4 a_5 a_6 a_7 a_8 a_9 a_10 a_11 a_12 a_13 i_2 i_3 i_4 i_5 i_6 i_7 i_8 i_9 a_14 a_15 a_16 a_17 a_18 a_19 a_20 a_21 a_22 a_23 h1) (cwV 1 hts (mm_gV mm_w626 mm_w627 mm_w628 mm_w2 mm_w629) rfl rfl rfl hd_X11_isLand ⟨by rw [hRf]; exact Nat.le_of_ble_eq_true rfl, by rw [hRl]; exact Nat.le_of_ble_eq_true rfl⟩) (mm_preV hK hZ hS hA hP hD [0, 1, 2] rfl rfl 0 rfl rfl rfl) rfl rfl hl.1 rfl (lv_room (Nat.le_of_ble_eq_true rfl)) dX11_differs_10 ⟨by rw [hRc]; exact Nat.le_of_ble_eq_true rfl, by rw [hRs]; exact Nat.le_of_ble_eq_true rfl⟩) hP hD hS hA [0, 1, 2] rfl (fun _ => rfl) ?_
      clear hP hD hS
      clear H locs
      intro v7 _u H locs hw hP hD hS
      rcases hw with ⟨rfl, w8⟩ | ⟨rfl, w9⟩
      · refine lv_if_ne (tgt := 19) hx hb dX11_differs_13 (by decide) (fun c10 => ?_) (fun c10 => ?_)
        · have q11 := mm_neL (lo := 1) (mm_ne c10) mm_k0 mm_k0 (by decide) (by decide)
          exact mm_no q11 (by decide)
        · refine lv_bipush (v := (-2)) hx hb dX11_differs_16 (by decide) ?_
          subst hAe
          rw [hQ]
          exact W.iret (v := (-2)) hx hb hr (fun t ht hW => ⟨⟨(-2), (), rfl, (mm_wk mm_km2 (by decide)), by rw [ht]; exact hP, hK.warm hW, hD⟩, hS.F ht⟩) hS.2.2 dX11_differs_18
      · refine lv_if_ne (tgt := 19) hx hb dX11_differs_13 (by decide) (fun c12 => ?_) (fun c12 => ?_)
        · refine lv_aload_n hx hb dX11_differs_19 rfl (lv_at hl 0 rfl) ?_
          refine va_get (D := G) (ci := 11) (v := .ref a_3) (C := RX11) (T := TX11) (N := 11) hx hb hts (mm_i inlX11) hown hK.1 hP 0 rfl rfl 2 (by decide) (mm_h hts mm_w24) (fun _ h9 => h9) rfl dX11_differs_20 ?_
          refine lv_iload_n hx hb dX11_differs_23 rfl (lv_at hl 1 rfl) ?_
          refine lv_iload_n hx hb dX11_differs_24 rfl (lv_at hl 2 rfl) ?_
          refine mm_finir (va_runV (As := [.int i_0, .int i_1]) (rest := []) ⟨hx, hb, hml, hown, hts⟩ (K433_X10_firstDayUnlike l G cy H.size a_3 i_0 i_1 a_12 a_13 i_2 i_3 i_4 i_5 i_6 i_7 i_8 i_9 a_14 a_15 a_16 a_17 a_18 a_19 a_20 a_21 a_22 a_23 f_0 a_24 a_25 a_26 a_27 a_28 i_10 i_11 i_12 f_1 a_29 a_30 i_13 i_14 i_15 f_2 a_31 a_32 i_16 i_17 i_18 f_3 w3 w9 h0 h2 h3 h4 h5 h6 h7 h8) (cwV 2 hts (mm_gV mm_w1193 mm_w1194 mm_w1195 mm_w23 mm_w1196) rfl rfl rfl hd_X10_firstDayUnlike ⟨by rw [hRf]; exact Nat.le_of_ble_eq_true rfl, by rw [hRl]; exact Nat.le_of_ble_eq_true rfl⟩) (mm_preV hK hZ hS hA hP hD [1, 2, 3, 4, 5, 6, 7, 8, 9, 10] rfl rfl 1 rfl rfl rfl) rfl rfl hl.1 rfl (lv_room (Nat.le_of_ble_eq_true rfl)) dX11_differs_25 ⟨by rw [hRc]; exact Nat.le_of_ble_eq_true rfl, by rw [hRs]; exact Nat.le_of_ble_eq_true rfl⟩) hP hD hS hA [1, 2, 3, 4, 5, 6, 7, 8, 9, 10] rfl (fun _ => rfl) ?_
          clear hP hD hS
          clear H locs
          intro v13 _u H locs hw hP hD hS
          have w14 := hw
          refine lv_istore_n (lv' := [(3, .int v13), (0, .ref a_0), (1, .int i_0), (2, .int i_1)]) hx hb dX11_differs_28 rfl hl (by decide) rfl ?_
          clear hl
          clear ls
          intro ls hl
          refine lv_iload_n hx hb dX11_differs_29 rfl (lv_at hl 0 rfl) ?_
          refine lv_iconst (v := (-1)) hx hb dX11_differs_30 (by decide) ?_
          refine lv_icmp_ne (tgt := 38) hx hb dX11_differs_31 (by decide) (fun c15 => ?_) (fun c15 => ?_)
          · have q16 := mm_neL (lo := 0) (mm_ne c15) w14 mm_km1 (by decide) (by decide)
            refine lv_aload_n hx hb dX11_differs_38 rfl (lv_at hl 1 rfl) ?_
            refine va_get (D := G) (ci := 11) (v := .ref a_3) (C := RX11) (T := TX11) (N := 11) hx hb hts (mm_i inlX11) hown hK.1 hP 0 rfl rfl 2 (by decide) (mm_h hts mm_w24) (fun _ h9 => h9) rfl dX11_differs_39 ?_
            refine lv_iload_n hx hb dX11_differs_42 rfl (lv_at hl 2 rfl) ?_
            refine lv_iload_n hx hb dX11_differs_43 rfl (lv_at hl 0 rfl) ?_
            refine lv_iload_n hx hb dX11_differs_44 rfl (lv_at hl 3 rfl) ?_
            refine lv_iload_n hx hb dX11_differs_45 rfl (lv_at hl 0 rfl) ?_
            refine mm_finir (va_runV (As := [.int i_0, .int v13, .int i_1, .int v13]) (rest := []) ⟨hx, hb, hml, hown, hts⟩ (K429_X10_firstUnlike l G cy H.size a_3 i_0 v13 i_1 v13 a_12 a_13 i_2 i_3 i_4 i_5 i_6 i_7 i_8 i_9 a_14 a_15 a_16 a_17 a_18 a_19 a_20 a_21 a_22 a_23 f_0 a_24 a_25 a_26 a_27 a_28 i_10 i_11 i_12 f_1 a_29 a_30 i_13 i_14 i_15 f_2 a_31 a_32 i_16 i_17 i_18 f_3 w3 (mm_wk q16 (by decide)) w9 (mm_wk q16 (by decide)) h0 h2 h3 h4 h5 h6 h7 h8) (cwV 4 hts (mm_gV mm_w1161 mm_w1162 mm_w1163 mm_w23 mm_w1164) rfl rfl rfl hd_X10_firstUnlike ⟨by rw [hRf]; exact Nat.le_of_ble_eq_true rfl, by rw [hRl]; exact Nat.le_of_ble_eq_true rfl⟩) (mm_preV hK hZ hS hA hP hD [1, 2, 3, 4, 5, 6, 7, 8, 9, 10] rfl rfl 1 rfl rfl rfl) rfl rfl hl.1 rfl (lv_room (Nat.le_of_ble_eq_true rfl)) dX11_differs_46 ⟨by rw [hRc]; exact Nat.le_of_ble_eq_true rfl, by rw [hRs]; exact Nat.le_of_ble_eq_true rfl⟩) hP hD hS hA [1, 2, 3, 4, 5, 6, 7, 8, 9, 10] rfl (fun _ => rfl) ?_
            clear hP hD hS
            clear H locs
            intro v17 _u H locs hw hP hD hS
            have w18 := hw
            subst hAe
            rw [hQ]
            exact W.iret (v := v17) hx hb hr (fun t ht hW => ⟨⟨v17, (), rfl, (mm_wk w18 (by decide)), by rw [ht]; exact hP, hK.warm hW, hD⟩, hS.F ht⟩) hS.2.2 dX11_differs_49
          · have q19 := mm_eqI (lo := (-1)) (hi := (-1)) c15 w14 mm_km1 (by decide)
            refine lv_iconst (v := (-1)) hx hb dX11_differs_34 (by decide) ?_
            refine lv_goto (tgt := 49) hx hb dX11_differs_35 (by decide) ?_
            subst hAe
            rw [hQ]
            exact W.iret (v := (-1)) hx hb hr (fun t ht hW => ⟨⟨(-1), (), rfl, (mm_wk mm_km1 (by decide)), by rw [ht]; exact hP, hK.warm hW, hD⟩, hS.F ht⟩) hS.2.2 dX11_differs_49
        · exact mm_eqN c12.symm mm_k0 mm_k1 (by decide)

set_option maxHeartbeats 4000000 in
set_option maxRecDepth 100000 in
theorem K436_X11_alike (l : Launch) (G : va_G) (cy : Nat → ClassId) (sz : Nat) (a_0 : Nat) (i_0 : Int32) (i_1 : Int32) (i_2 : Int32) (a_1 : Nat) (a_2 : Nat) (a_3 : Nat) (a_4 : Nat) (a_5 : Nat) (a_6 : Nat) (a_7 : Nat) (a_8 : Nat) (a_9 : Nat) (a_10 : Nat) (a_11 : Nat) (a_12 : Nat) (a_13 : Nat) (i_3 : Int32) (i_4 : Int32) (i_5 : Int32) (i_6 : Int32) (i_7 : Int32) (i_8 : Int32) (i_9 : Int32) (i_10 : Int32) (a_14 : Nat) (a_15 : Nat) (a_16 : Nat) (a_17 : Nat) (a_18 : Nat) (a_19 : Nat) (a_20 : Nat) (a_21 : Nat) (a_22 : Nat) (a_23 : Nat) (f_0 : Nat → Int32) (a_24 : Nat) (a_25 : Nat) (a_26 : Nat) (a_27 : Nat) (a_28 : Nat) (i_11 : Int32) (i_12 : Int32) (i_13 : Int32) (f_1 : Nat → Int32) (a_29 : Nat) (a_30 : Nat) (i_14 : Int32) (i_15 : Int32) (i_16 : Int32) (f_2 : Nat → Int32) (a_31 : Nat) (a_32 : Nat) (i_17 : Int32) (i_18 : Int32) (i_19 : Int32) (f_3 : Nat → Int32) (h0 : mm_rg i_7 0 9) (h1 : mm_rg i_8 0 3) (h2 : mm_ar f_0 0 9) (h3 : mm_rg i_13 (-2147483648) 210) (h4 : mm_ar f_1 0 9) (h5 : mm_rg i_16 (-2147483648) 210) (h6 : mm_ar f_2 0 9) (h7 : mm_rg i_19 (-2147483648) 210) (h8 : mm_ar f_3 0 9)  : mm_CI l yX11_alike (mm_ws yX11_alike cX11_alike 7 (some .int)) ({ frames := 3, cells := 0, slots := 0, locals := 70 } : Room) G cy sz [(a_0, .inr (11, [.ref a_1, .ref a_2, .ref a_3, .ref a_4, .ref a_5, .ref a_6, .ref a_7, .ref a_8, .ref a_9, .ref a_10, .ref a_11])), (a_3, .inr (10, [.ref a_12, .ref a_13])), (a_12, .inr (0, [.int i_3, .int i_4, .int i_5, .int i_6, .int i_7, .int i_8, .int i_9, .int i_10, .ref a_14, .ref a_15, .ref a_16, .ref a_17, .ref a_18, .ref a_19, .ref a_20, .ref a_21, .ref a_22, .ref a_23])), (a_20, .inl (cy 1, 30, .inl f_0)), (a_13, .inl (cy 5, 3, .inr (.inr (.inr (.inr (va_up (va_up (va_up (fun _ => none) 0 (some a_24)) 1 (some a_25)) 2 (some a_26))))))), (a_24, .inr (1, [.ref a_27, .ref a_28, .int i_11, .int i_12, .int i_13])), (a_27, .inl (cy 1, 2100, .inl f_1)), (a_25, .inr (1, [.ref a_29, .ref a_30, .int i_14, .int i_15, .int i_16])), (a_29, .inl (cy 1, 2100, .inl f_2)), (a_26, .inr (1, [.ref a_31, .ref a_32, .int i_17, .int i_18, .int i_19])), (a_31, .inl (cy 1, 2100, .inl f_3))] [.ref a_0, .int i_0, .int i_1, .int i_2] (fun u : Unit => [(a_0, .inr (11, [.ref a_1, .ref a_2, .ref a_3, .ref a_4, .ref a_5, .ref a_6, .ref a_7, .ref a_8, .ref a_9, .ref a_10, .ref a_11])), (a_3, .inr (10, [.ref a_12, .ref a_13])), (a_12, .inr (0, [.int i_3, .int i_4, .int i_5, .int i_6, .int i_7, .int i_8, .int i_9, .int i_10, .ref a_14, .ref a_15, .ref a_16, .ref a_17, .ref a_18, .ref a_19, .ref a_20, .ref a_21, .ref a_22, .ref a_23])), (a_20, .inl (cy 1, 30, .inl f_0)), (a_13, .inl (cy 5, 3, .inr (.inr (.inr (.inr (va_up (va_up (va_up (fun _ => none) 0 (some a_24)) 1 (some a_25)) 2 (some a_26))))))), (a_24, .inr (1, [.ref a_27, .ref a_28, .int i_11, .int i_12, .int i_13])), (a_27, .inl (cy 1, 2100, .inl f_1)), (a_25, .inr (1, [.ref a_29, .ref a_30, .int i_14, .int i_15, .int i_16])), (a_29, .inl (cy 1, 2100, .inl f_2)), (a_26, .inr (1, [.ref a_31, .ref a_32, .int i_17, .int i_18, .int i_19])), (a_31, .inl (cy 1, 2100, .inl f_3))]) (fun (r : Int32) (u : Unit) => True) 0 0 := by
  refine mm_begin (lv := [(0, .ref a_0), (1, .int i_0), (2, .int i_1), (3, .int i_2)]) (by decide) (Nat.le_of_ble_eq_true rfl) rfl ?_
  intro p e s m below meth c A ls R args Q H locs hRe hQ hAe hx hb hr hlocks hml hown hnm hts hsz hA hS hP hK hD hZ hl
  have hRf : R.frames = 3 := by rw [hRe]
  have hRl : R.locals = 70 := by rw [hRe]
  have hRc : R.cells = 0 := by rw [hRe]
  have hRs : R.slots = 0 := by rw [hRe]
  refine lv_aload_n hx hb dX11_alike_0 rfl (lv_at hl 0 rfl) ?_
  refine lv_iload_n hx hb dX11_alike_1 rfl (lv_at hl 1 rfl) ?_
  refine mm_finir (va_runV (As := [.int i_0]) (rest := []) ⟨hx, hb, hml, hown, hts⟩ (K350_X11_isLand l G cy H.size a_0 i_0 a_1 a_2 a_3 a_4 a_5 a_6 a_7 a_8 a_9 a_10 a_11 a_12 a_13 i_3 i_4 i_5 i_6 i_7 i_8 i_9 i_10 a_14 a_15 a_16 a_17 a_18 a_19 a_20 a_21 a_22 a_23 h1) (cwV 1 hts (mm_gV mm_w626 mm_w627 mm_w628 mm_w2 mm_w629) rfl rfl rfl hd_X11_isLand ⟨by rw [hRf]; exact Nat.le_of_ble_eq_true rfl, by rw [hRl]; exact Nat.le_of_ble_eq_true rfl⟩) (mm_preV hK hZ hS hA hP hD [0, 1, 2] rfl rfl 0 rfl rfl rfl) rfl rfl hl.1 rfl (lv_room (Nat.le_of_ble_eq_true rfl)) dX11_alike_2 ⟨by rw [hRc]; exact Nat.le_of_ble_eq_true rfl, by rw [hRs]; exact Nat.le_of_ble_eq_true rfl⟩) hP hD hS hA [0, 1, 2] rfl (fun _ => rfl) ?_
  clear hP hD hS
  clear H locs
  intro v1 _u H locs hw hP hD hS
  rcases hw with ⟨rfl, w2⟩ | ⟨rfl, w3⟩
  · refine lv_if_eq (tgt := 28) hx hb dX11_alike_5 (by decide) (fun c4 => ?_) (fun c4 => ?_)
    · refine lv_bipush (v := (-2)) hx hb dX11_alike_28 (by decide) ?_
      subst hAe
      rw [hQ]
      exact W.iret (v := (-2)) hx hb hr (fun t ht hW => ⟨⟨(-2), (), rfl, trivial, by rw [ht]; exact hP, hK.warm hW, hD⟩, hS.F ht⟩) hS.2.2 dX11_alike_30
    · have q5 := mm_neL (lo := 1) (mm_ne c4) mm_k0 mm_k0 (by decide) (by decide)
      exact mm_no q5 (by decide)
  · refine lv_if_eq (tgt := 28) hx hb dX11_alike_5 (by decide) (fun c6 => ?_) (fun c6 => ?_)
    · exact mm_eqN c6.symm mm_k0 mm_k1 (by decide)
    · refine lv_aload_n hx hb dX11_alike_8 rfl (lv_at hl 0 rfl) ?_
      refine lv_iload_n hx hb dX11_alike_9 rfl (lv_at hl 2 rfl) ?_
      refine mm_finir (va_runV (As := [.int i_1]) (rest := []) ⟨hx, hb, hml, hown, hts⟩ (K350_X11_isLand l G cy H.size a_0 i_1 a_1 a_2 a_3 a_4 a_5 a_6 a_7 a_8 a_9 a_10 a_11 a_12 a_13 i_3 i_4 i_5 i_6 i_7 i_8 i_9 i_10 a_14 a_15 a_16 a_17 a_18 a_19 a_20 a_21 a_22 a_23 h1) (cwV 1 hts (mm_gV mm_w626 mm_w627 mm_w628 mm_w2 mm_w629) rfl rfl rfl hd_X11_isLand ⟨by rw [hRf]; exact Nat.le_of_ble_eq_true rfl, by rw [hRl]; exact Nat.le_of_ble_eq_true rfl⟩) (mm_preV hK hZ hS hA hP hD [0, 1, 2] rfl rfl 0 rfl rfl rfl) rfl rfl hl.1 rfl (lv_room (Nat.le_of_ble_eq_true rfl)) dX11_alike_10 ⟨by rw [hRc]; exact Nat.le_of_ble_eq_true rfl, by rw [hRs]; exact Nat.le_of_ble_eq_true rfl⟩) hP hD hS hA [0, 1, 2] rfl (fun _ => rfl) ?_
      clear hP hD hS
      clear H locs
      intro v7 _u H locs hw hP hD hS
      rcases hw with ⟨rfl, w8⟩ | ⟨rfl, w9⟩
      · refine lv_if_eq (tgt := 28) hx hb dX11_alike_13 (by decide) (fun c10 => ?_) (fun c10 => ?_)
        · refine lv_bipush (v := (-2)) hx hb dX11_alike_28 (by decide) ?_
          subst hAe
          rw [hQ]
          exact W.iret (v := (-2)) hx hb hr (fun t ht hW => ⟨⟨(-2), (), rfl, trivial, by rw [ht]; exact hP, hK.warm hW, hD⟩, hS.F ht⟩) hS.2.2 dX11_alike_30
        · have q11 := mm_neL (lo := 1) (mm_ne c10) mm_k0 mm_k0 (by decide) (by decide)
          exact mm_no q11 (by decide)
      · refine lv_if_eq (tgt := 28) hx hb dX11_alike_13 (by decide) (fun c12 => ?_) (fun c12 => ?_)
        · exact mm_eqN c12.symm mm_k0 mm_k1 (by decide)
        · refine lv_iload_n hx hb dX11_alike_16 rfl (lv_at hl 3 rfl) ?_
          refine lv_iconst (v := 1) hx hb dX11_alike_17 (by decide) ?_
          refine lv_icmp_lt (tgt := 28) hx hb dX11_alike_18 (by decide) (fun c13 => ?_) (fun c13 => ?_)
          · have q14 := mm_ltL (h := 0) (mm_lt c13) (mm_top i_2) mm_k1 (by decide)
            refine lv_bipush (v := (-2)) hx hb dX11_alike_28 (by decide) ?_
            subst hAe
            rw [hQ]
            exact W.iret (v := (-2)) hx hb hr (fun t ht hW => ⟨⟨(-2), (), rfl, trivial, by rw [ht]; exact hP, hK.warm hW, hD⟩, hS.F ht⟩) hS.2.2 dX11_alike_30
          · have q15 := mm_leR (mm_nlt c13) mm_k1 (mm_top i_2)
            refine lv_iload_n hx hb dX11_alike_21 rfl (lv_at hl 3 rfl) ?_
            refine lv_sipush (v := 10000) hx hb dX11_alike_22 (by decide) ?_
            refine lv_icmp_le (tgt := 31) hx hb dX11_alike_25 (by decide) (fun c16 => ?_) (fun c16 => ?_)
            · have q17 := mm_leL (mm_le c16) q15 mm_k10000
              refine lv_aload_n hx hb dX11_alike_31 rfl (lv_at hl 0 rfl) ?_
              refine va_get (D := G) (ci := 11) (v := .ref a_3) (C := RX11) (T := TX11) (N := 11) hx hb hts (mm_i inlX11) hown hK.1 hP 0 rfl rfl 2 (by decide) (mm_h hts mm_w24) (fun _ h9 => h9) rfl dX11_alike_32 ?_
              refine lv_iload_n hx hb dX11_alike_35 rfl (lv_at hl 1 rfl) ?_
              refine mm_finir (va_runV (As := [.int i_0]) (rest := []) ⟨hx, hb, hml, hown, hts⟩ (K360_X10_period l G cy H.size a_3 i_0 a_12 a_13 a_24 a_25 a_26 a_27 a_28 i_11 i_12 i_13 a_29 a_30 i_14 i_15 i_16 a_31 a_32 i_17 i_18 i_19 w3 h3 h5 h7) (cwV 1 hts (mm_gV mm_w743 mm_w744 mm_w745 mm_w23 mm_w746) rfl rfl rfl hd_X10_period ⟨by rw [hRf]; exact Nat.le_of_ble_eq_true rfl, by rw [hRl]; exact Nat.le_of_ble_eq_true rfl⟩) (mm_preV hK hZ hS hA hP hD [1, 4, 5, 7, 9] rfl rfl 1 rfl rfl rfl) rfl rfl hl.1 rfl (lv_room (Nat.le_of_ble_eq_true rfl)) dX11_alike_36 ⟨by rw [hRc]; exact Nat.le_of_ble_eq_true rfl, by rw [hRs]; exact Nat.le_of_ble_eq_true rfl⟩) hP hD hS hA [1, 4, 5, 7, 9] rfl (fun _ => rfl) ?_
              clear hP hD hS
              clear H locs
              intro v18 _u H locs hw hP hD hS
              have w19 := hw
              refine lv_aload_n hx hb dX11_alike_39 rfl (lv_at hl 0 rfl) ?_
              refine va_get (D := G) (ci := 11) (v := .ref a_3) (C := RX11) (T := TX11) (N := 11) hx hb hts (mm_i inlX11) hown hK.1 hP 0 rfl rfl 2 (by decide) (mm_h hts mm_w24) (fun _ h9 => h9) rfl dX11_alike_40 ?_
              refine lv_iload_n hx hb dX11_alike_43 rfl (lv_at hl 2 rfl) ?_
              refine mm_finir (va_runV (As := [.int i_1]) (rest := [.int v18]) ⟨hx, hb, hml, hown, hts⟩ (K360_X10_period l G cy H.size a_3 i_1 a_12 a_13 a_24 a_25 a_26 a_27 a_28 i_11 i_12 i_13 a_29 a_30 i_14 i_15 i_16 a_31 a_32 i_17 i_18 i_19 w9 h3 h5 h7) (cwV 1 hts (mm_gV mm_w743 mm_w744 mm_w745 mm_w23 mm_w746) rfl rfl rfl hd_X10_period ⟨by rw [hRf]; exact Nat.le_of_ble_eq_true rfl, by rw [hRl]; exact Nat.le_of_ble_eq_true rfl⟩) (mm_preV hK hZ hS hA hP hD [1, 4, 5, 7, 9] rfl rfl 1 rfl rfl rfl) rfl rfl hl.1 rfl (lv_room (Nat.le_of_ble_eq_true rfl)) dX11_alike_44 ⟨by rw [hRc]; exact Nat.le_of_ble_eq_true rfl, by rw [hRs]; exact Nat.le_of_ble_eq_true rfl⟩) hP hD hS hA [1, 4, 5, 7, 9] rfl (fun _ => rfl) ?_
              clear hP hD hS
              clear H locs
              intro v20 _u H locs hw hP hD hS
              have w21 := hw
              refine mm_finir (va_runS (As := [.int v18, .int v20]) (rest := []) ⟨hx, hb, hml, hown, hts⟩ (K335_X11_commonMultiple l G cy H.size v18 v20 ) (va_cwS 2 hts (mm_gS mm_w1218 mm_w411 mm_w2 mm_w412) rfl rfl rfl hs_X11_commonMultiple ⟨by rw [hRf]; exact Nat.le_of_ble_eq_true rfl, by rw [hRl]; exact Nat.le_of_ble_eq_true rfl⟩) (mm_preS hK hZ hS hA hP hD [] rfl rfl) rfl rfl hl.1 rfl (lv_room (Nat.le_of_ble_eq_true rfl)) dX11_alike_47 ⟨by rw [hRc]; exact Nat.le_of_ble_eq_true rfl, by rw [hRs]; exact Nat.le_of_ble_eq_true rfl⟩) hP hD hS hA [] rfl (fun _ => rfl) ?_
              clear hP hD hS
              clear H locs
              intro v22 _u H locs hw hP hD hS
              refine lv_istore (lv' := [(4, .int v22), (0, .ref a_0), (1, .int i_0), (2, .int i_1), (3, .int i_2)]) hx hb dX11_alike_50 hl (by decide) rfl ?_
              clear hl
              clear ls
              intro ls hl
              refine lv_iconst (v := 0) hx hb dX11_alike_52 (by decide) ?_
              refine lv_istore (lv' := [(5, .int 0), (4, .int v22), (0, .ref a_0), (1, .int i_0), (2, .int i_1), (3, .int i_2)]) hx hb dX11_alike_53 hl (by decide) rfl ?_
              clear hl
              clear ls
              intro ls hl
              refine lv_iconst (v := 0) hx hb dX11_alike_55 (by decide) ?_
              refine lv_istore (lv' := [(6, .int 0), (5, .int 0), (4, .int v22), (0, .ref a_0), (1, .int i_0), (2, .int i_1), (3, .int i_2)]) hx hb dX11_alike_56 hl (by decide) rfl ?_
              clear hl
              clear ls
              intro ls hl
              have L58_344 : ∀ (n : Nat) (x58_6_343 : Int32) (x58_5_344 : Int32), mm_rg x58_6_343 0 10000 → (10000 - x58_6_343.toInt).toNat < n → ∀ (H : Heap) (locs : List Loc), va_P G vwCl [(a_0, .inr (11, [.ref a_1, .ref a_2, .ref a_3, .ref a_4, .ref a_5, .ref a_6, .ref a_7, .ref a_8, .ref a_9, .ref a_10, .ref a_11])), (a_3, .inr (10, [.ref a_12, .ref a_13])), (a_12, .inr (0, [.int i_3, .int i_4, .int i_5, .int i_6, .int i_7, .int i_8, .int i_9, .int i_10, .ref a_14, .ref a_15, .ref a_16, .ref a_17, .ref a_18, .ref a_19, .ref a_20, .ref a_21, .ref a_22, .ref a_23])), (a_20, .inl (cy 1, 30, .inl f_0)), (a_13, .inl (cy 5, 3, .inr (.inr (.inr (.inr (va_up (va_up (va_up (fun _ => none) 0 (some a_24)) 1 (some a_25)) 2 (some a_26))))))), (a_24, .inr (1, [.ref a_27, .ref a_28, .int i_11, .int i_12, .int i_13])), (a_27, .inl (cy 1, 2100, .inl f_1)), (a_25, .inr (1, [.ref a_29, .ref a_30, .int i_14, .int i_15, .int i_16])), (a_29, .inl (cy 1, 2100, .inl f_2)), (a_26, .inr (1, [.ref a_31, .ref a_32, .int i_17, .int i_18, .int i_19])), (a_31, .inl (cy 1, 2100, .inl f_3))] H → va_D A [(a_0, .inr (11, [.ref a_1, .ref a_2, .ref a_3, .ref a_4, .ref a_5, .ref a_6, .ref a_7, .ref a_8, .ref a_9, .ref a_10, .ref a_11])), (a_3, .inr (10, [.ref a_12, .ref a_13])), (a_12, .inr (0, [.int i_3, .int i_4, .int i_5, .int i_6, .int i_7, .int i_8, .int i_9, .int i_10, .ref a_14, .ref a_15, .ref a_16, .ref a_17, .ref a_18, .ref a_19, .ref a_20, .ref a_21, .ref a_22, .ref a_23])), (a_20, .inl (cy 1, 30, .inl f_0)), (a_13, .inl (cy 5, 3, .inr (.inr (.inr (.inr (va_up (va_up (va_up (fun _ => none) 0 (some a_24)) 1 (some a_25)) 2 (some a_26))))))), (a_24, .inr (1, [.ref a_27, .ref a_28, .int i_11, .int i_12, .int i_13])), (a_27, .inl (cy 1, 2100, .inl f_1)), (a_25, .inr (1, [.ref a_29, .ref a_30, .int i_14, .int i_15, .int i_16])), (a_29, .inl (cy 1, 2100, .inl f_2)), (a_26, .inr (1, [.ref a_31, .ref a_32, .int i_17, .int i_18, .int i_19])), (a_31, .inl (cy 1, 2100, .inl f_3))] → va_S A s.heap H locs → ∀ (ls : Array Slot), lv_has ls 7 [(6, .int x58_6_343), (5, .int x58_5_344), (4, .int v22), (0, .ref a_0), (1, .int i_0), (2, .int i_1), (3, .int i_2)] → W p l e R s m args below meth c H locs 0 0 Q (F0 m 58 ls []) := by
                intro n
                induction n with
                | zero => intro x58_6_343 x58_5_344 rx58_6_343 hm; exact absurd hm (Nat.not_lt_zero _)
                | succ n ih58 =>
                  intro x58_6_343 x58_5_344 rx58_6_343 hm58 H locs hP hD hS ls hl
                  refine lv_iload hx hb dX11_alike_58 (lv_at hl 0 rfl) ?_
                  refine lv_iload_n hx hb dX11_alike_60 rfl (lv_at hl 6 rfl) ?_
                  refine lv_icmp_ge (tgt := 110) hx hb dX11_alike_61 (by decide) (fun c346 => ?_) (fun c346 => ?_)
                  · have q347 := mm_leR (mm_le c346) q17 rx58_6_343
                    refine lv_iload hx hb dX11_alike_110 (lv_at hl 1 rfl) ?_
                    subst hAe
                    rw [hQ]
                    exact W.iret (v := x58_5_344) hx hb hr (fun t ht hW => ⟨⟨x58_5_344, (), rfl, trivial, by rw [ht]; exact hP, hK.warm hW, hD⟩, hS.F ht⟩) hS.2.2 dX11_alike_112
                  · have q348 := mm_ltL (h := 9999) (mm_nle c346) rx58_6_343 q17 (by decide)
                    refine lv_iload hx hb dX11_alike_64 (lv_at hl 0 rfl) ?_
                    refine lv_iload hx hb dX11_alike_66 (lv_at hl 2 rfl) ?_
                    refine lv_icmp_ge (tgt := 110) hx hb dX11_alike_68 (by decide) (fun c349 => ?_) (fun c349 => ?_)
                    · have q350 := mm_leL (mm_le c349) (mm_top v22) q348
                      refine lv_iload hx hb dX11_alike_110 (lv_at hl 1 rfl) ?_
                      subst hAe
                      rw [hQ]
                      exact W.iret (v := x58_5_344) hx hb hr (fun t ht hW => ⟨⟨x58_5_344, (), rfl, trivial, by rw [ht]; exact hP, hK.warm hW, hD⟩, hS.F ht⟩) hS.2.2 dX11_alike_112
                    · have q351 := mm_ltR (lo := 1) (mm_nle c349) q348 (mm_top v22) (by decide)
                      refine lv_aload_n hx hb dX11_alike_71 rfl (lv_at hl 3 rfl) ?_
                      refine va_get (D := G) (ci := 11) (v := .ref a_3) (C := RX11) (T := TX11) (N := 11) hx hb hts (mm_i inlX11) hown hK.1 hP 0 rfl rfl 2 (by decide) (mm_h hts mm_w24) (fun _ h9 => h9) rfl dX11_alike_72 ?_
                      refine lv_iload_n hx hb dX11_alike_75 rfl (lv_at hl 4 rfl) ?_
                      refine lv_iload hx hb dX11_alike_76 (lv_at hl 0 rfl) ?_
                      refine lv_iload_n hx hb dX11_alike_78 rfl (lv_at hl 5 rfl) ?_
                      refine lv_iload hx hb dX11_alike_79 (lv_at hl 0 rfl) ?_
                      refine mm_finir (va_runV (As := [.int i_0, .int x58_6_343, .int i_1, .int x58_6_343]) (rest := []) ⟨hx, hb, hml, hown, hts⟩ (K429_X10_firstUnlike l G cy H.size a_3 i_0 x58_6_343 i_1 x58_6_343 a_12 a_13 i_3 i_4 i_5 i_6 i_7 i_8 i_9 i_10 a_14 a_15 a_16 a_17 a_18 a_19 a_20 a_21 a_22 a_23 f_0 a_24 a_25 a_26 a_27 a_28 i_11 i_12 i_13 f_1 a_29 a_30 i_14 i_15 i_16 f_2 a_31 a_32 i_17 i_18 i_19 f_3 w3 (mm_wk q348 (by decide)) w9 (mm_wk q348 (by decide)) h0 h2 h3 h4 h5 h6 h7 h8) (cwV 4 hts (mm_gV mm_w1161 mm_w1162 mm_w1163 mm_w23 mm_w1164) rfl rfl rfl hd_X10_firstUnlike ⟨by rw [hRf]; exact Nat.le_of_ble_eq_true rfl, by rw [hRl]; exact Nat.le_of_ble_eq_true rfl⟩) (mm_preV hK hZ hS hA hP hD [1, 2, 3, 4, 5, 6, 7, 8, 9, 10] rfl rfl 1 rfl rfl rfl) rfl rfl hl.1 rfl (lv_room (Nat.le_of_ble_eq_true rfl)) dX11_alike_81 ⟨by rw [hRc]; exact Nat.le_of_ble_eq_true rfl, by rw [hRs]; exact Nat.le_of_ble_eq_true rfl⟩) hP hD hS hA [1, 2, 3, 4, 5, 6, 7, 8, 9, 10] rfl (fun _ => rfl) ?_
                      clear hP hD hS
                      clear H locs
                      intro v352 _u H locs hw hP hD hS
                      have w353 := hw
                      refine lv_iconst (v := (-1)) hx hb dX11_alike_84 (by decide) ?_
                      refine lv_icmp_ne (tgt := 104) hx hb dX11_alike_85 (by decide) (fun c354 => ?_) (fun c354 => ?_)
                      · have q355 := mm_neL (lo := 0) (mm_ne c354) w353 mm_km1 (by decide) (by decide)
                        obtain ⟨v356, ev356⟩ : ∃ y : Int32, y = x58_6_343 + 1 := ⟨_, rfl⟩
                        refine lv_iinc (v := v356) (lv' := [(6, .int v356), (5, .int x58_5_344), (4, .int v22), (0, .ref a_0), (1, .int i_0), (2, .int i_1), (3, .int i_2)]) hx hb dX11_alike_104 hl (k := 0) rfl (by rw [ev356]; rfl) (by decide) rfl ?_
                        clear hl
                        clear ls
                        intro ls hl
                        have rv356 : mm_rg v356 1 10000 := mm_add ev356 q348 mm_k1 (by decide) (by decide)
                        have tv356 := mm_addEc ev356 q348 mm_k1 (by decide) (k := 1) (by decide)
                        refine lv_goto (tgt := 58) hx hb dX11_alike_107 (by decide) ?_
                        exact ih58 v356 x58_5_344 (mm_wk rv356 (by decide)) (mm_mu hm58 tv356 (by decide) (rv356).2 (by decide)) H locs hP hD hS ls (lv_sub hl [0, 1, 2, 3, 4, 5, 6] rfl)
                      · have q357 := mm_eqI (lo := (-1)) (hi := (-1)) c354 w353 mm_km1 (by decide)
                        refine lv_iload hx hb dX11_alike_88 (lv_at hl 1 rfl) ?_
                        refine lv_iload_n hx hb dX11_alike_90 rfl (lv_at hl 6 rfl) ?_
                        refine lv_iconst (v := 1) hx hb dX11_alike_91 (by decide) ?_
                        refine lv_isub hx hb dX11_alike_92 ?_
                        refine lv_topi (fun v358 ev358 => ?_)
                        have rv358 : mm_rg v358 0 9999 := mm_sub ev358 q17 mm_k1 (by decide) (by decide)
                        have tv358 := mm_subEc ev358 q17 mm_k1 (by decide) (k := (-1)) (by decide)
                        refine lv_iload hx hb dX11_alike_93 (lv_at hl 0 rfl) ?_
                        refine lv_isub hx hb dX11_alike_95 ?_
                        refine lv_topi (fun v359 ev359 => ?_)
                        have rv359 : mm_rg v359 (-9999) 9999 := mm_sub ev359 rv358 q348 (by decide) (by decide)
                        have tv359 := mm_subE ev359 rv358 q348 (by decide)
                        refine lv_iload hx hb dX11_alike_96 (lv_at hl 2 rfl) ?_
                        refine lv_idiv hx hb dX11_alike_98 (mm_nz q351 (by decide)) ?_
                        refine lv_topi (fun v360 ev360 => ?_)
                        refine lv_iconst (v := 1) hx hb dX11_alike_99 (by decide) ?_
                        refine lv_iadd hx hb dX11_alike_100 ?_
                        refine lv_topi (fun v361 ev361 => ?_)
                        refine lv_iadd hx hb dX11_alike_101 ?_
                        refine lv_topi (fun v362 ev362 => ?_)
                        refine lv_istore (lv' := [(5, .int v362), (6, .int x58_6_343), (4, .int v22), (0, .ref a_0), (1, .int i_0), (2, .int i_1), (3, .int i_2)]) hx hb dX11_alike_102 hl (by decide) rfl ?_
                        clear hl
                        clear ls
                        intro ls hl
                        obtain ⟨v363, ev363⟩ : ∃ y : Int32, y = x58_6_343 + 1 := ⟨_, rfl⟩
                        refine lv_iinc (v := v363) (lv' := [(6, .int v363), (5, .int v362), (4, .int v22), (0, .ref a_0), (1, .int i_0), (2, .int i_1), (3, .int i_2)]) hx hb dX11_alike_104 hl (k := 1) rfl (by rw [ev363]; rfl) (by decide) rfl ?_
                        clear hl
                        clear ls
                        intro ls hl
                        have rv363 : mm_rg v363 1 10000 := mm_add ev363 q348 mm_k1 (by decide) (by decide)
                        have tv363 := mm_addEc ev363 q348 mm_k1 (by decide) (k := 1) (by decide)
                        refine lv_goto (tgt := 58) hx hb dX11_alike_107 (by decide) ?_
                        exact ih58 v363 v362 (mm_wk rv363 (by decide)) (mm_mu hm58 tv363 (by decide) (rv363).2 (by decide)) H locs hP hD hS ls (lv_sub hl [0, 1, 2, 3, 4, 5, 6] rfl)
              exact L58_344 _ 0 0 (mm_wk mm_k0 (by decide)) (Nat.lt_succ_self _) H locs hP hD hS ls (lv_sub hl [0, 1, 2, 3, 4, 5, 6] rfl)
            · have q364 := mm_ltR (lo := 10001) (mm_nle c16) mm_k10000 q15 (by decide)
              refine lv_bipush (v := (-2)) hx hb dX11_alike_28 (by decide) ?_
              subst hAe
              rw [hQ]
              exact W.iret (v := (-2)) hx hb hr (fun t ht hW => ⟨⟨(-2), (), rfl, trivial, by rw [ht]; exact hP, hK.warm hW, hD⟩, hS.F ht⟩) hS.2.2 dX11_alike_30

set_option maxHeartbeats 4000000 in
set_option maxRecDepth 100000 in
theorem K437_X11_isSlot (l : Launch) (G : va_G) (cy : Nat → ClassId) (sz : Nat) (i_0 : Int32)   : mm_CI l yX11_isSlot (mm_ws yX11_isSlot cX11_isSlot 1 (some .boolean)) ({ frames := 0, cells := 0, slots := 0, locals := 0 } : Room) G cy sz [] [.int i_0] (fun u : Unit => []) (fun (r : Int32) (u : Unit) => ((0 = r ∧ mm_rg i_0 (-2147483648) 2147483647) ∨ (1 = r ∧ mm_rg i_0 0 3))) 0 0 := by
  refine mm_begin (lv := [(0, .int i_0)]) (by decide) (Nat.le_of_ble_eq_true rfl) rfl ?_
  intro p e s m below meth c A ls R args Q H locs hRe hQ hAe hx hb hr hlocks hml hown hnm hts hsz hA hS hP hK hD hZ hl
  have hRf : R.frames = 0 := by rw [hRe]
  have hRl : R.locals = 0 := by rw [hRe]
  have hRc : R.cells = 0 := by rw [hRe]
  have hRs : R.slots = 0 := by rw [hRe]
  refine lv_iload_n hx hb dX11_isSlot_0 rfl (lv_at hl 0 rfl) ?_
  refine lv_if_lt (tgt := 13) hx hb dX11_isSlot_1 (by decide) (fun c1 => ?_) (fun c1 => ?_)
  · have q2 := mm_ltL (h := (-1)) (mm_lt c1) (mm_top i_0) mm_k0 (by decide)
    refine lv_iconst (v := 0) hx hb dX11_isSlot_13 (by decide) ?_
    subst hAe
    rw [hQ]
    exact W.zret (v := 0) hx hb hr rfl (fun t ht hW => ⟨⟨0, (), rfl, (Or.inl ⟨rfl, (mm_wk q2 (by decide))⟩), by rw [ht]; exact hP, hK.warm hW, hD⟩, hS.F ht⟩) hS.2.2 dX11_isSlot_14
  · have q3 := mm_leR (mm_nlt c1) mm_k0 (mm_top i_0)
    refine lv_iload_n hx hb dX11_isSlot_4 rfl (lv_at hl 0 rfl) ?_
    refine lv_iconst (v := 4) hx hb dX11_isSlot_5 (by decide) ?_
    refine lv_icmp_ge (tgt := 13) hx hb dX11_isSlot_6 (by decide) (fun c4 => ?_) (fun c4 => ?_)
    · have q5 := mm_leR (mm_le c4) mm_k4 q3
      refine lv_iconst (v := 0) hx hb dX11_isSlot_13 (by decide) ?_
      subst hAe
      rw [hQ]
      exact W.zret (v := 0) hx hb hr rfl (fun t ht hW => ⟨⟨0, (), rfl, (Or.inl ⟨rfl, (mm_wk q5 (by decide))⟩), by rw [ht]; exact hP, hK.warm hW, hD⟩, hS.F ht⟩) hS.2.2 dX11_isSlot_14
    · have q6 := mm_ltL (h := 3) (mm_nle c4) q3 mm_k4 (by decide)
      refine lv_iconst (v := 1) hx hb dX11_isSlot_9 (by decide) ?_
      refine lv_goto (tgt := 14) hx hb dX11_isSlot_10 (by decide) ?_
      subst hAe
      rw [hQ]
      exact W.zret (v := 1) hx hb hr rfl (fun t ht hW => ⟨⟨1, (), rfl, (Or.inr ⟨rfl, q6⟩), by rw [ht]; exact hP, hK.warm hW, hD⟩, hS.F ht⟩) hS.2.2 dX11_isSlot_14

set_option maxHeartbeats 4000000 in
set_option maxRecDepth 100000 in
theorem K438_X11_isDay (l : Launch) (G : va_G) (cy : Nat → ClassId) (sz : Nat) (i_0 : Int32) (h0 : mm_rg i_0 0 2147483647)  : mm_CI l yX11_isDay (mm_ws yX11_isDay cX11_isDay 1 (some .boolean)) ({ frames := 0, cells := 0, slots := 0, locals := 0 } : Room) G cy sz [] [.int i_0] (fun u : Unit => []) (fun (r : Int32) (u : Unit) => ((0 = r ∧ mm_rg i_0 1000000001 2147483647) ∨ (1 = r ∧ mm_rg i_0 0 1000000000))) 0 0 := by
  refine mm_begin (lv := [(0, .int i_0)]) (by decide) (Nat.le_of_ble_eq_true rfl) rfl ?_
  intro p e s m below meth c A ls R args Q H locs hRe hQ hAe hx hb hr hlocks hml hown hnm hts hsz hA hS hP hK hD hZ hl
  have hRf : R.frames = 0 := by rw [hRe]
  have hRl : R.locals = 0 := by rw [hRe]
  have hRc : R.cells = 0 := by rw [hRe]
  have hRs : R.slots = 0 := by rw [hRe]
  refine lv_iload_n hx hb dX11_isDay_0 rfl (lv_at hl 0 rfl) ?_
  refine lv_if_lt (tgt := 15) hx hb dX11_isDay_1 (by decide) (fun c1 => ?_) (fun c1 => ?_)
  · have q2 := mm_ltL (h := (-1)) (mm_lt c1) h0 mm_k0 (by decide)
    exact mm_no q2 (by decide)
  · refine lv_iload_n hx hb dX11_isDay_4 rfl (lv_at hl 0 rfl) ?_
    refine lv_ldcw (v := 1000000000) hx hb hown (mm_h hts mm_w664) dX11_isDay_5 ?_
    refine lv_icmp_gt (tgt := 15) hx hb dX11_isDay_8 (by decide) (fun c3 => ?_) (fun c3 => ?_)
    · have q4 := mm_ltR (lo := 1000000001) (mm_lt c3) mm_k1000000000 h0 (by decide)
      refine lv_iconst (v := 0) hx hb dX11_isDay_15 (by decide) ?_
      subst hAe
      rw [hQ]
      exact W.zret (v := 0) hx hb hr rfl (fun t ht hW => ⟨⟨0, (), rfl, (Or.inl ⟨rfl, q4⟩), by rw [ht]; exact hP, hK.warm hW, hD⟩, hS.F ht⟩) hS.2.2 dX11_isDay_16
    · have q5 := mm_leL (mm_nlt c3) h0 mm_k1000000000
      refine lv_iconst (v := 1) hx hb dX11_isDay_11 (by decide) ?_
      refine lv_goto (tgt := 16) hx hb dX11_isDay_12 (by decide) ?_
      subst hAe
      rw [hQ]
      exact W.zret (v := 1) hx hb hr rfl (fun t ht hW => ⟨⟨1, (), rfl, (Or.inr ⟨rfl, q5⟩), by rw [ht]; exact hP, hK.warm hW, hD⟩, hS.F ht⟩) hS.2.2 dX11_isDay_16

set_option maxHeartbeats 4000000 in
set_option maxRecDepth 100000 in
theorem K439_X3_isTold (l : Launch) (G : va_G) (cy : Nat → ClassId) (sz : Nat) (a_0 : Nat) (a_1 : Nat) (a_2 : Nat) (a_3 : Nat) (a_4 : Nat) (i_0 : Int32) (i_1 : Int32) (i_2 : Int32) (i_3 : Int32) (i_4 : Int32) (i_5 : Int32) (i_6 : Int32) (i_7 : Int32) (a_5 : Nat) (a_6 : Nat) (a_7 : Nat) (a_8 : Nat) (a_9 : Nat) (a_10 : Nat) (a_11 : Nat) (a_12 : Nat) (a_13 : Nat) (a_14 : Nat) (i_8 : Int32) (i_9 : Int32) (i_10 : Int32) (a_15 : Nat) (f_0 : Nat → Int64) (a_16 : Nat) (a_17 : Nat) (i_11 : Int32) (h0 : mm_rg i_6 0 6) (h1 : mm_rg i_10 0 60)  : mm_CI l yX3_isTold (mm_ws yX3_isTold cX3_isTold 7 (some .boolean)) ({ frames := 0, cells := 0, slots := 0, locals := 0 } : Room) G cy sz [(a_2, .inr (10, [.ref a_3, .ref a_4])), (a_3, .inr (0, [.int i_0, .int i_1, .int i_2, .int i_3, .int i_4, .int i_5, .int i_6, .int i_7, .ref a_5, .ref a_6, .ref a_7, .ref a_8, .ref a_9, .ref a_10, .ref a_11, .ref a_12, .ref a_13, .ref a_14])), (a_1, .inr (6, [.int i_8, .int i_9, .int i_10, .ref a_15])), (a_15, .inl (cy 2, 60, .inr (.inl f_0))), (a_0, .inr (3, [.ref a_2, .ref a_16, .ref a_17, .int i_11]))] [.ref a_0, .ref a_1] (fun u : Unit => [(a_2, .inr (10, [.ref a_3, .ref a_4])), (a_3, .inr (0, [.int i_0, .int i_1, .int i_2, .int i_3, .int i_4, .int i_5, .int i_6, .int i_7, .ref a_5, .ref a_6, .ref a_7, .ref a_8, .ref a_9, .ref a_10, .ref a_11, .ref a_12, .ref a_13, .ref a_14])), (a_1, .inr (6, [.int i_8, .int i_9, .int i_10, .ref a_15])), (a_15, .inl (cy 2, 60, .inr (.inl f_0))), (a_0, .inr (3, [.ref a_2, .ref a_16, .ref a_17, .int i_11]))]) (fun (r : Int32) (u : Unit) => ((0 = r) ∨ (1 = r ∧ mm_told f_0 i_10 i_6))) 0 0 := by
  refine mm_begin (lv := [(0, .ref a_0), (1, .ref a_1)]) (by decide) (Nat.le_of_ble_eq_true rfl) rfl ?_
  intro p e s m below meth c A ls R args Q H locs hRe hQ hAe hx hb hr hlocks hml hown hnm hts hsz hA hS hP hK hD hZ hl
  have hRf : R.frames = 0 := by rw [hRe]
  have hRl : R.locals = 0 := by rw [hRe]
  have hRc : R.cells = 0 := by rw [hRe]
  have hRs : R.slots = 0 := by rw [hRe]
  refine lv_aload_n hx hb dX3_isTold_0 rfl (lv_at hl 1 rfl) ?_
  refine va_get (D := G) (ci := 6) (v := .int i_10) (C := RX6) (T := TX6) (N := 4) hx hb hts (mm_i inlX6) hown hK.1 hP 2 rfl rfl 2 (by decide) (mm_h hts mm_w1244) (fun _ h9 => h9) rfl dX3_isTold_1 ?_
  refine lv_iconst (v := 2) hx hb dX3_isTold_4 (by decide) ?_
  refine lv_irem hx hb dX3_isTold_5 (mm_nz mm_k2 (by decide)) ?_
  refine lv_topi (fun v1 ev1 => ?_)
  have rv1 : mm_rg v1 0 1 := mm_rem ev1 h1 mm_k2 (by decide) (by decide)
  refine lv_if_eq (tgt := 11) hx hb dX3_isTold_6 (by decide) (fun c2 => ?_) (fun c2 => ?_)
  · have q3 := mm_eqI (lo := 0) (hi := 0) c2 rv1 mm_k0 (by decide)
    refine lv_iconst (v := 0) hx hb dX3_isTold_11 (by decide) ?_
    refine lv_istore_n (lv' := [(2, .int 0), (0, .ref a_0), (1, .ref a_1)]) hx hb dX3_isTold_12 rfl hl (by decide) rfl ?_
    clear hl
    clear ls
    intro ls hl
    have L13_240 : ∀ (n : Nat) (x13_2_239 : Int32), mm_rg x13_2_239 0 60 → mm_tolds f_0 x13_2_239 i_6 → (60 - x13_2_239.toInt).toNat < n → ∀ (H : Heap) (locs : List Loc), va_P G vwCl [(a_2, .inr (10, [.ref a_3, .ref a_4])), (a_3, .inr (0, [.int i_0, .int i_1, .int i_2, .int i_3, .int i_4, .int i_5, .int i_6, .int i_7, .ref a_5, .ref a_6, .ref a_7, .ref a_8, .ref a_9, .ref a_10, .ref a_11, .ref a_12, .ref a_13, .ref a_14])), (a_1, .inr (6, [.int i_8, .int i_9, .int i_10, .ref a_15])), (a_15, .inl (cy 2, 60, .inr (.inl f_0))), (a_0, .inr (3, [.ref a_2, .ref a_16, .ref a_17, .int i_11]))] H → va_D A [(a_2, .inr (10, [.ref a_3, .ref a_4])), (a_3, .inr (0, [.int i_0, .int i_1, .int i_2, .int i_3, .int i_4, .int i_5, .int i_6, .int i_7, .ref a_5, .ref a_6, .ref a_7, .ref a_8, .ref a_9, .ref a_10, .ref a_11, .ref a_12, .ref a_13, .ref a_14])), (a_1, .inr (6, [.int i_8, .int i_9, .int i_10, .ref a_15])), (a_15, .inl (cy 2, 60, .inr (.inl f_0))), (a_0, .inr (3, [.ref a_2, .ref a_16, .ref a_17, .int i_11]))] → va_S A s.heap H locs → ∀ (ls : Array Slot), lv_has ls 7 [(2, .int x13_2_239), (0, .ref a_0), (1, .ref a_1)] → W p l e R s m args below meth c H locs 0 0 Q (F0 m 13 ls []) := by
      intro n
      induction n with
      | zero => intro x13_2_239 rx13_2_239 w240 hm; exact absurd hm (Nat.not_lt_zero _)
      | succ n ih13 =>
        intro x13_2_239 rx13_2_239 w240 hm13 H locs hP hD hS ls hl
        refine lv_iload_n hx hb dX3_isTold_13 rfl (lv_at hl 0 rfl) ?_
        refine lv_iconst (v := 1) hx hb dX3_isTold_14 (by decide) ?_
        refine lv_iadd hx hb dX3_isTold_15 ?_
        refine lv_topi (fun v242 ev242 => ?_)
        have rv242 : mm_rg v242 1 61 := mm_add ev242 rx13_2_239 mm_k1 (by decide) (by decide)
        have tv242 := mm_addEc ev242 rx13_2_239 mm_k1 (by decide) (k := 1) (by decide)
        refine lv_aload_n hx hb dX3_isTold_16 rfl (lv_at hl 2 rfl) ?_
        refine va_get (D := G) (ci := 6) (v := .int i_10) (C := RX6) (T := TX6) (N := 4) hx hb hts (mm_i inlX6) hown hK.1 hP 2 rfl rfl 2 (by decide) (mm_h hts mm_w1244) (fun _ h9 => h9) rfl dX3_isTold_17 ?_
        refine lv_icmp_ge (tgt := 86) hx hb dX3_isTold_20 (by decide) (fun c243 => ?_) (fun c243 => ?_)
        · refine lv_iconst (v := 1) hx hb dX3_isTold_86 (by decide) ?_
          subst hAe
          rw [hQ]
          exact W.zret (v := 1) hx hb hr rfl (fun t ht hW => ⟨⟨1, (), rfl, (Or.inr ⟨rfl, (mm_told_of w240 (mm_le c243) tv242)⟩), by rw [ht]; exact hP, hK.warm hW, hD⟩, hS.F ht⟩) hS.2.2 dX3_isTold_87
        · have q244 := mm_ltL (h := 59) (mm_nle c243) rv242 h1 (by decide)
          have q245 := mm_ltR (lo := 2) (mm_nle c243) rv242 h1 (by decide)
          have q246 : mm_rg x13_2_239 0 58 := mm_unadd tv242 q244 rx13_2_239 (by decide) (by decide)
          refine lv_aload_n hx hb dX3_isTold_23 rfl (lv_at hl 2 rfl) ?_
          refine va_get (D := G) (ci := 6) (v := .ref a_15) (C := RX6) (T := TX6) (N := 4) hx hb hts (mm_i inlX6) hown hK.1 hP 2 rfl rfl 3 (by decide) (mm_h hts mm_w1245) (fun _ h9 => h9) rfl dX3_isTold_24 ?_
          refine lv_iload_n hx hb dX3_isTold_27 rfl (lv_at hl 0 rfl) ?_
          refine va_lald hx hb hK.1 hP 3 2 rfl rfl (mm_in q246 (by decide)) dX3_isTold_28 ?_
          refine lv_topl (fun v247 ev247 => ?_)
          refine lv_lstore_n (lv' := [(3, .long v247), (2, .int x13_2_239), (0, .ref a_0), (1, .ref a_1)]) hx hb dX3_isTold_29 rfl hl (by decide) rfl ?_
          clear hl
          clear ls
          intro ls hl
          refine lv_aload_n hx hb dX3_isTold_30 rfl (lv_at hl 3 rfl) ?_
          refine va_get (D := G) (ci := 6) (v := .ref a_15) (C := RX6) (T := TX6) (N := 4) hx hb hts (mm_i inlX6) hown hK.1 hP 2 rfl rfl 3 (by decide) (mm_h hts mm_w1245) (fun _ h9 => h9) rfl dX3_isTold_31 ?_
          refine lv_iload_n hx hb dX3_isTold_34 rfl (lv_at hl 1 rfl) ?_
          refine lv_iconst (v := 1) hx hb dX3_isTold_35 (by decide) ?_
          refine lv_iadd hx hb dX3_isTold_36 ?_
          refine lv_topi (fun v248 ev248 => ?_)
          have rv248 : mm_rg v248 1 59 := mm_add ev248 q246 mm_k1 (by decide) (by decide)
          have tv248 := mm_addEc ev248 q246 mm_k1 (by decide) (k := 1) (by decide)
          refine va_lald hx hb hK.1 hP 3 2 rfl rfl (mm_in rv248 (by decide)) dX3_isTold_37 ?_
          refine lv_topl (fun v249 ev249 => ?_)
          refine lv_lstore (lv' := [(5, .long v249), (3, .long v247), (2, .int x13_2_239), (0, .ref a_0), (1, .ref a_1)]) hx hb dX3_isTold_38 hl (by decide) rfl ?_
          clear hl
          clear ls
          intro ls hl
          refine lv_lload_n hx hb dX3_isTold_40 rfl (lv_at hl 1 rfl) ?_
          refine lv_lconst (v := 0) hx hb dX3_isTold_41 (by decide) ?_
          refine W.lcmp hx hb dX3_isTold_42 ?_
          refine lv_topi (fun v250 ev250 => ?_)
          refine lv_if_lt (tgt := 78) hx hb dX3_isTold_43 (by decide) (fun c251 => ?_) (fun c251 => ?_)
          · have q252 := mm_ltLl (h := (-1)) (mm_cmp_lt ev250 c251) (mm_topl v247) mm_kl0 (by decide)
            refine lv_iconst (v := 0) hx hb dX3_isTold_78 (by decide) ?_
            subst hAe
            rw [hQ]
            exact W.zret (v := 0) hx hb hr rfl (fun t ht hW => ⟨⟨0, (), rfl, (Or.inl rfl), by rw [ht]; exact hP, hK.warm hW, hD⟩, hS.F ht⟩) hS.2.2 dX3_isTold_79
          · have q253 := mm_leRl (mm_cmp_ge ev250 (mm_n_lt c251)) mm_kl0 (mm_topl v247)
            refine lv_lload_n hx hb dX3_isTold_46 rfl (lv_at hl 1 rfl) ?_
            refine lv_aload_n hx hb dX3_isTold_47 rfl (lv_at hl 3 rfl) ?_
            refine va_get (D := G) (ci := 3) (v := .ref a_2) (C := RX3) (T := TX3) (N := 4) hx hb hts (mm_i inlX3) hown hK.1 hP 4 rfl rfl 0 (by decide) (mm_h hts mm_w114) (fun _ h9 => h9) rfl dX3_isTold_48 ?_
            refine va_get (D := G) (ci := 10) (v := .ref a_3) (C := RX10) (T := TX10) (N := 2) hx hb hts (mm_i inlX10) hown hK.1 hP 0 rfl rfl 0 (by decide) (mm_h hts mm_w1246) (fun _ h9 => h9) rfl dX3_isTold_51 ?_
            refine va_get (D := G) (ci := 0) (v := .int i_6) (C := RX0) (T := TX0) (N := 18) hx hb hts (mm_i inlX0) hown hK.1 hP 1 rfl rfl 6 (by decide) (mm_h hts mm_w1247) (fun _ h9 => h9) rfl dX3_isTold_54 ?_
            obtain ⟨v254, ev254⟩ : ∃ y : Int64, y = i_6.toInt64 := ⟨_, rfl⟩
            refine lv_i2l hx hb dX3_isTold_57 ev254.symm ?_
            have rv254 : mm_rl v254 0 6 := mm_i2l ev254 h0
            refine W.lcmp hx hb dX3_isTold_58 ?_
            refine lv_topi (fun v255 ev255 => ?_)
            refine lv_if_ge (tgt := 78) hx hb dX3_isTold_59 (by decide) (fun c256 => ?_) (fun c256 => ?_)
            · refine lv_iconst (v := 0) hx hb dX3_isTold_78 (by decide) ?_
              subst hAe
              rw [hQ]
              exact W.zret (v := 0) hx hb hr rfl (fun t ht hW => ⟨⟨0, (), rfl, (Or.inl rfl), by rw [ht]; exact hP, hK.warm hW, hD⟩, hS.F ht⟩) hS.2.2 dX3_isTold_79
            · have q257 := mm_ltLl (h := 5) (mm_cmp_lt ev255 (mm_n_ge c256)) q253 rv254 (by decide)
              have q258 := mm_ltRl (lo := 1) (mm_cmp_lt ev255 (mm_n_ge c256)) q253 rv254 (by decide)
              have q259 := mm_meet (lo := 1) (hi := 6) (mm_l2x ev254 q258) h0 (by decide)
              refine lv_lload hx hb dX3_isTold_62 (lv_at hl 0 rfl) ?_
              refine lv_lconst (v := 0) hx hb dX3_isTold_64 (by decide) ?_
              refine W.lcmp hx hb dX3_isTold_65 ?_
              refine lv_topi (fun v260 ev260 => ?_)
              refine lv_if_lt (tgt := 78) hx hb dX3_isTold_66 (by decide) (fun c261 => ?_) (fun c261 => ?_)
              · have q262 := mm_ltLl (h := (-1)) (mm_cmp_lt ev260 c261) (mm_topl v249) mm_kl0 (by decide)
                refine lv_iconst (v := 0) hx hb dX3_isTold_78 (by decide) ?_
                subst hAe
                rw [hQ]
                exact W.zret (v := 0) hx hb hr rfl (fun t ht hW => ⟨⟨0, (), rfl, (Or.inl rfl), by rw [ht]; exact hP, hK.warm hW, hD⟩, hS.F ht⟩) hS.2.2 dX3_isTold_79
              · have q263 := mm_leRl (mm_cmp_ge ev260 (mm_n_lt c261)) mm_kl0 (mm_topl v249)
                refine lv_lload hx hb dX3_isTold_69 (lv_at hl 0 rfl) ?_
                refine lv_ldc2 (v := 9999) hx hb hown (mm_h hts mm_w1248) dX3_isTold_71 ?_
                refine W.lcmp hx hb dX3_isTold_74 ?_
                refine lv_topi (fun v264 ev264 => ?_)
                refine lv_if_le (tgt := 80) hx hb dX3_isTold_75 (by decide) (fun c265 => ?_) (fun c265 => ?_)
                · have q266 := mm_leLl (mm_cmp_le ev264 c265) q263 mm_kl9999
                  obtain ⟨v267, ev267⟩ : ∃ y : Int32, y = x13_2_239 + 2 := ⟨_, rfl⟩
                  refine lv_iinc (v := v267) (lv' := [(2, .int v267), (5, .long v249), (3, .long v247), (0, .ref a_0), (1, .ref a_1)]) hx hb dX3_isTold_80 hl (k := 2) rfl (by rw [ev267]; rfl) (by decide) rfl ?_
                  clear hl
                  clear ls
                  intro ls hl
                  have rv267 : mm_rg v267 2 60 := mm_add ev267 q246 mm_k2 (by decide) (by decide)
                  have tv267 := mm_addEc ev267 q246 mm_k2 (by decide) (k := 2) (by decide)
                  refine lv_goto (tgt := 13) hx hb dX3_isTold_83 (by decide) ?_
                  exact ih13 v267 (mm_wk rv267 (by decide)) (mm_tolds_s w240 tv267 q246 ev247 (mm_cmp_ge ev250 (mm_n_lt c251)) (mm_i2lE ev254) (mm_cmp_lt ev255 (mm_n_ge c256))) (mm_mu hm13 tv267 (by decide) (rv267).2 (by decide)) H locs hP hD hS ls (lv_sub hl [0, 3, 4] rfl)
                · have q268 := mm_ltRl (lo := 10000) (mm_cmp_gt ev264 (mm_n_le c265)) mm_kl9999 q263 (by decide)
                  refine lv_iconst (v := 0) hx hb dX3_isTold_78 (by decide) ?_
                  subst hAe
                  rw [hQ]
                  exact W.zret (v := 0) hx hb hr rfl (fun t ht hW => ⟨⟨0, (), rfl, (Or.inl rfl), by rw [ht]; exact hP, hK.warm hW, hD⟩, hS.F ht⟩) hS.2.2 dX3_isTold_79
    exact L13_240 _ 0 (mm_wk mm_k0 (by decide)) (mm_tolds_0 _ _) (Nat.lt_succ_self _) H locs hP hD hS ls (lv_sub hl [0, 1, 2] rfl)
  · have q269 := mm_neL (lo := 1) (mm_ne c2) rv1 mm_k0 (by decide) (by decide)
    refine lv_iconst (v := 0) hx hb dX3_isTold_9 (by decide) ?_
    subst hAe
    rw [hQ]
    exact W.zret (v := 0) hx hb hr rfl (fun t ht hW => ⟨⟨0, (), rfl, (Or.inl rfl), by rw [ht]; exact hP, hK.warm hW, hD⟩, hS.F ht⟩) hS.2.2 dX3_isTold_10

set_option maxHeartbeats 4000000 in
set_option maxRecDepth 100000 in
theorem K440_X11_rowTrouble (l : Launch) (G : va_G) (cy : Nat → ClassId) (sz : Nat) (a_0 : Nat) (a_1 : Nat) (a_2 : Nat) (a_3 : Nat) (a_4 : Nat) (a_5 : Nat) (a_6 : Nat) (a_7 : Nat) (a_8 : Nat) (a_9 : Nat) (a_10 : Nat) (a_11 : Nat) (a_12 : Nat) (a_13 : Nat) (a_14 : Nat) (i_0 : Int32) (i_1 : Int32) (i_2 : Int32) (i_3 : Int32) (i_4 : Int32) (i_5 : Int32) (i_6 : Int32) (i_7 : Int32) (a_15 : Nat) (a_16 : Nat) (a_17 : Nat) (a_18 : Nat) (a_19 : Nat) (a_20 : Nat) (a_21 : Nat) (a_22 : Nat) (a_23 : Nat) (a_24 : Nat) (i_8 : Int32) (i_9 : Int32) (i_10 : Int32) (a_25 : Nat) (f_0 : Nat → Int64) (a_26 : Nat) (i_11 : Int32) (h0 : mm_rg i_6 0 6) (h1 : mm_rg i_8 0 1) (h2 : mm_rg i_10 0 60)  : mm_CI l yX11_rowTrouble (mm_ws yX11_rowTrouble cX11_rowTrouble 2 (some .int)) ({ frames := 1, cells := 0, slots := 0, locals := 26 } : Room) G cy sz [(a_0, .inr (11, [.ref a_2, .ref a_3, .ref a_4, .ref a_5, .ref a_6, .ref a_7, .ref a_8, .ref a_9, .ref a_10, .ref a_11, .ref a_12])), (a_4, .inr (10, [.ref a_13, .ref a_14])), (a_13, .inr (0, [.int i_0, .int i_1, .int i_2, .int i_3, .int i_4, .int i_5, .int i_6, .int i_7, .ref a_15, .ref a_16, .ref a_17, .ref a_18, .ref a_19, .ref a_20, .ref a_21, .ref a_22, .ref a_23, .ref a_24])), (a_1, .inr (6, [.int i_8, .int i_9, .int i_10, .ref a_25])), (a_25, .inl (cy 2, 60, .inr (.inl f_0))), (a_9, .inr (3, [.ref a_4, .ref a_8, .ref a_26, .int i_11]))] [.ref a_0, .ref a_1] (fun u : Unit => [(a_0, .inr (11, [.ref a_2, .ref a_3, .ref a_4, .ref a_5, .ref a_6, .ref a_7, .ref a_8, .ref a_9, .ref a_10, .ref a_11, .ref a_12])), (a_4, .inr (10, [.ref a_13, .ref a_14])), (a_13, .inr (0, [.int i_0, .int i_1, .int i_2, .int i_3, .int i_4, .int i_5, .int i_6, .int i_7, .ref a_15, .ref a_16, .ref a_17, .ref a_18, .ref a_19, .ref a_20, .ref a_21, .ref a_22, .ref a_23, .ref a_24])), (a_1, .inr (6, [.int i_8, .int i_9, .int i_10, .ref a_25])), (a_25, .inl (cy 2, 60, .inr (.inl f_0))), (a_9, .inr (3, [.ref a_4, .ref a_8, .ref a_26, .int i_11]))]) (fun (r : Int32) (u : Unit) => (((-2) = r) ∨ ((-6) = r) ∨ (0 = r ∧ mm_told f_0 i_10 i_6))) 0 0 := by
  refine mm_begin (lv := [(0, .ref a_0), (1, .ref a_1)]) (by decide) (Nat.le_of_ble_eq_true rfl) rfl ?_
  intro p e s m below meth c A ls R args Q H locs hRe hQ hAe hx hb hr hlocks hml hown hnm hts hsz hA hS hP hK hD hZ hl
  have hRf : R.frames = 1 := by rw [hRe]
  have hRl : R.locals = 26 := by rw [hRe]
  have hRc : R.cells = 0 := by rw [hRe]
  have hRs : R.slots = 0 := by rw [hRe]
  refine lv_aload_n hx hb dX11_rowTrouble_0 rfl (lv_at hl 1 rfl) ?_
  refine va_get (D := G) (ci := 6) (v := .int i_8) (C := RX6) (T := TX6) (N := 4) hx hb hts (mm_i inlX6) hown hK.1 hP 3 rfl rfl 0 (by decide) (mm_h hts mm_w1239) (fun _ h9 => h9) rfl dX11_rowTrouble_1 ?_
  refine lv_if_ne (tgt := 10) hx hb dX11_rowTrouble_4 (by decide) (fun c1 => ?_) (fun c1 => ?_)
  · have q2 := mm_neL (lo := 1) (mm_ne c1) h1 mm_k0 (by decide) (by decide)
    refine lv_aload_n hx hb dX11_rowTrouble_10 rfl (lv_at hl 0 rfl) ?_
    refine va_get (D := G) (ci := 11) (v := .ref a_9) (C := RX11) (T := TX11) (N := 11) hx hb hts (mm_i inlX11) hown hK.1 hP 0 rfl rfl 7 (by decide) (mm_h hts mm_w42) (fun _ h9 => h9) rfl dX11_rowTrouble_11 ?_
    refine lv_aload_n hx hb dX11_rowTrouble_14 rfl (lv_at hl 1 rfl) ?_
    refine mm_finir (va_runV (As := [.ref a_1]) (rest := []) ⟨hx, hb, hml, hown, hts⟩ (K439_X3_isTold l G cy H.size a_9 a_1 a_4 a_13 a_14 i_0 i_1 i_2 i_3 i_4 i_5 i_6 i_7 a_15 a_16 a_17 a_18 a_19 a_20 a_21 a_22 a_23 a_24 i_8 i_9 i_10 a_25 f_0 a_8 a_26 i_11 h0 h2) (cwV 1 hts (mm_gV mm_w1240 mm_w1241 mm_w1242 mm_w41 mm_w1243) rfl rfl rfl hd_X3_isTold ⟨by rw [hRf]; exact Nat.le_of_ble_eq_true rfl, by rw [hRl]; exact Nat.le_of_ble_eq_true rfl⟩) (mm_preV hK hZ hS hA hP hD [1, 2, 3, 4, 5] rfl rfl 5 rfl rfl rfl) rfl rfl hl.1 rfl (lv_room (Nat.le_of_ble_eq_true rfl)) dX11_rowTrouble_15 ⟨by rw [hRc]; exact Nat.le_of_ble_eq_true rfl, by rw [hRs]; exact Nat.le_of_ble_eq_true rfl⟩) hP hD hS hA [1, 2, 3, 4, 5] rfl (fun _ => rfl) ?_
    clear hP hD hS
    clear H locs
    intro v3 _u H locs hw hP hD hS
    rcases hw with rfl | ⟨rfl, w4⟩
    · refine lv_if_eq (tgt := 25) hx hb dX11_rowTrouble_18 (by decide) (fun c5 => ?_) (fun c5 => ?_)
      · refine lv_bipush (v := (-2)) hx hb dX11_rowTrouble_25 (by decide) ?_
        subst hAe
        rw [hQ]
        exact W.iret (v := (-2)) hx hb hr (fun t ht hW => ⟨⟨(-2), (), rfl, (Or.inl rfl), by rw [ht]; exact hP, hK.warm hW, hD⟩, hS.F ht⟩) hS.2.2 dX11_rowTrouble_27
      · have q6 := mm_neL (lo := 1) (mm_ne c5) mm_k0 mm_k0 (by decide) (by decide)
        exact mm_no q6 (by decide)
    · refine lv_if_eq (tgt := 25) hx hb dX11_rowTrouble_18 (by decide) (fun c7 => ?_) (fun c7 => ?_)
      · exact mm_eqN c7.symm mm_k0 mm_k1 (by decide)
      · refine lv_iconst (v := 0) hx hb dX11_rowTrouble_21 (by decide) ?_
        refine lv_goto (tgt := 27) hx hb dX11_rowTrouble_22 (by decide) ?_
        subst hAe
        rw [hQ]
        exact W.iret (v := 0) hx hb hr (fun t ht hW => ⟨⟨0, (), rfl, (Or.inr (Or.inr ⟨rfl, w4⟩)), by rw [ht]; exact hP, hK.warm hW, hD⟩, hS.F ht⟩) hS.2.2 dX11_rowTrouble_27
  · have q8 := mm_eqI (lo := 0) (hi := 0) c1 h1 mm_k0 (by decide)
    refine lv_bipush (v := (-6)) hx hb dX11_rowTrouble_7 (by decide) ?_
    subst hAe
    rw [hQ]
    exact W.iret (v := (-6)) hx hb hr (fun t ht hW => ⟨⟨(-6), (), rfl, (Or.inr (Or.inl rfl)), by rw [ht]; exact hP, hK.warm hW, hD⟩, hS.F ht⟩) hS.2.2 dX11_rowTrouble_9

set_option maxHeartbeats 4000000 in
set_option maxRecDepth 100000 in
theorem K441_X11_letterTrouble (l : Launch) (G : va_G) (cy : Nat → ClassId) (sz : Nat) (a_0 : Nat) (i_0 : Int32) (i_1 : Int32) (i_2 : Int32) (a_1 : Nat) (a_2 : Nat) (a_3 : Nat) (a_4 : Nat) (a_5 : Nat) (a_6 : Nat) (a_7 : Nat) (a_8 : Nat) (a_9 : Nat) (a_10 : Nat) (a_11 : Nat) (a_12 : Nat) (a_13 : Nat) (i_3 : Int32) (i_4 : Int32) (i_5 : Int32) (i_6 : Int32) (i_7 : Int32) (i_8 : Int32) (i_9 : Int32) (i_10 : Int32) (a_14 : Nat) (a_15 : Nat) (a_16 : Nat) (a_17 : Nat) (a_18 : Nat) (a_19 : Nat) (a_20 : Nat) (a_21 : Nat) (a_22 : Nat) (a_23 : Nat) (a_24 : Nat) (a_25 : Nat) (a_26 : Nat) (a_27 : Nat) (i_11 : Int32) (i_12 : Int32) (i_13 : Int32) (a_28 : Nat) (f_0 : Nat → Int64) (i_14 : Int32) (i_15 : Int32) (i_16 : Int32) (a_29 : Nat) (f_1 : Nat → Int64) (i_17 : Int32) (i_18 : Int32) (i_19 : Int32) (a_30 : Nat) (f_2 : Nat → Int64) (i_20 : Int32) (i_21 : Int32) (i_22 : Int32) (a_31 : Nat) (f_3 : Nat → Int64) (a_32 : Nat) (i_23 : Int32) (h0 : mm_rg i_2 0 2147483647) (h1 : mm_rg i_8 0 3) (h2 : mm_rg i_9 0 6) (h3 : mm_rg i_11 0 1) (h4 : mm_rg i_13 0 60) (h5 : mm_rg i_14 0 1) (h6 : mm_rg i_16 0 60) (h7 : mm_rg i_17 0 1) (h8 : mm_rg i_19 0 60) (h9 : mm_rg i_20 0 1) (h10 : mm_rg i_22 0 60)  : mm_CI l yX11_letterTrouble (mm_ws yX11_letterTrouble cX11_letterTrouble 4 (some .int)) ({ frames := 2, cells := 0, slots := 0, locals := 47 } : Room) G cy sz [(a_0, .inr (11, [.ref a_1, .ref a_2, .ref a_3, .ref a_4, .ref a_5, .ref a_6, .ref a_7, .ref a_8, .ref a_9, .ref a_10, .ref a_11])), (a_3, .inr (10, [.ref a_12, .ref a_13])), (a_12, .inr (0, [.int i_3, .int i_4, .int i_5, .int i_6, .int i_7, .int i_8, .int i_9, .int i_10, .ref a_14, .ref a_15, .ref a_16, .ref a_17, .ref a_18, .ref a_19, .ref a_20, .ref a_21, .ref a_22, .ref a_23])), (a_6, .inl (cy 6, 4, .inr (.inr (.inr (.inr (va_up (va_up (va_up (va_up (fun _ => none) 0 (some a_24)) 1 (some a_25)) 2 (some a_26)) 3 (some a_27))))))), (a_24, .inr (6, [.int i_11, .int i_12, .int i_13, .ref a_28])), (a_28, .inl (cy 2, 60, .inr (.inl f_0))), (a_25, .inr (6, [.int i_14, .int i_15, .int i_16, .ref a_29])), (a_29, .inl (cy 2, 60, .inr (.inl f_1))), (a_26, .inr (6, [.int i_17, .int i_18, .int i_19, .ref a_30])), (a_30, .inl (cy 2, 60, .inr (.inl f_2))), (a_27, .inr (6, [.int i_20, .int i_21, .int i_22, .ref a_31])), (a_31, .inl (cy 2, 60, .inr (.inl f_3))), (a_8, .inr (3, [.ref a_3, .ref a_7, .ref a_32, .int i_23]))] [.ref a_0, .int i_0, .int i_1, .int i_2] (fun u : Unit => [(a_0, .inr (11, [.ref a_1, .ref a_2, .ref a_3, .ref a_4, .ref a_5, .ref a_6, .ref a_7, .ref a_8, .ref a_9, .ref a_10, .ref a_11])), (a_3, .inr (10, [.ref a_12, .ref a_13])), (a_12, .inr (0, [.int i_3, .int i_4, .int i_5, .int i_6, .int i_7, .int i_8, .int i_9, .int i_10, .ref a_14, .ref a_15, .ref a_16, .ref a_17, .ref a_18, .ref a_19, .ref a_20, .ref a_21, .ref a_22, .ref a_23])), (a_6, .inl (cy 6, 4, .inr (.inr (.inr (.inr (va_up (va_up (va_up (va_up (fun _ => none) 0 (some a_24)) 1 (some a_25)) 2 (some a_26)) 3 (some a_27))))))), (a_24, .inr (6, [.int i_11, .int i_12, .int i_13, .ref a_28])), (a_28, .inl (cy 2, 60, .inr (.inl f_0))), (a_25, .inr (6, [.int i_14, .int i_15, .int i_16, .ref a_29])), (a_29, .inl (cy 2, 60, .inr (.inl f_1))), (a_26, .inr (6, [.int i_17, .int i_18, .int i_19, .ref a_30])), (a_30, .inl (cy 2, 60, .inr (.inl f_2))), (a_27, .inr (6, [.int i_20, .int i_21, .int i_22, .ref a_31])), (a_31, .inl (cy 2, 60, .inr (.inl f_3))), (a_8, .inr (3, [.ref a_3, .ref a_7, .ref a_32, .int i_23]))]) (fun (r : Int32) (u : Unit) => (((-2) = r) ∨ ((-6) = r ∧ mm_rg i_0 0 3 ∧ mm_rg i_1 0 2 ∧ mm_rg i_2 0 1000000000) ∨ (0 = r ∧ mm_rg i_0 0 0 ∧ mm_rg i_1 0 2 ∧ mm_rg i_2 0 1000000000 ∧ mm_told f_0 i_13 i_9) ∨ (0 = r ∧ mm_rg i_0 1 1 ∧ mm_rg i_1 0 2 ∧ mm_rg i_2 0 1000000000 ∧ mm_told f_1 i_16 i_9) ∨ (0 = r ∧ mm_rg i_0 2 2 ∧ mm_rg i_1 0 2 ∧ mm_rg i_2 0 1000000000 ∧ mm_told f_2 i_19 i_9) ∨ (0 = r ∧ mm_rg i_0 3 3 ∧ mm_rg i_1 0 2 ∧ mm_rg i_2 0 1000000000 ∧ mm_told f_3 i_22 i_9))) 0 0 := by
  refine mm_begin (lv := [(0, .ref a_0), (1, .int i_0), (2, .int i_1), (3, .int i_2)]) (by decide) (Nat.le_of_ble_eq_true rfl) rfl ?_
  intro p e s m below meth c A ls R args Q H locs hRe hQ hAe hx hb hr hlocks hml hown hnm hts hsz hA hS hP hK hD hZ hl
  have hRf : R.frames = 2 := by rw [hRe]
  have hRl : R.locals = 47 := by rw [hRe]
  have hRc : R.cells = 0 := by rw [hRe]
  have hRs : R.slots = 0 := by rw [hRe]
  refine lv_iload_n hx hb dX11_letterTrouble_0 rfl (lv_at hl 1 rfl) ?_
  refine mm_finir (va_runS (As := [.int i_0]) (rest := []) ⟨hx, hb, hml, hown, hts⟩ (K437_X11_isSlot l G cy H.size i_0 ) (va_cwS 1 hts (mm_gS mm_w1232 mm_w1233 mm_w2 mm_w1234) rfl rfl rfl hs_X11_isSlot ⟨by rw [hRf]; exact Nat.le_of_ble_eq_true rfl, by rw [hRl]; exact Nat.le_of_ble_eq_true rfl⟩) (mm_preS hK hZ hS hA hP hD [] rfl rfl) rfl rfl hl.1 rfl (lv_room (Nat.le_of_ble_eq_true rfl)) dX11_letterTrouble_1 ⟨by rw [hRc]; exact Nat.le_of_ble_eq_true rfl, by rw [hRs]; exact Nat.le_of_ble_eq_true rfl⟩) hP hD hS hA [] rfl (fun _ => rfl) ?_
  clear hP hD hS
  clear H locs
  intro v1 _u H locs hw hP hD hS
  rcases hw with ⟨rfl, w2⟩ | ⟨rfl, w3⟩
  · refine lv_if_eq (tgt := 22) hx hb dX11_letterTrouble_4 (by decide) (fun c4 => ?_) (fun c4 => ?_)
    · refine lv_bipush (v := (-2)) hx hb dX11_letterTrouble_22 (by decide) ?_
      subst hAe
      rw [hQ]
      exact W.iret (v := (-2)) hx hb hr (fun t ht hW => ⟨⟨(-2), (), rfl, (Or.inl rfl), by rw [ht]; exact hP, hK.warm hW, hD⟩, hS.F ht⟩) hS.2.2 dX11_letterTrouble_24
    · have q5 := mm_neL (lo := 1) (mm_ne c4) mm_k0 mm_k0 (by decide) (by decide)
      exact mm_no q5 (by decide)
  · refine lv_if_eq (tgt := 22) hx hb dX11_letterTrouble_4 (by decide) (fun c6 => ?_) (fun c6 => ?_)
    · exact mm_eqN c6.symm mm_k0 mm_k1 (by decide)
    · refine lv_aload_n hx hb dX11_letterTrouble_7 rfl (lv_at hl 0 rfl) ?_
      refine lv_iload_n hx hb dX11_letterTrouble_8 rfl (lv_at hl 2 rfl) ?_
      refine mm_finir (va_runV (As := [.int i_1]) (rest := []) ⟨hx, hb, hml, hown, hts⟩ (K350_X11_isLand l G cy H.size a_0 i_1 a_1 a_2 a_3 a_4 a_5 a_6 a_7 a_8 a_9 a_10 a_11 a_12 a_13 i_3 i_4 i_5 i_6 i_7 i_8 i_9 i_10 a_14 a_15 a_16 a_17 a_18 a_19 a_20 a_21 a_22 a_23 h1) (cwV 1 hts (mm_gV mm_w626 mm_w627 mm_w628 mm_w2 mm_w629) rfl rfl rfl hd_X11_isLand ⟨by rw [hRf]; exact Nat.le_of_ble_eq_true rfl, by rw [hRl]; exact Nat.le_of_ble_eq_true rfl⟩) (mm_preV hK hZ hS hA hP hD [0, 1, 2] rfl rfl 0 rfl rfl rfl) rfl rfl hl.1 rfl (lv_room (Nat.le_of_ble_eq_true rfl)) dX11_letterTrouble_9 ⟨by rw [hRc]; exact Nat.le_of_ble_eq_true rfl, by rw [hRs]; exact Nat.le_of_ble_eq_true rfl⟩) hP hD hS hA [0, 1, 2] rfl (fun _ => rfl) ?_
      clear hP hD hS
      clear H locs
      intro v7 _u H locs hw hP hD hS
      rcases hw with ⟨rfl, w8⟩ | ⟨rfl, w9⟩
      · refine lv_if_eq (tgt := 22) hx hb dX11_letterTrouble_12 (by decide) (fun c10 => ?_) (fun c10 => ?_)
        · refine lv_bipush (v := (-2)) hx hb dX11_letterTrouble_22 (by decide) ?_
          subst hAe
          rw [hQ]
          exact W.iret (v := (-2)) hx hb hr (fun t ht hW => ⟨⟨(-2), (), rfl, (Or.inl rfl), by rw [ht]; exact hP, hK.warm hW, hD⟩, hS.F ht⟩) hS.2.2 dX11_letterTrouble_24
        · have q11 := mm_neL (lo := 1) (mm_ne c10) mm_k0 mm_k0 (by decide) (by decide)
          exact mm_no q11 (by decide)
      · refine lv_if_eq (tgt := 22) hx hb dX11_letterTrouble_12 (by decide) (fun c12 => ?_) (fun c12 => ?_)
        · exact mm_eqN c12.symm mm_k0 mm_k1 (by decide)
        · refine lv_iload_n hx hb dX11_letterTrouble_15 rfl (lv_at hl 3 rfl) ?_
          refine mm_finir (va_runS (As := [.int i_2]) (rest := []) ⟨hx, hb, hml, hown, hts⟩ (K438_X11_isDay l G cy H.size i_2 h0) (va_cwS 1 hts (mm_gS mm_w661 mm_w662 mm_w2 mm_w663) rfl rfl rfl hs_X11_isDay ⟨by rw [hRf]; exact Nat.le_of_ble_eq_true rfl, by rw [hRl]; exact Nat.le_of_ble_eq_true rfl⟩) (mm_preS hK hZ hS hA hP hD [] rfl rfl) rfl rfl hl.1 rfl (lv_room (Nat.le_of_ble_eq_true rfl)) dX11_letterTrouble_16 ⟨by rw [hRc]; exact Nat.le_of_ble_eq_true rfl, by rw [hRs]; exact Nat.le_of_ble_eq_true rfl⟩) hP hD hS hA [] rfl (fun _ => rfl) ?_
          clear hP hD hS
          clear H locs
          intro v13 _u H locs hw hP hD hS
          rcases hw with ⟨rfl, w14⟩ | ⟨rfl, w15⟩
          · refine lv_if_ne (tgt := 25) hx hb dX11_letterTrouble_19 (by decide) (fun c16 => ?_) (fun c16 => ?_)
            · have q17 := mm_neL (lo := 1) (mm_ne c16) mm_k0 mm_k0 (by decide) (by decide)
              exact mm_no q17 (by decide)
            · refine lv_bipush (v := (-2)) hx hb dX11_letterTrouble_22 (by decide) ?_
              subst hAe
              rw [hQ]
              exact W.iret (v := (-2)) hx hb hr (fun t ht hW => ⟨⟨(-2), (), rfl, (Or.inl rfl), by rw [ht]; exact hP, hK.warm hW, hD⟩, hS.F ht⟩) hS.2.2 dX11_letterTrouble_24
          · refine lv_if_ne (tgt := 25) hx hb dX11_letterTrouble_19 (by decide) (fun c18 => ?_) (fun c18 => ?_)
            · refine lv_aload_n hx hb dX11_letterTrouble_25 rfl (lv_at hl 0 rfl) ?_
              refine lv_aload_n hx hb dX11_letterTrouble_26 rfl (lv_at hl 0 rfl) ?_
              refine va_get (D := G) (ci := 11) (v := .ref a_6) (C := RX11) (T := TX11) (N := 11) hx hb hts (mm_i inlX11) hown hK.1 hP 0 rfl rfl 5 (by decide) (mm_h hts mm_w32) (fun _ h9 => h9) rfl dX11_letterTrouble_27 ?_
              refine lv_iload_n hx hb dX11_letterTrouble_30 rfl (lv_at hl 1 rfl) ?_
              refine va_aldq hx hb hK.1 hP 3 6 rfl rfl (mm_in w3 (by decide)) dX11_letterTrouble_31 ?_
              have c19 := mm_cases4 w3
              rcases c19 with rfl | rfl | rfl | rfl
              · refine W.eq (g2 := F0 m 32 ls [.ref a_24, .ref a_0]) rfl ?_
                refine mm_finir (va_runV (As := [.ref a_24]) (rest := []) ⟨hx, hb, hml, hown, hts⟩ (K440_X11_rowTrouble l G cy H.size a_0 a_24 a_1 a_2 a_3 a_4 a_5 a_6 a_7 a_8 a_9 a_10 a_11 a_12 a_13 i_3 i_4 i_5 i_6 i_7 i_8 i_9 i_10 a_14 a_15 a_16 a_17 a_18 a_19 a_20 a_21 a_22 a_23 i_11 i_12 i_13 a_28 f_0 a_32 i_23 h2 h3 h4) (cwV 1 hts (mm_gV mm_w1235 mm_w1236 mm_w1237 mm_w2 mm_w1238) rfl rfl rfl hd_X11_rowTrouble ⟨by rw [hRf]; exact Nat.le_of_ble_eq_true rfl, by rw [hRl]; exact Nat.le_of_ble_eq_true rfl⟩) (mm_preV hK hZ hS hA hP hD [0, 1, 2, 4, 5, 12] rfl rfl 0 rfl rfl rfl) rfl rfl hl.1 rfl (lv_room (Nat.le_of_ble_eq_true rfl)) dX11_letterTrouble_32 ⟨by rw [hRc]; exact Nat.le_of_ble_eq_true rfl, by rw [hRs]; exact Nat.le_of_ble_eq_true rfl⟩) hP hD hS hA [0, 1, 2, 4, 5, 12] rfl (fun _ => rfl) ?_
                clear hP hD hS
                clear H locs
                intro v20 _u H locs hw hP hD hS
                rcases hw with rfl | rfl | ⟨rfl, w21⟩
                · subst hAe
                  rw [hQ]
                  exact W.iret (v := (-2)) hx hb hr (fun t ht hW => ⟨⟨(-2), (), rfl, (Or.inl rfl), by rw [ht]; exact hP, hK.warm hW, hD⟩, hS.F ht⟩) hS.2.2 dX11_letterTrouble_35
                · subst hAe
                  rw [hQ]
                  exact W.iret (v := (-6)) hx hb hr (fun t ht hW => ⟨⟨(-6), (), rfl, (Or.inr (Or.inl ⟨rfl, (mm_wk mm_k0 (by decide)), w9, w15⟩)), by rw [ht]; exact hP, hK.warm hW, hD⟩, hS.F ht⟩) hS.2.2 dX11_letterTrouble_35
                · subst hAe
                  rw [hQ]
                  exact W.iret (v := 0) hx hb hr (fun t ht hW => ⟨⟨0, (), rfl, (Or.inr (Or.inr (Or.inl ⟨rfl, mm_k0, w9, w15, w21⟩))), by rw [ht]; exact hP, hK.warm hW, hD⟩, hS.F ht⟩) hS.2.2 dX11_letterTrouble_35
              · refine W.eq (g2 := F0 m 32 ls [.ref a_25, .ref a_0]) rfl ?_
                refine mm_finir (va_runV (As := [.ref a_25]) (rest := []) ⟨hx, hb, hml, hown, hts⟩ (K440_X11_rowTrouble l G cy H.size a_0 a_25 a_1 a_2 a_3 a_4 a_5 a_6 a_7 a_8 a_9 a_10 a_11 a_12 a_13 i_3 i_4 i_5 i_6 i_7 i_8 i_9 i_10 a_14 a_15 a_16 a_17 a_18 a_19 a_20 a_21 a_22 a_23 i_14 i_15 i_16 a_29 f_1 a_32 i_23 h2 h5 h6) (cwV 1 hts (mm_gV mm_w1235 mm_w1236 mm_w1237 mm_w2 mm_w1238) rfl rfl rfl hd_X11_rowTrouble ⟨by rw [hRf]; exact Nat.le_of_ble_eq_true rfl, by rw [hRl]; exact Nat.le_of_ble_eq_true rfl⟩) (mm_preV hK hZ hS hA hP hD [0, 1, 2, 6, 7, 12] rfl rfl 0 rfl rfl rfl) rfl rfl hl.1 rfl (lv_room (Nat.le_of_ble_eq_true rfl)) dX11_letterTrouble_32 ⟨by rw [hRc]; exact Nat.le_of_ble_eq_true rfl, by rw [hRs]; exact Nat.le_of_ble_eq_true rfl⟩) hP hD hS hA [0, 1, 2, 6, 7, 12] rfl (fun _ => rfl) ?_
                clear hP hD hS
                clear H locs
                intro v22 _u H locs hw hP hD hS
                rcases hw with rfl | rfl | ⟨rfl, w23⟩
                · subst hAe
                  rw [hQ]
                  exact W.iret (v := (-2)) hx hb hr (fun t ht hW => ⟨⟨(-2), (), rfl, (Or.inl rfl), by rw [ht]; exact hP, hK.warm hW, hD⟩, hS.F ht⟩) hS.2.2 dX11_letterTrouble_35
                · subst hAe
                  rw [hQ]
                  exact W.iret (v := (-6)) hx hb hr (fun t ht hW => ⟨⟨(-6), (), rfl, (Or.inr (Or.inl ⟨rfl, (mm_wk mm_k1 (by decide)), w9, w15⟩)), by rw [ht]; exact hP, hK.warm hW, hD⟩, hS.F ht⟩) hS.2.2 dX11_letterTrouble_35
                · subst hAe
                  rw [hQ]
                  exact W.iret (v := 0) hx hb hr (fun t ht hW => ⟨⟨0, (), rfl, (Or.inr (Or.inr (Or.inr (Or.inl ⟨rfl, mm_k1, w9, w15, w23⟩)))), by rw [ht]; exact hP, hK.warm hW, hD⟩, hS.F ht⟩) hS.2.2 dX11_letterTrouble_35
              · refine W.eq (g2 := F0 m 32 ls [.ref a_26, .ref a_0]) rfl ?_
                refine mm_finir (va_runV (As := [.ref a_26]) (rest := []) ⟨hx, hb, hml, hown, hts⟩ (K440_X11_rowTrouble l G cy H.size a_0 a_26 a_1 a_2 a_3 a_4 a_5 a_6 a_7 a_8 a_9 a_10 a_11 a_12 a_13 i_3 i_4 i_5 i_6 i_7 i_8 i_9 i_10 a_14 a_15 a_16 a_17 a_18 a_19 a_20 a_21 a_22 a_23 i_17 i_18 i_19 a_30 f_2 a_32 i_23 h2 h7 h8) (cwV 1 hts (mm_gV mm_w1235 mm_w1236 mm_w1237 mm_w2 mm_w1238) rfl rfl rfl hd_X11_rowTrouble ⟨by rw [hRf]; exact Nat.le_of_ble_eq_true rfl, by rw [hRl]; exact Nat.le_of_ble_eq_true rfl⟩) (mm_preV hK hZ hS hA hP hD [0, 1, 2, 8, 9, 12] rfl rfl 0 rfl rfl rfl) rfl rfl hl.1 rfl (lv_room (Nat.le_of_ble_eq_true rfl)) dX11_letterTrouble_32 ⟨by rw [hRc]; exact Nat.le_of_ble_eq_true rfl, by rw [hRs]; exact Nat.le_of_ble_eq_true rfl⟩) hP hD hS hA [0, 1, 2, 8, 9, 12] rfl (fun _ => rfl) ?_
                clear hP hD hS
                clear H locs
                intro v24 _u H locs hw hP hD hS
                rcases hw with rfl | rfl | ⟨rfl, w25⟩
                · subst hAe
                  rw [hQ]
                  exact W.iret (v := (-2)) hx hb hr (fun t ht hW => ⟨⟨(-2), (), rfl, (Or.inl rfl), by rw [ht]; exact hP, hK.warm hW, hD⟩, hS.F ht⟩) hS.2.2 dX11_letterTrouble_35
                · subst hAe
                  rw [hQ]
                  exact W.iret (v := (-6)) hx hb hr (fun t ht hW => ⟨⟨(-6), (), rfl, (Or.inr (Or.inl ⟨rfl, (mm_wk mm_k2 (by decide)), w9, w15⟩)), by rw [ht]; exact hP, hK.warm hW, hD⟩, hS.F ht⟩) hS.2.2 dX11_letterTrouble_35
                · subst hAe
                  rw [hQ]
                  exact W.iret (v := 0) hx hb hr (fun t ht hW => ⟨⟨0, (), rfl, (Or.inr (Or.inr (Or.inr (Or.inr (Or.inl ⟨rfl, mm_k2, w9, w15, w25⟩))))), by rw [ht]; exact hP, hK.warm hW, hD⟩, hS.F ht⟩) hS.2.2 dX11_letterTrouble_35
              · refine W.eq (g2 := F0 m 32 ls [.ref a_27, .ref a_0]) rfl ?_
                refine mm_finir (va_runV (As := [.ref a_27]) (rest := []) ⟨hx, hb, hml, hown, hts⟩ (K440_X11_rowTrouble l G cy H.size a_0 a_27 a_1 a_2 a_3 a_4 a_5 a_6 a_7 a_8 a_9 a_10 a_11 a_12 a_13 i_3 i_4 i_5 i_6 i_7 i_8 i_9 i_10 a_14 a_15 a_16 a_17 a_18 a_19 a_20 a_21 a_22 a_23 i_20 i_21 i_22 a_31 f_3 a_32 i_23 h2 h9 h10) (cwV 1 hts (mm_gV mm_w1235 mm_w1236 mm_w1237 mm_w2 mm_w1238) rfl rfl rfl hd_X11_rowTrouble ⟨by rw [hRf]; exact Nat.le_of_ble_eq_true rfl, by rw [hRl]; exact Nat.le_of_ble_eq_true rfl⟩) (mm_preV hK hZ hS hA hP hD [0, 1, 2, 10, 11, 12] rfl rfl 0 rfl rfl rfl) rfl rfl hl.1 rfl (lv_room (Nat.le_of_ble_eq_true rfl)) dX11_letterTrouble_32 ⟨by rw [hRc]; exact Nat.le_of_ble_eq_true rfl, by rw [hRs]; exact Nat.le_of_ble_eq_true rfl⟩) hP hD hS hA [0, 1, 2, 10, 11, 12] rfl (fun _ => rfl) ?_
                clear hP hD hS
                clear H locs
                intro v26 _u H locs hw hP hD hS
                rcases hw with rfl | rfl | ⟨rfl, w27⟩
                · subst hAe
                  rw [hQ]
                  exact W.iret (v := (-2)) hx hb hr (fun t ht hW => ⟨⟨(-2), (), rfl, (Or.inl rfl), by rw [ht]; exact hP, hK.warm hW, hD⟩, hS.F ht⟩) hS.2.2 dX11_letterTrouble_35
                · subst hAe
                  rw [hQ]
                  exact W.iret (v := (-6)) hx hb hr (fun t ht hW => ⟨⟨(-6), (), rfl, (Or.inr (Or.inl ⟨rfl, (mm_wk mm_k3 (by decide)), w9, w15⟩)), by rw [ht]; exact hP, hK.warm hW, hD⟩, hS.F ht⟩) hS.2.2 dX11_letterTrouble_35
                · subst hAe
                  rw [hQ]
                  exact W.iret (v := 0) hx hb hr (fun t ht hW => ⟨⟨0, (), rfl, (Or.inr (Or.inr (Or.inr (Or.inr (Or.inr ⟨rfl, mm_k3, w9, w15, w27⟩))))), by rw [ht]; exact hP, hK.warm hW, hD⟩, hS.F ht⟩) hS.2.2 dX11_letterTrouble_35
            · exact mm_eqN c18.symm mm_k0 mm_k1 (by decide)

set_option maxHeartbeats 4000000 in
set_option maxRecDepth 100000 in
theorem K442_X3_fits (l : Launch) (G : va_G) (cy : Nat → ClassId) (sz : Nat) (a_0 : Nat) (a_1 : Nat) (i_0 : Int32) (i_1 : Int32) (a_2 : Nat) (a_3 : Nat) (a_4 : Nat) (i_2 : Int32) (i_3 : Int32) (i_4 : Int32) (i_5 : Int32) (i_6 : Int32) (i_7 : Int32) (i_8 : Int32) (i_9 : Int32) (a_5 : Nat) (a_6 : Nat) (a_7 : Nat) (a_8 : Nat) (a_9 : Nat) (a_10 : Nat) (a_11 : Nat) (a_12 : Nat) (a_13 : Nat) (a_14 : Nat) (f_0 : Nat → Int32) (f_1 : Nat → Int32) (f_2 : Nat → Int32) (f_3 : Nat → Int32) (f_4 : Nat → Int32) (a_15 : Nat) (a_16 : Nat) (a_17 : Nat) (a_18 : Nat) (a_19 : Nat) (i_10 : Int32) (i_11 : Int32) (i_12 : Int32) (f_5 : Nat → Int32) (a_20 : Nat) (a_21 : Nat) (i_13 : Int32) (i_14 : Int32) (i_15 : Int32) (f_6 : Nat → Int32) (a_22 : Nat) (a_23 : Nat) (i_16 : Int32) (i_17 : Int32) (i_18 : Int32) (f_7 : Nat → Int32) (i_19 : Int32) (i_20 : Int32) (i_21 : Int32) (a_24 : Nat) (f_8 : Nat → Int64) (a_25 : Nat) (a_26 : Nat) (i_22 : Int32) (h0 : mm_rg i_0 0 2) (h1 : mm_rg i_1 0 2147483647) (h2 : mm_rg i_5 0 99) (h3 : mm_rg i_6 0 9) (h4 : mm_rg i_8 0 6) (h5 : mm_ar f_0 (-1) 4) (h6 : mm_ar f_1 0 99) (h7 : mm_ar f_2 0 8) (h8 : mm_ar f_3 0 9) (h9 : mm_ar f_4 0 9) (h10 : mm_rg i_12 (-2147483648) 210) (h11 : mm_ar f_5 0 9) (h12 : mm_rg i_15 (-2147483648) 210) (h13 : mm_ar f_6 0 9) (h14 : mm_rg i_18 (-2147483648) 210) (h15 : mm_ar f_7 0 9) (h16 : mm_rg i_21 0 60) (h17 : mm_told f_8 i_21 i_8)  : mm_CI l yX3_fits (mm_ws yX3_fits cX3_fits 5 (some .boolean)) ({ frames := 4, cells := 0, slots := 0, locals := 111 } : Room) G cy sz [(a_2, .inr (10, [.ref a_3, .ref a_4])), (a_3, .inr (0, [.int i_2, .int i_3, .int i_4, .int i_5, .int i_6, .int i_7, .int i_8, .int i_9, .ref a_5, .ref a_6, .ref a_7, .ref a_8, .ref a_9, .ref a_10, .ref a_11, .ref a_12, .ref a_13, .ref a_14])), (a_5, .inl (cy 1, 9, .inl f_0)), (a_6, .inl (cy 1, 9, .inl f_1)), (a_9, .inl (cy 1, 6, .inl f_2)), (a_10, .inl (cy 1, 48, .inl f_3)), (a_11, .inl (cy 1, 30, .inl f_4)), (a_4, .inl (cy 5, 3, .inr (.inr (.inr (.inr (va_up (va_up (va_up (fun _ => none) 0 (some a_15)) 1 (some a_16)) 2 (some a_17))))))), (a_15, .inr (1, [.ref a_18, .ref a_19, .int i_10, .int i_11, .int i_12])), (a_18, .inl (cy 1, 2100, .inl f_5)), (a_16, .inr (1, [.ref a_20, .ref a_21, .int i_13, .int i_14, .int i_15])), (a_20, .inl (cy 1, 2100, .inl f_6)), (a_17, .inr (1, [.ref a_22, .ref a_23, .int i_16, .int i_17, .int i_18])), (a_22, .inl (cy 1, 2100, .inl f_7)), (a_1, .inr (6, [.int i_19, .int i_20, .int i_21, .ref a_24])), (a_24, .inl (cy 2, 60, .inr (.inl f_8))), (a_0, .inr (3, [.ref a_2, .ref a_25, .ref a_26, .int i_22]))] [.ref a_0, .ref a_1, .int i_0, .int i_1] (fun u : Unit => [(a_2, .inr (10, [.ref a_3, .ref a_4])), (a_3, .inr (0, [.int i_2, .int i_3, .int i_4, .int i_5, .int i_6, .int i_7, .int i_8, .int i_9, .ref a_5, .ref a_6, .ref a_7, .ref a_8, .ref a_9, .ref a_10, .ref a_11, .ref a_12, .ref a_13, .ref a_14])), (a_5, .inl (cy 1, 9, .inl f_0)), (a_6, .inl (cy 1, 9, .inl f_1)), (a_9, .inl (cy 1, 6, .inl f_2)), (a_10, .inl (cy 1, 48, .inl f_3)), (a_11, .inl (cy 1, 30, .inl f_4)), (a_4, .inl (cy 5, 3, .inr (.inr (.inr (.inr (va_up (va_up (va_up (fun _ => none) 0 (some a_15)) 1 (some a_16)) 2 (some a_17))))))), (a_15, .inr (1, [.ref a_18, .ref a_19, .int i_10, .int i_11, .int i_12])), (a_18, .inl (cy 1, 2100, .inl f_5)), (a_16, .inr (1, [.ref a_20, .ref a_21, .int i_13, .int i_14, .int i_15])), (a_20, .inl (cy 1, 2100, .inl f_6)), (a_17, .inr (1, [.ref a_22, .ref a_23, .int i_16, .int i_17, .int i_18])), (a_22, .inl (cy 1, 2100, .inl f_7)), (a_1, .inr (6, [.int i_19, .int i_20, .int i_21, .ref a_24])), (a_24, .inl (cy 2, 60, .inr (.inl f_8))), (a_0, .inr (3, [.ref a_2, .ref a_25, .ref a_26, .int i_22]))]) (fun (r : Int32) (u : Unit) => ((0 = r) ∨ (1 = r))) 0 0 := by
  refine mm_begin (lv := [(0, .ref a_0), (1, .ref a_1), (2, .int i_0), (3, .int i_1)]) (by decide) (Nat.le_of_ble_eq_true rfl) rfl ?_
  intro p e s m below meth c A ls R args Q H locs hRe hQ hAe hx hb hr hlocks hml hown hnm hts hsz hA hS hP hK hD hZ hl
  have hRf : R.frames = 4 := by rw [hRe]
  have hRl : R.locals = 111 := by rw [hRe]
  have hRc : R.cells = 0 := by rw [hRe]
  have hRs : R.slots = 0 := by rw [hRe]
  refine lv_iconst (v := 0) hx hb dX3_fits_0 (by decide) ?_
  refine lv_istore (lv' := [(4, .int 0), (0, .ref a_0), (1, .ref a_1), (2, .int i_0), (3, .int i_1)]) hx hb dX3_fits_1 hl (by decide) rfl ?_
  clear hl
  clear ls
  intro ls hl
  have L3_137 : ∀ (n : Nat) (x3_4_136 : Int32), mm_rg x3_4_136 0 60 → mm_evn x3_4_136 → (60 - x3_4_136.toInt).toNat < n → ∀ (H : Heap) (locs : List Loc), va_P G vwCl [(a_2, .inr (10, [.ref a_3, .ref a_4])), (a_3, .inr (0, [.int i_2, .int i_3, .int i_4, .int i_5, .int i_6, .int i_7, .int i_8, .int i_9, .ref a_5, .ref a_6, .ref a_7, .ref a_8, .ref a_9, .ref a_10, .ref a_11, .ref a_12, .ref a_13, .ref a_14])), (a_5, .inl (cy 1, 9, .inl f_0)), (a_6, .inl (cy 1, 9, .inl f_1)), (a_9, .inl (cy 1, 6, .inl f_2)), (a_10, .inl (cy 1, 48, .inl f_3)), (a_11, .inl (cy 1, 30, .inl f_4)), (a_4, .inl (cy 5, 3, .inr (.inr (.inr (.inr (va_up (va_up (va_up (fun _ => none) 0 (some a_15)) 1 (some a_16)) 2 (some a_17))))))), (a_15, .inr (1, [.ref a_18, .ref a_19, .int i_10, .int i_11, .int i_12])), (a_18, .inl (cy 1, 2100, .inl f_5)), (a_16, .inr (1, [.ref a_20, .ref a_21, .int i_13, .int i_14, .int i_15])), (a_20, .inl (cy 1, 2100, .inl f_6)), (a_17, .inr (1, [.ref a_22, .ref a_23, .int i_16, .int i_17, .int i_18])), (a_22, .inl (cy 1, 2100, .inl f_7)), (a_1, .inr (6, [.int i_19, .int i_20, .int i_21, .ref a_24])), (a_24, .inl (cy 2, 60, .inr (.inl f_8))), (a_0, .inr (3, [.ref a_2, .ref a_25, .ref a_26, .int i_22]))] H → va_D A [(a_2, .inr (10, [.ref a_3, .ref a_4])), (a_3, .inr (0, [.int i_2, .int i_3, .int i_4, .int i_5, .int i_6, .int i_7, .int i_8, .int i_9, .ref a_5, .ref a_6, .ref a_7, .ref a_8, .ref a_9, .ref a_10, .ref a_11, .ref a_12, .ref a_13, .ref a_14])), (a_5, .inl (cy 1, 9, .inl f_0)), (a_6, .inl (cy 1, 9, .inl f_1)), (a_9, .inl (cy 1, 6, .inl f_2)), (a_10, .inl (cy 1, 48, .inl f_3)), (a_11, .inl (cy 1, 30, .inl f_4)), (a_4, .inl (cy 5, 3, .inr (.inr (.inr (.inr (va_up (va_up (va_up (fun _ => none) 0 (some a_15)) 1 (some a_16)) 2 (some a_17))))))), (a_15, .inr (1, [.ref a_18, .ref a_19, .int i_10, .int i_11, .int i_12])), (a_18, .inl (cy 1, 2100, .inl f_5)), (a_16, .inr (1, [.ref a_20, .ref a_21, .int i_13, .int i_14, .int i_15])), (a_20, .inl (cy 1, 2100, .inl f_6)), (a_17, .inr (1, [.ref a_22, .ref a_23, .int i_16, .int i_17, .int i_18])), (a_22, .inl (cy 1, 2100, .inl f_7)), (a_1, .inr (6, [.int i_19, .int i_20, .int i_21, .ref a_24])), (a_24, .inl (cy 2, 60, .inr (.inl f_8))), (a_0, .inr (3, [.ref a_2, .ref a_25, .ref a_26, .int i_22]))] → va_S A s.heap H locs → ∀ (ls : Array Slot), lv_has ls 5 [(4, .int x3_4_136), (0, .ref a_0), (1, .ref a_1), (2, .int i_0), (3, .int i_1)] → W p l e R s m args below meth c H locs 0 0 Q (F0 m 3 ls []) := by
    intro n
    induction n with
    | zero => intro x3_4_136 rx3_4_136 w137 hm; exact absurd hm (Nat.not_lt_zero _)
    | succ n ih3 =>
      intro x3_4_136 rx3_4_136 w137 hm3 H locs hP hD hS ls hl
      refine lv_iload hx hb dX3_fits_3 (lv_at hl 0 rfl) ?_
      refine lv_iconst (v := 1) hx hb dX3_fits_5 (by decide) ?_
      refine lv_iadd hx hb dX3_fits_6 ?_
      refine lv_topi (fun v139 ev139 => ?_)
      have rv139 : mm_rg v139 1 61 := mm_add ev139 rx3_4_136 mm_k1 (by decide) (by decide)
      have tv139 := mm_addEc ev139 rx3_4_136 mm_k1 (by decide) (k := 1) (by decide)
      refine lv_aload_n hx hb dX3_fits_7 rfl (lv_at hl 2 rfl) ?_
      refine va_get (D := G) (ci := 6) (v := .int i_21) (C := RX6) (T := TX6) (N := 4) hx hb hts (mm_i inlX6) hown hK.1 hP 14 rfl rfl 2 (by decide) (mm_h hts mm_w1244) (fun _ h9 => h9) rfl dX3_fits_8 ?_
      refine lv_icmp_ge (tgt := 53) hx hb dX3_fits_11 (by decide) (fun c140 => ?_) (fun c140 => ?_)
      · refine lv_iconst (v := 1) hx hb dX3_fits_53 (by decide) ?_
        subst hAe
        rw [hQ]
        exact W.zret (v := 1) hx hb hr rfl (fun t ht hW => ⟨⟨1, (), rfl, (Or.inr rfl), by rw [ht]; exact hP, hK.warm hW, hD⟩, hS.F ht⟩) hS.2.2 dX3_fits_54
      · have q141 := mm_ltL (h := 59) (mm_nle c140) rv139 h16 (by decide)
        have q142 := mm_ltR (lo := 2) (mm_nle c140) rv139 h16 (by decide)
        have q143 : mm_rg x3_4_136 0 58 := mm_unadd tv139 q141 rx3_4_136 (by decide) (by decide)
        refine lv_aload_n hx hb dX3_fits_14 rfl (lv_at hl 1 rfl) ?_
        refine va_get (D := G) (ci := 3) (v := .ref a_2) (C := RX3) (T := TX3) (N := 4) hx hb hts (mm_i inlX3) hown hK.1 hP 16 rfl rfl 0 (by decide) (mm_h hts mm_w114) (fun _ h9 => h9) rfl dX3_fits_15 ?_
        refine lv_iload_n hx hb dX3_fits_18 rfl (lv_at hl 3 rfl) ?_
        refine lv_iload_n hx hb dX3_fits_19 rfl (lv_at hl 4 rfl) ?_
        refine lv_aload_n hx hb dX3_fits_20 rfl (lv_at hl 2 rfl) ?_
        refine va_get (D := G) (ci := 6) (v := .ref a_24) (C := RX6) (T := TX6) (N := 4) hx hb hts (mm_i inlX6) hown hK.1 hP 14 rfl rfl 3 (by decide) (mm_h hts mm_w1245) (fun _ h9 => h9) rfl dX3_fits_21 ?_
        refine lv_iload hx hb dX3_fits_24 (lv_at hl 0 rfl) ?_
        refine va_lald hx hb hK.1 hP 15 2 rfl rfl (mm_in q143 (by decide)) dX3_fits_26 ?_
        refine lv_topl (fun v144 ev144 => ?_)
        have q145 : mm_rl v144 0 5 := mm_told_ld h17 w137 ev144 tv139 (mm_nle c140) q143 h4 (by decide)
        obtain ⟨v146, ev146⟩ : ∃ y : Int32, y = v144.toInt32 := ⟨_, rfl⟩
        refine lv_l2i hx hb dX3_fits_27 ev146.symm ?_
        have rv146 : mm_rg v146 0 5 := mm_l2i ev146 q145 (by decide)
        refine mm_finir (va_runV (As := [.int i_0, .int i_1, .int v146]) (rest := []) ⟨hx, hb, hml, hown, hts⟩ (K374_X10_leaving l G cy H.size a_2 i_0 i_1 v146 a_3 a_4 i_2 i_3 i_4 i_5 i_6 i_7 i_8 i_9 a_5 a_6 a_7 a_8 a_9 a_10 a_11 a_12 a_13 a_14 f_0 f_1 f_2 f_3 f_4 a_15 a_16 a_17 a_18 a_19 i_10 i_11 i_12 f_5 a_20 a_21 i_13 i_14 i_15 f_6 a_22 a_23 i_16 i_17 i_18 f_7 h0 h1 rv146 h2 h3 h5 h6 h7 h8 h9 h10 h11 h12 h13 h14 h15) (cwV 3 hts (mm_gV mm_w1259 mm_w830 mm_w831 mm_w23 mm_w832) rfl rfl rfl hd_X10_leaving ⟨by rw [hRf]; exact Nat.le_of_ble_eq_true rfl, by rw [hRl]; exact Nat.le_of_ble_eq_true rfl⟩) (mm_preV hK hZ hS hA hP hD [0, 1, 2, 3, 4, 5, 6, 7, 8, 9, 10, 11, 12, 13] rfl rfl 0 rfl rfl rfl) rfl rfl hl.1 rfl (lv_room (Nat.le_of_ble_eq_true rfl)) dX3_fits_28 ⟨by rw [hRc]; exact Nat.le_of_ble_eq_true rfl, by rw [hRs]; exact Nat.le_of_ble_eq_true rfl⟩) hP hD hS hA [0, 1, 2, 3, 4, 5, 6, 7, 8, 9, 10, 11, 12, 13] rfl (fun _ => rfl) ?_
        clear hP hD hS
        clear H locs
        intro v147 _u H locs hw hP hD hS
        obtain ⟨v148, ev148⟩ : ∃ y : Int64, y = v147.toInt64 := ⟨_, rfl⟩
        refine lv_i2l hx hb dX3_fits_31 ev148.symm ?_
        have rv148 : mm_rl v148 (-2147483648) 2147483647 := mm_i2l ev148 (mm_top v147)
        refine lv_aload_n hx hb dX3_fits_32 rfl (lv_at hl 2 rfl) ?_
        refine va_get (D := G) (ci := 6) (v := .ref a_24) (C := RX6) (T := TX6) (N := 4) hx hb hts (mm_i inlX6) hown hK.1 hP 14 rfl rfl 3 (by decide) (mm_h hts mm_w1245) (fun _ h9 => h9) rfl dX3_fits_33 ?_
        refine lv_iload hx hb dX3_fits_36 (lv_at hl 0 rfl) ?_
        refine lv_iconst (v := 1) hx hb dX3_fits_38 (by decide) ?_
        refine lv_iadd hx hb dX3_fits_39 ?_
        refine lv_topi (fun v149 ev149 => ?_)
        have rv149 : mm_rg v149 1 59 := mm_add ev149 q143 mm_k1 (by decide) (by decide)
        have tv149 := mm_addEc ev149 q143 mm_k1 (by decide) (k := 1) (by decide)
        refine va_lald hx hb hK.1 hP 15 2 rfl rfl (mm_in rv149 (by decide)) dX3_fits_40 ?_
        refine lv_topl (fun v150 ev150 => ?_)
        refine W.lcmp hx hb dX3_fits_41 ?_
        refine lv_topi (fun v151 ev151 => ?_)
        refine lv_if_eq (tgt := 47) hx hb dX3_fits_42 (by decide) (fun c152 => ?_) (fun c152 => ?_)
        · have q153 := mm_eqIl (lo := (-2147483648)) (hi := 2147483647) (mm_cmp_eq ev151 c152).symm (mm_topl v150) rv148 (by decide)
          obtain ⟨v154, ev154⟩ : ∃ y : Int32, y = x3_4_136 + 2 := ⟨_, rfl⟩
          refine lv_iinc (v := v154) (lv' := [(4, .int v154), (0, .ref a_0), (1, .ref a_1), (2, .int i_0), (3, .int i_1)]) hx hb dX3_fits_47 hl (k := 0) rfl (by rw [ev154]; rfl) (by decide) rfl ?_
          clear hl
          clear ls
          intro ls hl
          have rv154 : mm_rg v154 2 60 := mm_add ev154 q143 mm_k2 (by decide) (by decide)
          have tv154 := mm_addEc ev154 q143 mm_k2 (by decide) (k := 2) (by decide)
          refine lv_goto (tgt := 3) hx hb dX3_fits_50 (by decide) ?_
          exact ih3 v154 (mm_wk rv154 (by decide)) (mm_evn_s w137 tv154) (mm_mu hm3 tv154 (by decide) (rv154).2 (by decide)) H locs hP hD hS ls (lv_sub hl [0, 1, 2, 3, 4] rfl)
        · refine lv_iconst (v := 0) hx hb dX3_fits_45 (by decide) ?_
          subst hAe
          rw [hQ]
          exact W.zret (v := 0) hx hb hr rfl (fun t ht hW => ⟨⟨0, (), rfl, (Or.inl rfl), by rw [ht]; exact hP, hK.warm hW, hD⟩, hS.F ht⟩) hS.2.2 dX3_fits_46
  exact L3_137 _ 0 (mm_wk mm_k0 (by decide)) mm_evn_0 (Nat.lt_succ_self _) H locs hP hD hS ls (lv_sub hl [0, 1, 2, 3, 4] rfl)

set_option maxHeartbeats 4000000 in
set_option maxRecDepth 100000 in
theorem K443_X3_gather (l : Launch) (G : va_G) (cy : Nat → ClassId) (sz : Nat) (a_0 : Nat) (a_1 : Nat) (i_0 : Int32) (a_2 : Nat) (a_3 : Nat) (a_4 : Nat) (i_1 : Int32) (i_2 : Int32) (i_3 : Int32) (i_4 : Int32) (i_5 : Int32) (i_6 : Int32) (i_7 : Int32) (i_8 : Int32) (a_5 : Nat) (a_6 : Nat) (a_7 : Nat) (a_8 : Nat) (a_9 : Nat) (a_10 : Nat) (a_11 : Nat) (a_12 : Nat) (a_13 : Nat) (a_14 : Nat) (f_0 : Nat → Int32) (f_1 : Nat → Int32) (f_2 : Nat → Int32) (f_3 : Nat → Int32) (f_4 : Nat → Int32) (a_15 : Nat) (a_16 : Nat) (a_17 : Nat) (a_18 : Nat) (a_19 : Nat) (i_9 : Int32) (i_10 : Int32) (i_11 : Int32) (f_5 : Nat → Int32) (a_20 : Nat) (a_21 : Nat) (i_12 : Int32) (i_13 : Int32) (i_14 : Int32) (f_6 : Nat → Int32) (a_22 : Nat) (a_23 : Nat) (i_15 : Int32) (i_16 : Int32) (i_17 : Int32) (f_7 : Nat → Int32) (i_18 : Int32) (i_19 : Int32) (i_20 : Int32) (a_24 : Nat) (f_8 : Nat → Int64) (a_25 : Nat) (a_26 : Nat) (i_21 : Int32) (f_9 : Nat → Int32) (h0 : mm_rg i_0 0 2) (h1 : mm_rg i_4 0 99) (h2 : mm_rg i_5 0 9) (h3 : mm_rg i_7 0 6) (h4 : mm_ar f_0 (-1) 4) (h5 : mm_ar f_1 0 99) (h6 : mm_ar f_2 0 8) (h7 : mm_ar f_3 0 9) (h8 : mm_ar f_4 0 9) (h9 : mm_rg i_11 (-2147483648) 210) (h10 : mm_ar f_5 0 9) (h11 : mm_rg i_14 (-2147483648) 210) (h12 : mm_ar f_6 0 9) (h13 : mm_rg i_17 (-2147483648) 210) (h14 : mm_ar f_7 0 9) (h15 : mm_rg i_20 0 60) (h16 : mm_rg i_21 0 210) (h17 : mm_ar f_9 0 209) (h18 : mm_told f_8 i_20 i_7)  : mm_CI l yX3_gather (mm_ws yX3_gather cX3_gather 5 (some .int)) ({ frames := 5, cells := 0, slots := 0, locals := 135 } : Room) G cy sz [(a_2, .inr (10, [.ref a_3, .ref a_4])), (a_3, .inr (0, [.int i_1, .int i_2, .int i_3, .int i_4, .int i_5, .int i_6, .int i_7, .int i_8, .ref a_5, .ref a_6, .ref a_7, .ref a_8, .ref a_9, .ref a_10, .ref a_11, .ref a_12, .ref a_13, .ref a_14])), (a_5, .inl (cy 1, 9, .inl f_0)), (a_6, .inl (cy 1, 9, .inl f_1)), (a_9, .inl (cy 1, 6, .inl f_2)), (a_10, .inl (cy 1, 48, .inl f_3)), (a_11, .inl (cy 1, 30, .inl f_4)), (a_4, .inl (cy 5, 3, .inr (.inr (.inr (.inr (va_up (va_up (va_up (fun _ => none) 0 (some a_15)) 1 (some a_16)) 2 (some a_17))))))), (a_15, .inr (1, [.ref a_18, .ref a_19, .int i_9, .int i_10, .int i_11])), (a_18, .inl (cy 1, 2100, .inl f_5)), (a_16, .inr (1, [.ref a_20, .ref a_21, .int i_12, .int i_13, .int i_14])), (a_20, .inl (cy 1, 2100, .inl f_6)), (a_17, .inr (1, [.ref a_22, .ref a_23, .int i_15, .int i_16, .int i_17])), (a_22, .inl (cy 1, 2100, .inl f_7)), (a_1, .inr (6, [.int i_18, .int i_19, .int i_20, .ref a_24])), (a_24, .inl (cy 2, 60, .inr (.inl f_8))), (a_0, .inr (3, [.ref a_2, .ref a_25, .ref a_26, .int i_21])), (a_26, .inl (cy 1, 210, .inl f_9))] [.ref a_0, .ref a_1, .int i_0] (fun u : Int32 × (Nat → Int32) => [(a_2, .inr (10, [.ref a_3, .ref a_4])), (a_3, .inr (0, [.int i_1, .int i_2, .int i_3, .int i_4, .int i_5, .int i_6, .int i_7, .int i_8, .ref a_5, .ref a_6, .ref a_7, .ref a_8, .ref a_9, .ref a_10, .ref a_11, .ref a_12, .ref a_13, .ref a_14])), (a_5, .inl (cy 1, 9, .inl f_0)), (a_6, .inl (cy 1, 9, .inl f_1)), (a_9, .inl (cy 1, 6, .inl f_2)), (a_10, .inl (cy 1, 48, .inl f_3)), (a_11, .inl (cy 1, 30, .inl f_4)), (a_4, .inl (cy 5, 3, .inr (.inr (.inr (.inr (va_up (va_up (va_up (fun _ => none) 0 (some a_15)) 1 (some a_16)) 2 (some a_17))))))), (a_15, .inr (1, [.ref a_18, .ref a_19, .int i_9, .int i_10, .int i_11])), (a_18, .inl (cy 1, 2100, .inl f_5)), (a_16, .inr (1, [.ref a_20, .ref a_21, .int i_12, .int i_13, .int i_14])), (a_20, .inl (cy 1, 2100, .inl f_6)), (a_17, .inr (1, [.ref a_22, .ref a_23, .int i_15, .int i_16, .int i_17])), (a_22, .inl (cy 1, 2100, .inl f_7)), (a_1, .inr (6, [.int i_18, .int i_19, .int i_20, .ref a_24])), (a_24, .inl (cy 2, 60, .inr (.inl f_8))), (a_0, .inr (3, [.ref a_2, .ref a_25, .ref a_26, .int u.1])), (a_26, .inl (cy 1, 210, .inl u.2))]) (fun (r : Int32) (u : Int32 × (Nat → Int32)) => mm_rg u.1 0 210 ∧ mm_ar u.2 0 209 ∧ mm_rg r 0 210) 0 0 := by
  refine mm_begin (lv := [(0, .ref a_0), (1, .ref a_1), (2, .int i_0)]) (by decide) (Nat.le_of_ble_eq_true rfl) rfl ?_
  intro p e s m below meth c A ls R args Q H locs hRe hQ hAe hx hb hr hlocks hml hown hnm hts hsz hA hS hP hK hD hZ hl
  have hRf : R.frames = 5 := by rw [hRe]
  have hRl : R.locals = 135 := by rw [hRe]
  have hRc : R.cells = 0 := by rw [hRe]
  have hRs : R.slots = 0 := by rw [hRe]
  refine lv_aload_n hx hb dX3_gather_0 rfl (lv_at hl 0 rfl) ?_
  refine lv_iconst (v := 0) hx hb dX3_gather_1 (by decide) ?_
  refine va_put (D := G) (ci := 3) (v := .int 0) (ty := tyX3 3) (C := RX3) (T := TX3) (N := 4) hx hb hts (mm_i inlX3) tyX3 tyX3_ok nmX3 hown hK.1 hP hD hS 16 rfl rfl 3 (by decide) (mm_h hts mm_w1253) (fun _ h9 => h9) rfl (tyX3_ok 3 (by decide)) rfl rfl (Nat.le_of_ble_eq_true rfl) dX3_gather_2 ?_
  clear hP hD hS
  clear H locs
  intro H locs (hP : va_P G vwCl [(a_2, .inr (10, [.ref a_3, .ref a_4])), (a_3, .inr (0, [.int i_1, .int i_2, .int i_3, .int i_4, .int i_5, .int i_6, .int i_7, .int i_8, .ref a_5, .ref a_6, .ref a_7, .ref a_8, .ref a_9, .ref a_10, .ref a_11, .ref a_12, .ref a_13, .ref a_14])), (a_5, .inl (cy 1, 9, .inl f_0)), (a_6, .inl (cy 1, 9, .inl f_1)), (a_9, .inl (cy 1, 6, .inl f_2)), (a_10, .inl (cy 1, 48, .inl f_3)), (a_11, .inl (cy 1, 30, .inl f_4)), (a_4, .inl (cy 5, 3, .inr (.inr (.inr (.inr (va_up (va_up (va_up (fun _ => none) 0 (some a_15)) 1 (some a_16)) 2 (some a_17))))))), (a_15, .inr (1, [.ref a_18, .ref a_19, .int i_9, .int i_10, .int i_11])), (a_18, .inl (cy 1, 2100, .inl f_5)), (a_16, .inr (1, [.ref a_20, .ref a_21, .int i_12, .int i_13, .int i_14])), (a_20, .inl (cy 1, 2100, .inl f_6)), (a_17, .inr (1, [.ref a_22, .ref a_23, .int i_15, .int i_16, .int i_17])), (a_22, .inl (cy 1, 2100, .inl f_7)), (a_1, .inr (6, [.int i_18, .int i_19, .int i_20, .ref a_24])), (a_24, .inl (cy 2, 60, .inr (.inl f_8))), (a_0, .inr (3, [.ref a_2, .ref a_25, .ref a_26, .int 0])), (a_26, .inl (cy 1, 210, .inl f_9))] H) (hD : va_D A [(a_2, .inr (10, [.ref a_3, .ref a_4])), (a_3, .inr (0, [.int i_1, .int i_2, .int i_3, .int i_4, .int i_5, .int i_6, .int i_7, .int i_8, .ref a_5, .ref a_6, .ref a_7, .ref a_8, .ref a_9, .ref a_10, .ref a_11, .ref a_12, .ref a_13, .ref a_14])), (a_5, .inl (cy 1, 9, .inl f_0)), (a_6, .inl (cy 1, 9, .inl f_1)), (a_9, .inl (cy 1, 6, .inl f_2)), (a_10, .inl (cy 1, 48, .inl f_3)), (a_11, .inl (cy 1, 30, .inl f_4)), (a_4, .inl (cy 5, 3, .inr (.inr (.inr (.inr (va_up (va_up (va_up (fun _ => none) 0 (some a_15)) 1 (some a_16)) 2 (some a_17))))))), (a_15, .inr (1, [.ref a_18, .ref a_19, .int i_9, .int i_10, .int i_11])), (a_18, .inl (cy 1, 2100, .inl f_5)), (a_16, .inr (1, [.ref a_20, .ref a_21, .int i_12, .int i_13, .int i_14])), (a_20, .inl (cy 1, 2100, .inl f_6)), (a_17, .inr (1, [.ref a_22, .ref a_23, .int i_15, .int i_16, .int i_17])), (a_22, .inl (cy 1, 2100, .inl f_7)), (a_1, .inr (6, [.int i_18, .int i_19, .int i_20, .ref a_24])), (a_24, .inl (cy 2, 60, .inr (.inl f_8))), (a_0, .inr (3, [.ref a_2, .ref a_25, .ref a_26, .int 0])), (a_26, .inl (cy 1, 210, .inl f_9))]) hS
  refine lv_aload_n hx hb dX3_gather_5 rfl (lv_at hl 0 rfl) ?_
  refine va_get (D := G) (ci := 3) (v := .ref a_2) (C := RX3) (T := TX3) (N := 4) hx hb hts (mm_i inlX3) hown hK.1 hP 16 rfl rfl 0 (by decide) (mm_h hts mm_w114) (fun _ h9 => h9) rfl dX3_gather_6 ?_
  refine lv_iload_n hx hb dX3_gather_9 rfl (lv_at hl 2 rfl) ?_
  refine mm_finir (va_runV (As := [.int i_0]) (rest := []) ⟨hx, hb, hml, hown, hts⟩ (K360_X10_period l G cy H.size a_2 i_0 a_3 a_4 a_15 a_16 a_17 a_18 a_19 i_9 i_10 i_11 a_20 a_21 i_12 i_13 i_14 a_22 a_23 i_15 i_16 i_17 h0 h9 h11 h13) (cwV 1 hts (mm_gV mm_w1254 mm_w744 mm_w745 mm_w23 mm_w746) rfl rfl rfl hd_X10_period ⟨by rw [hRf]; exact Nat.le_of_ble_eq_true rfl, by rw [hRl]; exact Nat.le_of_ble_eq_true rfl⟩) (mm_preV hK hZ hS hA hP hD [0, 7, 8, 10, 12] rfl rfl 0 rfl rfl rfl) rfl rfl hl.1 rfl (lv_room (Nat.le_of_ble_eq_true rfl)) dX3_gather_10 ⟨by rw [hRc]; exact Nat.le_of_ble_eq_true rfl, by rw [hRs]; exact Nat.le_of_ble_eq_true rfl⟩) hP hD hS hA [0, 7, 8, 10, 12] rfl (fun _ => rfl) ?_
  clear hP hD hS
  clear H locs
  intro v1 _u H locs hw hP hD hS
  have w2 := hw
  refine lv_istore_n (lv' := [(3, .int v1), (0, .ref a_0), (1, .ref a_1), (2, .int i_0)]) hx hb dX3_gather_13 rfl hl (by decide) rfl ?_
  clear hl
  clear ls
  intro ls hl
  refine lv_iconst (v := 0) hx hb dX3_gather_14 (by decide) ?_
  refine lv_istore (lv' := [(4, .int 0), (3, .int v1), (0, .ref a_0), (1, .ref a_1), (2, .int i_0)]) hx hb dX3_gather_15 hl (by decide) rfl ?_
  clear hl
  clear ls
  intro ls hl
  have L17_226 : ∀ (n : Nat) (x17_4_223 : Int32) (y17_16_3_224 : Int32) (z17_17_225 : Nat → Int32), mm_rg x17_4_223 0 210 → mm_rg y17_16_3_224 0 210 → mm_ar z17_17_225 0 209 → (y17_16_3_224 : Int32).toInt ≤ (x17_4_223 : Int32).toInt → (210 - x17_4_223.toInt).toNat < n → ∀ (H : Heap) (locs : List Loc), va_P G vwCl [(a_2, .inr (10, [.ref a_3, .ref a_4])), (a_3, .inr (0, [.int i_1, .int i_2, .int i_3, .int i_4, .int i_5, .int i_6, .int i_7, .int i_8, .ref a_5, .ref a_6, .ref a_7, .ref a_8, .ref a_9, .ref a_10, .ref a_11, .ref a_12, .ref a_13, .ref a_14])), (a_5, .inl (cy 1, 9, .inl f_0)), (a_6, .inl (cy 1, 9, .inl f_1)), (a_9, .inl (cy 1, 6, .inl f_2)), (a_10, .inl (cy 1, 48, .inl f_3)), (a_11, .inl (cy 1, 30, .inl f_4)), (a_4, .inl (cy 5, 3, .inr (.inr (.inr (.inr (va_up (va_up (va_up (fun _ => none) 0 (some a_15)) 1 (some a_16)) 2 (some a_17))))))), (a_15, .inr (1, [.ref a_18, .ref a_19, .int i_9, .int i_10, .int i_11])), (a_18, .inl (cy 1, 2100, .inl f_5)), (a_16, .inr (1, [.ref a_20, .ref a_21, .int i_12, .int i_13, .int i_14])), (a_20, .inl (cy 1, 2100, .inl f_6)), (a_17, .inr (1, [.ref a_22, .ref a_23, .int i_15, .int i_16, .int i_17])), (a_22, .inl (cy 1, 2100, .inl f_7)), (a_1, .inr (6, [.int i_18, .int i_19, .int i_20, .ref a_24])), (a_24, .inl (cy 2, 60, .inr (.inl f_8))), (a_0, .inr (3, [.ref a_2, .ref a_25, .ref a_26, .int y17_16_3_224])), (a_26, .inl (cy 1, 210, .inl z17_17_225))] H → va_D A [(a_2, .inr (10, [.ref a_3, .ref a_4])), (a_3, .inr (0, [.int i_1, .int i_2, .int i_3, .int i_4, .int i_5, .int i_6, .int i_7, .int i_8, .ref a_5, .ref a_6, .ref a_7, .ref a_8, .ref a_9, .ref a_10, .ref a_11, .ref a_12, .ref a_13, .ref a_14])), (a_5, .inl (cy 1, 9, .inl f_0)), (a_6, .inl (cy 1, 9, .inl f_1)), (a_9, .inl (cy 1, 6, .inl f_2)), (a_10, .inl (cy 1, 48, .inl f_3)), (a_11, .inl (cy 1, 30, .inl f_4)), (a_4, .inl (cy 5, 3, .inr (.inr (.inr (.inr (va_up (va_up (va_up (fun _ => none) 0 (some a_15)) 1 (some a_16)) 2 (some a_17))))))), (a_15, .inr (1, [.ref a_18, .ref a_19, .int i_9, .int i_10, .int i_11])), (a_18, .inl (cy 1, 2100, .inl f_5)), (a_16, .inr (1, [.ref a_20, .ref a_21, .int i_12, .int i_13, .int i_14])), (a_20, .inl (cy 1, 2100, .inl f_6)), (a_17, .inr (1, [.ref a_22, .ref a_23, .int i_15, .int i_16, .int i_17])), (a_22, .inl (cy 1, 2100, .inl f_7)), (a_1, .inr (6, [.int i_18, .int i_19, .int i_20, .ref a_24])), (a_24, .inl (cy 2, 60, .inr (.inl f_8))), (a_0, .inr (3, [.ref a_2, .ref a_25, .ref a_26, .int y17_16_3_224])), (a_26, .inl (cy 1, 210, .inl z17_17_225))] → va_S A s.heap H locs → ∀ (ls : Array Slot), lv_has ls 5 [(4, .int x17_4_223), (3, .int v1), (0, .ref a_0), (1, .ref a_1), (2, .int i_0)] → W p l e R s m args below meth c H locs 0 0 Q (F0 m 17 ls []) := by
    intro n
    induction n with
    | zero => intro x17_4_223 y17_16_3_224 z17_17_225 rx17_4_223 ry17_16_3_224 rz17_17_225 w226 hm; exact absurd hm (Nat.not_lt_zero _)
    | succ n ih17 =>
      intro x17_4_223 y17_16_3_224 z17_17_225 rx17_4_223 ry17_16_3_224 rz17_17_225 w226 hm17 H locs hP hD hS ls hl
      refine lv_iload hx hb dX3_gather_17 (lv_at hl 0 rfl) ?_
      refine lv_iload_n hx hb dX3_gather_19 rfl (lv_at hl 1 rfl) ?_
      refine lv_icmp_ge (tgt := 69) hx hb dX3_gather_20 (by decide) (fun c228 => ?_) (fun c228 => ?_)
      · refine lv_aload_n hx hb dX3_gather_69 rfl (lv_at hl 2 rfl) ?_
        refine va_get (D := G) (ci := 3) (v := .int y17_16_3_224) (C := RX3) (T := TX3) (N := 4) hx hb hts (mm_i inlX3) hown hK.1 hP 16 rfl rfl 3 (by decide) (mm_h hts mm_w1253) (fun _ h9 => h9) rfl dX3_gather_70 ?_
        subst hAe
        rw [hQ]
        exact W.iret (v := y17_16_3_224) hx hb hr (fun t ht hW => ⟨⟨y17_16_3_224, (y17_16_3_224, z17_17_225), rfl, ⟨ry17_16_3_224, rz17_17_225, ry17_16_3_224⟩, by rw [ht]; exact hP, hK.warm hW, hD⟩, hS.F ht⟩) hS.2.2 dX3_gather_73
      · have q229 := mm_ltL (h := 209) (mm_nle c228) rx17_4_223 w2 (by decide)
        have q230 := mm_ltR (lo := 1) (mm_nle c228) rx17_4_223 w2 (by decide)
        have q231 := mm_leL w226 ry17_16_3_224 q229
        refine lv_iload hx hb dX3_gather_23 (lv_at hl 0 rfl) ?_
        refine lv_sipush (v := 210) hx hb dX3_gather_25 (by decide) ?_
        refine lv_icmp_ge (tgt := 69) hx hb dX3_gather_28 (by decide) (fun c232 => ?_) (fun c232 => ?_)
        · have q233 := mm_leL (mm_le c232) mm_k210 q229
          exact mm_no q233 (by decide)
        · refine lv_aload_n hx hb dX3_gather_31 rfl (lv_at hl 2 rfl) ?_
          refine lv_aload_n hx hb dX3_gather_32 rfl (lv_at hl 3 rfl) ?_
          refine lv_iload_n hx hb dX3_gather_33 rfl (lv_at hl 4 rfl) ?_
          refine lv_iload hx hb dX3_gather_34 (lv_at hl 0 rfl) ?_
          refine mm_finir (va_runV (As := [.ref a_1, .int i_0, .int x17_4_223]) (rest := []) ⟨hx, hb, hml, hown, hts⟩ (K442_X3_fits l G cy H.size a_0 a_1 i_0 x17_4_223 a_2 a_3 a_4 i_1 i_2 i_3 i_4 i_5 i_6 i_7 i_8 a_5 a_6 a_7 a_8 a_9 a_10 a_11 a_12 a_13 a_14 f_0 f_1 f_2 f_3 f_4 a_15 a_16 a_17 a_18 a_19 i_9 i_10 i_11 f_5 a_20 a_21 i_12 i_13 i_14 f_6 a_22 a_23 i_15 i_16 i_17 f_7 i_18 i_19 i_20 a_24 f_8 a_25 a_26 y17_16_3_224 h0 (mm_wk q229 (by decide)) h1 h2 h3 h4 h5 h6 h7 h8 h9 h10 h11 h12 h13 h14 h15 h18) (cwV 3 hts (mm_gV mm_w1255 mm_w1256 mm_w1257 mm_w41 mm_w1258) rfl rfl rfl hd_X3_fits ⟨by rw [hRf]; exact Nat.le_of_ble_eq_true rfl, by rw [hRl]; exact Nat.le_of_ble_eq_true rfl⟩) (mm_preV hK hZ hS hA hP hD [0, 1, 2, 3, 4, 5, 6, 7, 8, 9, 10, 11, 12, 13, 14, 15, 16] rfl rfl 16 rfl rfl rfl) rfl rfl hl.1 rfl (lv_room (Nat.le_of_ble_eq_true rfl)) dX3_gather_36 ⟨by rw [hRc]; exact Nat.le_of_ble_eq_true rfl, by rw [hRs]; exact Nat.le_of_ble_eq_true rfl⟩) hP hD hS hA [0, 1, 2, 3, 4, 5, 6, 7, 8, 9, 10, 11, 12, 13, 14, 15, 16] rfl (fun _ => rfl) ?_
          clear hP hD hS
          clear H locs
          intro v234 _u H locs hw hP hD hS
          rcases hw with rfl | rfl
          · refine lv_if_eq (tgt := 63) hx hb dX3_gather_39 (by decide) (fun c235 => ?_) (fun c235 => ?_)
            · obtain ⟨v236, ev236⟩ : ∃ y : Int32, y = x17_4_223 + 1 := ⟨_, rfl⟩
              refine lv_iinc (v := v236) (lv' := [(4, .int v236), (3, .int v1), (0, .ref a_0), (1, .ref a_1), (2, .int i_0)]) hx hb dX3_gather_63 hl (k := 0) rfl (by rw [ev236]; rfl) (by decide) rfl ?_
              clear hl
              clear ls
              intro ls hl
              have rv236 : mm_rg v236 1 210 := mm_add ev236 q229 mm_k1 (by decide) (by decide)
              have tv236 := mm_addEc ev236 q229 mm_k1 (by decide) (k := 1) (by decide)
              refine lv_goto (tgt := 17) hx hb dX3_gather_66 (by decide) ?_
              exact ih17 v236 y17_16_3_224 z17_17_225 (mm_wk rv236 (by decide)) (mm_wk q231 (by decide)) rz17_17_225 (by have := tv236; have := w226; omega) (mm_mu hm17 tv236 (by decide) (rv236).2 (by decide)) H locs hP hD hS ls (lv_sub hl [0, 1, 2, 3, 4] rfl)
            · have q237 := mm_neL (lo := 1) (mm_ne c235) mm_k0 mm_k0 (by decide) (by decide)
              exact mm_no q237 (by decide)
          · refine lv_if_eq (tgt := 63) hx hb dX3_gather_39 (by decide) (fun c238 => ?_) (fun c238 => ?_)
            · exact mm_eqN c238.symm mm_k0 mm_k1 (by decide)
            · refine lv_aload_n hx hb dX3_gather_42 rfl (lv_at hl 2 rfl) ?_
              refine va_get (D := G) (ci := 3) (v := .ref a_26) (C := RX3) (T := TX3) (N := 4) hx hb hts (mm_i inlX3) hown hK.1 hP 16 rfl rfl 2 (by decide) (mm_h hts mm_w113) (fun _ h9 => h9) rfl dX3_gather_43 ?_
              refine lv_aload_n hx hb dX3_gather_46 rfl (lv_at hl 2 rfl) ?_
              refine va_get (D := G) (ci := 3) (v := .int y17_16_3_224) (C := RX3) (T := TX3) (N := 4) hx hb hts (mm_i inlX3) hown hK.1 hP 16 rfl rfl 3 (by decide) (mm_h hts mm_w1253) (fun _ h9 => h9) rfl dX3_gather_47 ?_
              refine lv_iload hx hb dX3_gather_50 (lv_at hl 0 rfl) ?_
              refine va_iast hx hb hK.1 hP hD hS 17 1 rfl rfl (mm_in q231 (by decide)) dX3_gather_52 ?_
              clear hP hD hS
              clear H locs
              obtain ⟨g239, eg239⟩ : ∃ z : Nat → Int32, z = upd z17_17_225 y17_16_3_224.toNatClampNeg x17_4_223 := ⟨_, rfl⟩
              rw [← eg239]
              intro H locs (hP : va_P G vwCl [(a_2, .inr (10, [.ref a_3, .ref a_4])), (a_3, .inr (0, [.int i_1, .int i_2, .int i_3, .int i_4, .int i_5, .int i_6, .int i_7, .int i_8, .ref a_5, .ref a_6, .ref a_7, .ref a_8, .ref a_9, .ref a_10, .ref a_11, .ref a_12, .ref a_13, .ref a_14])), (a_5, .inl (cy 1, 9, .inl f_0)), (a_6, .inl (cy 1, 9, .inl f_1)), (a_9, .inl (cy 1, 6, .inl f_2)), (a_10, .inl (cy 1, 48, .inl f_3)), (a_11, .inl (cy 1, 30, .inl f_4)), (a_4, .inl (cy 5, 3, .inr (.inr (.inr (.inr (va_up (va_up (va_up (fun _ => none) 0 (some a_15)) 1 (some a_16)) 2 (some a_17))))))), (a_15, .inr (1, [.ref a_18, .ref a_19, .int i_9, .int i_10, .int i_11])), (a_18, .inl (cy 1, 2100, .inl f_5)), (a_16, .inr (1, [.ref a_20, .ref a_21, .int i_12, .int i_13, .int i_14])), (a_20, .inl (cy 1, 2100, .inl f_6)), (a_17, .inr (1, [.ref a_22, .ref a_23, .int i_15, .int i_16, .int i_17])), (a_22, .inl (cy 1, 2100, .inl f_7)), (a_1, .inr (6, [.int i_18, .int i_19, .int i_20, .ref a_24])), (a_24, .inl (cy 2, 60, .inr (.inl f_8))), (a_0, .inr (3, [.ref a_2, .ref a_25, .ref a_26, .int y17_16_3_224])), (a_26, .inl (cy 1, 210, .inl g239))] H) (hD : va_D A [(a_2, .inr (10, [.ref a_3, .ref a_4])), (a_3, .inr (0, [.int i_1, .int i_2, .int i_3, .int i_4, .int i_5, .int i_6, .int i_7, .int i_8, .ref a_5, .ref a_6, .ref a_7, .ref a_8, .ref a_9, .ref a_10, .ref a_11, .ref a_12, .ref a_13, .ref a_14])), (a_5, .inl (cy 1, 9, .inl f_0)), (a_6, .inl (cy 1, 9, .inl f_1)), (a_9, .inl (cy 1, 6, .inl f_2)), (a_10, .inl (cy 1, 48, .inl f_3)), (a_11, .inl (cy 1, 30, .inl f_4)), (a_4, .inl (cy 5, 3, .inr (.inr (.inr (.inr (va_up (va_up (va_up (fun _ => none) 0 (some a_15)) 1 (some a_16)) 2 (some a_17))))))), (a_15, .inr (1, [.ref a_18, .ref a_19, .int i_9, .int i_10, .int i_11])), (a_18, .inl (cy 1, 2100, .inl f_5)), (a_16, .inr (1, [.ref a_20, .ref a_21, .int i_12, .int i_13, .int i_14])), (a_20, .inl (cy 1, 2100, .inl f_6)), (a_17, .inr (1, [.ref a_22, .ref a_23, .int i_15, .int i_16, .int i_17])), (a_22, .inl (cy 1, 2100, .inl f_7)), (a_1, .inr (6, [.int i_18, .int i_19, .int i_20, .ref a_24])), (a_24, .inl (cy 2, 60, .inr (.inl f_8))), (a_0, .inr (3, [.ref a_2, .ref a_25, .ref a_26, .int y17_16_3_224])), (a_26, .inl (cy 1, 210, .inl g239))]) hS
              have rg239 : mm_ar g239 0 209 := by rw [eg239]; exact mm_ar_upd (mm_ar_wk rz17_17_225 (by decide)) (mm_wk q229 (by decide)) _
              refine lv_aload_n hx hb dX3_gather_53 rfl (lv_at hl 2 rfl) ?_
              refine lv_dup hx hb dX3_gather_54 rfl ?_
              refine va_get (D := G) (ci := 3) (v := .int y17_16_3_224) (C := RX3) (T := TX3) (N := 4) hx hb hts (mm_i inlX3) hown hK.1 hP 16 rfl rfl 3 (by decide) (mm_h hts mm_w1253) (fun _ h9 => h9) rfl dX3_gather_55 ?_
              refine lv_iconst (v := 1) hx hb dX3_gather_58 (by decide) ?_
              refine lv_iadd hx hb dX3_gather_59 ?_
              refine lv_topi (fun v240 ev240 => ?_)
              have rv240 : mm_rg v240 1 210 := mm_add ev240 q231 mm_k1 (by decide) (by decide)
              have tv240 := mm_addEc ev240 q231 mm_k1 (by decide) (k := 1) (by decide)
              refine va_put (D := G) (ci := 3) (v := .int v240) (ty := tyX3 3) (C := RX3) (T := TX3) (N := 4) hx hb hts (mm_i inlX3) tyX3 tyX3_ok nmX3 hown hK.1 hP hD hS 16 rfl rfl 3 (by decide) (mm_h hts mm_w1253) (fun _ h9 => h9) rfl (tyX3_ok 3 (by decide)) rfl rfl (Nat.le_of_ble_eq_true rfl) dX3_gather_60 ?_
              clear hP hD hS
              clear H locs
              intro H locs (hP : va_P G vwCl [(a_2, .inr (10, [.ref a_3, .ref a_4])), (a_3, .inr (0, [.int i_1, .int i_2, .int i_3, .int i_4, .int i_5, .int i_6, .int i_7, .int i_8, .ref a_5, .ref a_6, .ref a_7, .ref a_8, .ref a_9, .ref a_10, .ref a_11, .ref a_12, .ref a_13, .ref a_14])), (a_5, .inl (cy 1, 9, .inl f_0)), (a_6, .inl (cy 1, 9, .inl f_1)), (a_9, .inl (cy 1, 6, .inl f_2)), (a_10, .inl (cy 1, 48, .inl f_3)), (a_11, .inl (cy 1, 30, .inl f_4)), (a_4, .inl (cy 5, 3, .inr (.inr (.inr (.inr (va_up (va_up (va_up (fun _ => none) 0 (some a_15)) 1 (some a_16)) 2 (some a_17))))))), (a_15, .inr (1, [.ref a_18, .ref a_19, .int i_9, .int i_10, .int i_11])), (a_18, .inl (cy 1, 2100, .inl f_5)), (a_16, .inr (1, [.ref a_20, .ref a_21, .int i_12, .int i_13, .int i_14])), (a_20, .inl (cy 1, 2100, .inl f_6)), (a_17, .inr (1, [.ref a_22, .ref a_23, .int i_15, .int i_16, .int i_17])), (a_22, .inl (cy 1, 2100, .inl f_7)), (a_1, .inr (6, [.int i_18, .int i_19, .int i_20, .ref a_24])), (a_24, .inl (cy 2, 60, .inr (.inl f_8))), (a_0, .inr (3, [.ref a_2, .ref a_25, .ref a_26, .int v240])), (a_26, .inl (cy 1, 210, .inl g239))] H) (hD : va_D A [(a_2, .inr (10, [.ref a_3, .ref a_4])), (a_3, .inr (0, [.int i_1, .int i_2, .int i_3, .int i_4, .int i_5, .int i_6, .int i_7, .int i_8, .ref a_5, .ref a_6, .ref a_7, .ref a_8, .ref a_9, .ref a_10, .ref a_11, .ref a_12, .ref a_13, .ref a_14])), (a_5, .inl (cy 1, 9, .inl f_0)), (a_6, .inl (cy 1, 9, .inl f_1)), (a_9, .inl (cy 1, 6, .inl f_2)), (a_10, .inl (cy 1, 48, .inl f_3)), (a_11, .inl (cy 1, 30, .inl f_4)), (a_4, .inl (cy 5, 3, .inr (.inr (.inr (.inr (va_up (va_up (va_up (fun _ => none) 0 (some a_15)) 1 (some a_16)) 2 (some a_17))))))), (a_15, .inr (1, [.ref a_18, .ref a_19, .int i_9, .int i_10, .int i_11])), (a_18, .inl (cy 1, 2100, .inl f_5)), (a_16, .inr (1, [.ref a_20, .ref a_21, .int i_12, .int i_13, .int i_14])), (a_20, .inl (cy 1, 2100, .inl f_6)), (a_17, .inr (1, [.ref a_22, .ref a_23, .int i_15, .int i_16, .int i_17])), (a_22, .inl (cy 1, 2100, .inl f_7)), (a_1, .inr (6, [.int i_18, .int i_19, .int i_20, .ref a_24])), (a_24, .inl (cy 2, 60, .inr (.inl f_8))), (a_0, .inr (3, [.ref a_2, .ref a_25, .ref a_26, .int v240])), (a_26, .inl (cy 1, 210, .inl g239))]) hS
              obtain ⟨v241, ev241⟩ : ∃ y : Int32, y = x17_4_223 + 1 := ⟨_, rfl⟩
              refine lv_iinc (v := v241) (lv' := [(4, .int v241), (3, .int v1), (0, .ref a_0), (1, .ref a_1), (2, .int i_0)]) hx hb dX3_gather_63 hl (k := 0) rfl (by rw [ev241]; rfl) (by decide) rfl ?_
              clear hl
              clear ls
              intro ls hl
              have rv241 : mm_rg v241 1 210 := mm_add ev241 q229 mm_k1 (by decide) (by decide)
              have tv241 := mm_addEc ev241 q229 mm_k1 (by decide) (k := 1) (by decide)
              refine lv_goto (tgt := 17) hx hb dX3_gather_66 (by decide) ?_
              exact ih17 v241 v240 g239 (mm_wk rv241 (by decide)) (mm_wk rv240 (by decide)) rg239 (by have := tv240; have := tv241; have := w226; omega) (mm_mu hm17 tv241 (by decide) (rv241).2 (by decide)) H locs hP hD hS ls (lv_sub hl [0, 1, 2, 3, 4] rfl)
  exact L17_226 _ 0 0 f_9 (mm_wk mm_k0 (by decide)) (mm_wk mm_k0 (by decide)) h17 (Int.le_refl _) (Nat.lt_succ_self _) H locs hP hD hS ls (lv_sub hl [0, 1, 2, 3, 4] rfl)

set_option maxHeartbeats 4000000 in
set_option maxRecDepth 100000 in
theorem K444_X11_torn (l : Launch) (G : va_G) (cy : Nat → ClassId) (sz : Nat) (a_0 : Nat) (i_0 : Int32) (i_1 : Int32) (a_1 : Nat) (a_2 : Nat) (a_3 : Nat) (a_4 : Nat) (a_5 : Nat) (a_6 : Nat) (a_7 : Nat) (a_8 : Nat) (a_9 : Nat) (a_10 : Nat) (a_11 : Nat) (a_12 : Nat) (a_13 : Nat) (i_2 : Int32) (i_3 : Int32) (i_4 : Int32) (i_5 : Int32) (i_6 : Int32) (i_7 : Int32) (i_8 : Int32) (i_9 : Int32) (a_14 : Nat) (a_15 : Nat) (a_16 : Nat) (a_17 : Nat) (a_18 : Nat) (a_19 : Nat) (a_20 : Nat) (a_21 : Nat) (a_22 : Nat) (a_23 : Nat) (f_0 : Nat → Int32) (f_1 : Nat → Int32) (f_2 : Nat → Int32) (f_3 : Nat → Int32) (f_4 : Nat → Int32) (a_24 : Nat) (a_25 : Nat) (a_26 : Nat) (a_27 : Nat) (a_28 : Nat) (i_10 : Int32) (i_11 : Int32) (i_12 : Int32) (f_5 : Nat → Int32) (a_29 : Nat) (a_30 : Nat) (i_13 : Int32) (i_14 : Int32) (i_15 : Int32) (f_6 : Nat → Int32) (a_31 : Nat) (a_32 : Nat) (i_16 : Int32) (i_17 : Int32) (i_18 : Int32) (f_7 : Nat → Int32) (a_33 : Nat) (a_34 : Nat) (a_35 : Nat) (a_36 : Nat) (i_19 : Int32) (i_20 : Int32) (i_21 : Int32) (a_37 : Nat) (f_8 : Nat → Int64) (i_22 : Int32) (i_23 : Int32) (i_24 : Int32) (a_38 : Nat) (f_9 : Nat → Int64) (i_25 : Int32) (i_26 : Int32) (i_27 : Int32) (a_39 : Nat) (f_10 : Nat → Int64) (i_28 : Int32) (i_29 : Int32) (i_30 : Int32) (a_40 : Nat) (f_11 : Nat → Int64) (a_41 : Nat) (i_31 : Int32) (f_12 : Nat → Int32) (h0 : mm_rg i_5 0 99) (h1 : mm_rg i_6 0 9) (h2 : mm_rg i_7 0 3) (h3 : mm_rg i_8 0 6) (h4 : mm_ar f_0 (-1) 4) (h5 : mm_ar f_1 0 99) (h6 : mm_ar f_2 0 8) (h7 : mm_ar f_3 0 9) (h8 : mm_ar f_4 0 9) (h9 : mm_rg i_12 (-2147483648) 210) (h10 : mm_ar f_5 0 9) (h11 : mm_rg i_15 (-2147483648) 210) (h12 : mm_ar f_6 0 9) (h13 : mm_rg i_18 (-2147483648) 210) (h14 : mm_ar f_7 0 9) (h15 : mm_rg i_19 0 1) (h16 : mm_rg i_21 0 60) (h17 : mm_rg i_22 0 1) (h18 : mm_rg i_24 0 60) (h19 : mm_rg i_25 0 1) (h20 : mm_rg i_27 0 60) (h21 : mm_rg i_28 0 1) (h22 : mm_rg i_30 0 60) (h23 : mm_rg i_31 0 210) (h24 : mm_ar f_12 0 209)  : mm_CI l yX11_torn (mm_ws yX11_torn cX11_torn 4 (some .int)) ({ frames := 6, cells := 0, slots := 0, locals := 159 } : Room) G cy sz [(a_0, .inr (11, [.ref a_1, .ref a_2, .ref a_3, .ref a_4, .ref a_5, .ref a_6, .ref a_7, .ref a_8, .ref a_9, .ref a_10, .ref a_11])), (a_3, .inr (10, [.ref a_12, .ref a_13])), (a_12, .inr (0, [.int i_2, .int i_3, .int i_4, .int i_5, .int i_6, .int i_7, .int i_8, .int i_9, .ref a_14, .ref a_15, .ref a_16, .ref a_17, .ref a_18, .ref a_19, .ref a_20, .ref a_21, .ref a_22, .ref a_23])), (a_14, .inl (cy 1, 9, .inl f_0)), (a_15, .inl (cy 1, 9, .inl f_1)), (a_18, .inl (cy 1, 6, .inl f_2)), (a_19, .inl (cy 1, 48, .inl f_3)), (a_20, .inl (cy 1, 30, .inl f_4)), (a_13, .inl (cy 5, 3, .inr (.inr (.inr (.inr (va_up (va_up (va_up (fun _ => none) 0 (some a_24)) 1 (some a_25)) 2 (some a_26))))))), (a_24, .inr (1, [.ref a_27, .ref a_28, .int i_10, .int i_11, .int i_12])), (a_27, .inl (cy 1, 2100, .inl f_5)), (a_25, .inr (1, [.ref a_29, .ref a_30, .int i_13, .int i_14, .int i_15])), (a_29, .inl (cy 1, 2100, .inl f_6)), (a_26, .inr (1, [.ref a_31, .ref a_32, .int i_16, .int i_17, .int i_18])), (a_31, .inl (cy 1, 2100, .inl f_7)), (a_6, .inl (cy 6, 4, .inr (.inr (.inr (.inr (va_up (va_up (va_up (va_up (fun _ => none) 0 (some a_33)) 1 (some a_34)) 2 (some a_35)) 3 (some a_36))))))), (a_33, .inr (6, [.int i_19, .int i_20, .int i_21, .ref a_37])), (a_37, .inl (cy 2, 60, .inr (.inl f_8))), (a_34, .inr (6, [.int i_22, .int i_23, .int i_24, .ref a_38])), (a_38, .inl (cy 2, 60, .inr (.inl f_9))), (a_35, .inr (6, [.int i_25, .int i_26, .int i_27, .ref a_39])), (a_39, .inl (cy 2, 60, .inr (.inl f_10))), (a_36, .inr (6, [.int i_28, .int i_29, .int i_30, .ref a_40])), (a_40, .inl (cy 2, 60, .inr (.inl f_11))), (a_8, .inr (3, [.ref a_3, .ref a_7, .ref a_41, .int i_31])), (a_41, .inl (cy 1, 210, .inl f_12))] [.ref a_0, .int i_0, .int i_1] (fun u : Int32 × (Nat → Int32) => [(a_0, .inr (11, [.ref a_1, .ref a_2, .ref a_3, .ref a_4, .ref a_5, .ref a_6, .ref a_7, .ref a_8, .ref a_9, .ref a_10, .ref a_11])), (a_3, .inr (10, [.ref a_12, .ref a_13])), (a_12, .inr (0, [.int i_2, .int i_3, .int i_4, .int i_5, .int i_6, .int i_7, .int i_8, .int i_9, .ref a_14, .ref a_15, .ref a_16, .ref a_17, .ref a_18, .ref a_19, .ref a_20, .ref a_21, .ref a_22, .ref a_23])), (a_14, .inl (cy 1, 9, .inl f_0)), (a_15, .inl (cy 1, 9, .inl f_1)), (a_18, .inl (cy 1, 6, .inl f_2)), (a_19, .inl (cy 1, 48, .inl f_3)), (a_20, .inl (cy 1, 30, .inl f_4)), (a_13, .inl (cy 5, 3, .inr (.inr (.inr (.inr (va_up (va_up (va_up (fun _ => none) 0 (some a_24)) 1 (some a_25)) 2 (some a_26))))))), (a_24, .inr (1, [.ref a_27, .ref a_28, .int i_10, .int i_11, .int i_12])), (a_27, .inl (cy 1, 2100, .inl f_5)), (a_25, .inr (1, [.ref a_29, .ref a_30, .int i_13, .int i_14, .int i_15])), (a_29, .inl (cy 1, 2100, .inl f_6)), (a_26, .inr (1, [.ref a_31, .ref a_32, .int i_16, .int i_17, .int i_18])), (a_31, .inl (cy 1, 2100, .inl f_7)), (a_6, .inl (cy 6, 4, .inr (.inr (.inr (.inr (va_up (va_up (va_up (va_up (fun _ => none) 0 (some a_33)) 1 (some a_34)) 2 (some a_35)) 3 (some a_36))))))), (a_33, .inr (6, [.int i_19, .int i_20, .int i_21, .ref a_37])), (a_37, .inl (cy 2, 60, .inr (.inl f_8))), (a_34, .inr (6, [.int i_22, .int i_23, .int i_24, .ref a_38])), (a_38, .inl (cy 2, 60, .inr (.inl f_9))), (a_35, .inr (6, [.int i_25, .int i_26, .int i_27, .ref a_39])), (a_39, .inl (cy 2, 60, .inr (.inl f_10))), (a_36, .inr (6, [.int i_28, .int i_29, .int i_30, .ref a_40])), (a_40, .inl (cy 2, 60, .inr (.inl f_11))), (a_8, .inr (3, [.ref a_3, .ref a_7, .ref a_41, .int u.1])), (a_41, .inl (cy 1, 210, .inl u.2))]) (fun (r : Int32) (u : Int32 × (Nat → Int32)) => mm_rg u.1 0 210 ∧ mm_ar u.2 0 209 ∧ mm_rg r (-6) 210) 0 0 := by
  refine mm_begin (lv := [(0, .ref a_0), (1, .int i_0), (2, .int i_1)]) (by decide) (Nat.le_of_ble_eq_true rfl) rfl ?_
  intro p e s m below meth c A ls R args Q H locs hRe hQ hAe hx hb hr hlocks hml hown hnm hts hsz hA hS hP hK hD hZ hl
  have hRf : R.frames = 6 := by rw [hRe]
  have hRl : R.locals = 159 := by rw [hRe]
  have hRc : R.cells = 0 := by rw [hRe]
  have hRs : R.slots = 0 := by rw [hRe]
  refine lv_aload_n hx hb dX11_torn_0 rfl (lv_at hl 0 rfl) ?_
  refine lv_iload_n hx hb dX11_torn_1 rfl (lv_at hl 1 rfl) ?_
  refine lv_iload_n hx hb dX11_torn_2 rfl (lv_at hl 2 rfl) ?_
  refine lv_iconst (v := 0) hx hb dX11_torn_3 (by decide) ?_
  refine mm_finir (va_runV (As := [.int i_0, .int i_1, .int 0]) (rest := []) ⟨hx, hb, hml, hown, hts⟩ (K441_X11_letterTrouble l G cy H.size a_0 i_0 i_1 0 a_1 a_2 a_3 a_4 a_5 a_6 a_7 a_8 a_9 a_10 a_11 a_12 a_13 i_2 i_3 i_4 i_5 i_6 i_7 i_8 i_9 a_14 a_15 a_16 a_17 a_18 a_19 a_20 a_21 a_22 a_23 a_33 a_34 a_35 a_36 i_19 i_20 i_21 a_37 f_8 i_22 i_23 i_24 a_38 f_9 i_25 i_26 i_27 a_39 f_10 i_28 i_29 i_30 a_40 f_11 a_41 i_31 (mm_wk mm_k0 (by decide)) h2 h3 h15 h16 h17 h18 h19 h20 h21 h22) (cwV 3 hts (mm_gV mm_w1228 mm_w1229 mm_w1230 mm_w2 mm_w1231) rfl rfl rfl hd_X11_letterTrouble ⟨by rw [hRf]; exact Nat.le_of_ble_eq_true rfl, by rw [hRl]; exact Nat.le_of_ble_eq_true rfl⟩) (mm_preV hK hZ hS hA hP hD [0, 1, 2, 15, 16, 17, 18, 19, 20, 21, 22, 23, 24] rfl rfl 0 rfl rfl rfl) rfl rfl hl.1 rfl (lv_room (Nat.le_of_ble_eq_true rfl)) dX11_torn_4 ⟨by rw [hRc]; exact Nat.le_of_ble_eq_true rfl, by rw [hRs]; exact Nat.le_of_ble_eq_true rfl⟩) hP hD hS hA [0, 1, 2, 15, 16, 17, 18, 19, 20, 21, 22, 23, 24] rfl (fun _ => rfl) ?_
  clear hP hD hS
  clear H locs
  intro v1 _u H locs hw hP hD hS
  rcases hw with rfl | ⟨rfl, w2, w3, w4⟩ | ⟨rfl, w5, w6, w7, w8⟩ | ⟨rfl, w9, w10, w11, w12⟩ | ⟨rfl, w13, w14, w15, w16⟩ | ⟨rfl, w17, w18, w19, w20⟩
  · refine lv_istore_n (lv' := [(3, .int (-2)), (0, .ref a_0), (1, .int i_0), (2, .int i_1)]) hx hb dX11_torn_7 rfl hl (by decide) rfl ?_
    clear hl
    clear ls
    intro ls hl
    refine lv_iload_n hx hb dX11_torn_8 rfl (lv_at hl 0 rfl) ?_
    refine lv_if_eq (tgt := 16) hx hb dX11_torn_9 (by decide) (fun c21 => ?_) (fun c21 => ?_)
    · exact mm_eqN c21 mm_km2 mm_k0 (by decide)
    · refine lv_iload_n hx hb dX11_torn_12 rfl (lv_at hl 0 rfl) ?_
      refine lv_goto (tgt := 30) hx hb dX11_torn_13 (by decide) ?_
      subst hAe
      rw [hQ]
      exact W.iret (v := (-2)) hx hb hr (fun t ht hW => ⟨⟨(-2), (i_31, f_12), rfl, ⟨h23, h24, (mm_wk mm_km2 (by decide))⟩, by rw [ht]; exact hP, hK.warm hW, hD⟩, hS.F ht⟩) hS.2.2 dX11_torn_30
  · refine lv_istore_n (lv' := [(3, .int (-6)), (0, .ref a_0), (1, .int i_0), (2, .int i_1)]) hx hb dX11_torn_7 rfl hl (by decide) rfl ?_
    clear hl
    clear ls
    intro ls hl
    refine lv_iload_n hx hb dX11_torn_8 rfl (lv_at hl 0 rfl) ?_
    refine lv_if_eq (tgt := 16) hx hb dX11_torn_9 (by decide) (fun c22 => ?_) (fun c22 => ?_)
    · exact mm_eqN c22 mm_km6 mm_k0 (by decide)
    · refine lv_iload_n hx hb dX11_torn_12 rfl (lv_at hl 0 rfl) ?_
      refine lv_goto (tgt := 30) hx hb dX11_torn_13 (by decide) ?_
      subst hAe
      rw [hQ]
      exact W.iret (v := (-6)) hx hb hr (fun t ht hW => ⟨⟨(-6), (i_31, f_12), rfl, ⟨h23, h24, (mm_wk mm_km6 (by decide))⟩, by rw [ht]; exact hP, hK.warm hW, hD⟩, hS.F ht⟩) hS.2.2 dX11_torn_30
  · refine lv_istore_n (lv' := [(3, .int 0), (0, .ref a_0), (1, .int i_0), (2, .int i_1)]) hx hb dX11_torn_7 rfl hl (by decide) rfl ?_
    clear hl
    clear ls
    intro ls hl
    refine lv_iload_n hx hb dX11_torn_8 rfl (lv_at hl 0 rfl) ?_
    refine lv_if_eq (tgt := 16) hx hb dX11_torn_9 (by decide) (fun c23 => ?_) (fun c23 => ?_)
    · refine lv_aload_n hx hb dX11_torn_16 rfl (lv_at hl 1 rfl) ?_
      refine va_get (D := G) (ci := 11) (v := .ref a_8) (C := RX11) (T := TX11) (N := 11) hx hb hts (mm_i inlX11) hown hK.1 hP 0 rfl rfl 7 (by decide) (mm_h hts mm_w42) (fun _ h9 => h9) rfl dX11_torn_17 ?_
      refine lv_aload_n hx hb dX11_torn_20 rfl (lv_at hl 1 rfl) ?_
      refine va_get (D := G) (ci := 11) (v := .ref a_6) (C := RX11) (T := TX11) (N := 11) hx hb hts (mm_i inlX11) hown hK.1 hP 0 rfl rfl 5 (by decide) (mm_h hts mm_w32) (fun _ h9 => h9) rfl dX11_torn_21 ?_
      refine lv_iload_n hx hb dX11_torn_24 rfl (lv_at hl 2 rfl) ?_
      obtain rfl : i_0 = 0 := mm_is w5 0 (by decide)
      refine va_aldq hx hb hK.1 hP 15 6 rfl rfl (mm_in mm_k0 (by decide)) dX11_torn_25 ?_
      refine W.eq (g2 := F0 m 26 ls [.ref a_33, .ref a_8]) rfl ?_
      refine lv_iload_n hx hb dX11_torn_26 rfl (lv_at hl 3 rfl) ?_
      refine mm_fini (va_runV (As := [.ref a_33, .int i_1]) (rest := []) ⟨hx, hb, hml, hown, hts⟩ (K443_X3_gather l G cy H.size a_8 a_33 i_1 a_3 a_12 a_13 i_2 i_3 i_4 i_5 i_6 i_7 i_8 i_9 a_14 a_15 a_16 a_17 a_18 a_19 a_20 a_21 a_22 a_23 f_0 f_1 f_2 f_3 f_4 a_24 a_25 a_26 a_27 a_28 i_10 i_11 i_12 f_5 a_29 a_30 i_13 i_14 i_15 f_6 a_31 a_32 i_16 i_17 i_18 f_7 i_19 i_20 i_21 a_37 f_8 a_7 a_41 i_31 f_12 w6 h0 h1 h3 h4 h5 h6 h7 h8 h9 h10 h11 h12 h13 h14 h16 h23 h24 w8) (cwV 2 hts (mm_gV mm_w1249 mm_w1250 mm_w1251 mm_w41 mm_w1252) rfl rfl rfl hd_X3_gather ⟨by rw [hRf]; exact Nat.le_of_ble_eq_true rfl, by rw [hRl]; exact Nat.le_of_ble_eq_true rfl⟩) (mm_preV hK hZ hS hA hP hD [1, 2, 3, 4, 5, 6, 7, 8, 9, 10, 11, 12, 13, 14, 16, 17, 24, 25] rfl rfl 24 rfl rfl rfl) rfl rfl hl.1 rfl (lv_room (Nat.le_of_ble_eq_true rfl)) dX11_torn_27 ⟨by rw [hRc]; exact Nat.le_of_ble_eq_true rfl, by rw [hRs]; exact Nat.le_of_ble_eq_true rfl⟩) hP hD hS hA (fun u : Int32 × (Nat → Int32) => [(a_0, .inr (11, [.ref a_1, .ref a_2, .ref a_3, .ref a_4, .ref a_5, .ref a_6, .ref a_7, .ref a_8, .ref a_9, .ref a_10, .ref a_11])), (a_3, .inr (10, [.ref a_12, .ref a_13])), (a_12, .inr (0, [.int i_2, .int i_3, .int i_4, .int i_5, .int i_6, .int i_7, .int i_8, .int i_9, .ref a_14, .ref a_15, .ref a_16, .ref a_17, .ref a_18, .ref a_19, .ref a_20, .ref a_21, .ref a_22, .ref a_23])), (a_14, .inl (cy 1, 9, .inl f_0)), (a_15, .inl (cy 1, 9, .inl f_1)), (a_18, .inl (cy 1, 6, .inl f_2)), (a_19, .inl (cy 1, 48, .inl f_3)), (a_20, .inl (cy 1, 30, .inl f_4)), (a_13, .inl (cy 5, 3, .inr (.inr (.inr (.inr (va_up (va_up (va_up (fun _ => none) 0 (some a_24)) 1 (some a_25)) 2 (some a_26))))))), (a_24, .inr (1, [.ref a_27, .ref a_28, .int i_10, .int i_11, .int i_12])), (a_27, .inl (cy 1, 2100, .inl f_5)), (a_25, .inr (1, [.ref a_29, .ref a_30, .int i_13, .int i_14, .int i_15])), (a_29, .inl (cy 1, 2100, .inl f_6)), (a_26, .inr (1, [.ref a_31, .ref a_32, .int i_16, .int i_17, .int i_18])), (a_31, .inl (cy 1, 2100, .inl f_7)), (a_6, .inl (cy 6, 4, .inr (.inr (.inr (.inr (va_up (va_up (va_up (va_up (fun _ => none) 0 (some a_33)) 1 (some a_34)) 2 (some a_35)) 3 (some a_36))))))), (a_33, .inr (6, [.int i_19, .int i_20, .int i_21, .ref a_37])), (a_37, .inl (cy 2, 60, .inr (.inl f_8))), (a_34, .inr (6, [.int i_22, .int i_23, .int i_24, .ref a_38])), (a_38, .inl (cy 2, 60, .inr (.inl f_9))), (a_35, .inr (6, [.int i_25, .int i_26, .int i_27, .ref a_39])), (a_39, .inl (cy 2, 60, .inr (.inl f_10))), (a_36, .inr (6, [.int i_28, .int i_29, .int i_30, .ref a_40])), (a_40, .inl (cy 2, 60, .inr (.inl f_11))), (a_8, .inr (3, [.ref a_3, .ref a_7, .ref a_41, .int u.1])), (a_41, .inl (cy 1, 210, .inl u.2))]) [1, 2, 3, 4, 5, 6, 7, 8, 9, 10, 11, 12, 13, 14, 16, 17, 24, 25] [0, 15, 18, 19, 20, 21, 22, 23] (n := 26) (fun _ => rfl) (by decide +kernel) (by decide +kernel) rfl (fun _ => rfl) (wr := [(a_0, .inr (11, [.ref a_1, .ref a_2, .ref a_3, .ref a_4, .ref a_5, .ref a_6, .ref a_7, .ref a_8, .ref a_9, .ref a_10, .ref a_11])), (a_6, .inl (cy 6, 4, .inr (.inr (.inr (.inr (va_up (va_up (va_up (va_up (fun _ => none) 0 (some a_33)) 1 (some a_34)) 2 (some a_35)) 3 (some a_36))))))), (a_34, .inr (6, [.int i_22, .int i_23, .int i_24, .ref a_38])), (a_38, .inl (cy 2, 60, .inr (.inl f_9))), (a_35, .inr (6, [.int i_25, .int i_26, .int i_27, .ref a_39])), (a_39, .inl (cy 2, 60, .inr (.inl f_10))), (a_36, .inr (6, [.int i_28, .int i_29, .int i_30, .ref a_40])), (a_40, .inl (cy 2, 60, .inr (.inl f_11)))]) rfl (fun _ => rfl) (fun _ => rfl) ?_
      clear hP hD hS
      clear H locs
      intro v26 u
      obtain ⟨n24, n25⟩ := u
      intro H locs hw (hP : va_P G vwCl [(a_0, .inr (11, [.ref a_1, .ref a_2, .ref a_3, .ref a_4, .ref a_5, .ref a_6, .ref a_7, .ref a_8, .ref a_9, .ref a_10, .ref a_11])), (a_3, .inr (10, [.ref a_12, .ref a_13])), (a_12, .inr (0, [.int i_2, .int i_3, .int i_4, .int i_5, .int i_6, .int i_7, .int i_8, .int i_9, .ref a_14, .ref a_15, .ref a_16, .ref a_17, .ref a_18, .ref a_19, .ref a_20, .ref a_21, .ref a_22, .ref a_23])), (a_14, .inl (cy 1, 9, .inl f_0)), (a_15, .inl (cy 1, 9, .inl f_1)), (a_18, .inl (cy 1, 6, .inl f_2)), (a_19, .inl (cy 1, 48, .inl f_3)), (a_20, .inl (cy 1, 30, .inl f_4)), (a_13, .inl (cy 5, 3, .inr (.inr (.inr (.inr (va_up (va_up (va_up (fun _ => none) 0 (some a_24)) 1 (some a_25)) 2 (some a_26))))))), (a_24, .inr (1, [.ref a_27, .ref a_28, .int i_10, .int i_11, .int i_12])), (a_27, .inl (cy 1, 2100, .inl f_5)), (a_25, .inr (1, [.ref a_29, .ref a_30, .int i_13, .int i_14, .int i_15])), (a_29, .inl (cy 1, 2100, .inl f_6)), (a_26, .inr (1, [.ref a_31, .ref a_32, .int i_16, .int i_17, .int i_18])), (a_31, .inl (cy 1, 2100, .inl f_7)), (a_6, .inl (cy 6, 4, .inr (.inr (.inr (.inr (va_up (va_up (va_up (va_up (fun _ => none) 0 (some a_33)) 1 (some a_34)) 2 (some a_35)) 3 (some a_36))))))), (a_33, .inr (6, [.int i_19, .int i_20, .int i_21, .ref a_37])), (a_37, .inl (cy 2, 60, .inr (.inl f_8))), (a_34, .inr (6, [.int i_22, .int i_23, .int i_24, .ref a_38])), (a_38, .inl (cy 2, 60, .inr (.inl f_9))), (a_35, .inr (6, [.int i_25, .int i_26, .int i_27, .ref a_39])), (a_39, .inl (cy 2, 60, .inr (.inl f_10))), (a_36, .inr (6, [.int i_28, .int i_29, .int i_30, .ref a_40])), (a_40, .inl (cy 2, 60, .inr (.inl f_11))), (a_8, .inr (3, [.ref a_3, .ref a_7, .ref a_41, .int n24])), (a_41, .inl (cy 1, 210, .inl n25))] H) (hD : va_D A [(a_0, .inr (11, [.ref a_1, .ref a_2, .ref a_3, .ref a_4, .ref a_5, .ref a_6, .ref a_7, .ref a_8, .ref a_9, .ref a_10, .ref a_11])), (a_3, .inr (10, [.ref a_12, .ref a_13])), (a_12, .inr (0, [.int i_2, .int i_3, .int i_4, .int i_5, .int i_6, .int i_7, .int i_8, .int i_9, .ref a_14, .ref a_15, .ref a_16, .ref a_17, .ref a_18, .ref a_19, .ref a_20, .ref a_21, .ref a_22, .ref a_23])), (a_14, .inl (cy 1, 9, .inl f_0)), (a_15, .inl (cy 1, 9, .inl f_1)), (a_18, .inl (cy 1, 6, .inl f_2)), (a_19, .inl (cy 1, 48, .inl f_3)), (a_20, .inl (cy 1, 30, .inl f_4)), (a_13, .inl (cy 5, 3, .inr (.inr (.inr (.inr (va_up (va_up (va_up (fun _ => none) 0 (some a_24)) 1 (some a_25)) 2 (some a_26))))))), (a_24, .inr (1, [.ref a_27, .ref a_28, .int i_10, .int i_11, .int i_12])), (a_27, .inl (cy 1, 2100, .inl f_5)), (a_25, .inr (1, [.ref a_29, .ref a_30, .int i_13, .int i_14, .int i_15])), (a_29, .inl (cy 1, 2100, .inl f_6)), (a_26, .inr (1, [.ref a_31, .ref a_32, .int i_16, .int i_17, .int i_18])), (a_31, .inl (cy 1, 2100, .inl f_7)), (a_6, .inl (cy 6, 4, .inr (.inr (.inr (.inr (va_up (va_up (va_up (va_up (fun _ => none) 0 (some a_33)) 1 (some a_34)) 2 (some a_35)) 3 (some a_36))))))), (a_33, .inr (6, [.int i_19, .int i_20, .int i_21, .ref a_37])), (a_37, .inl (cy 2, 60, .inr (.inl f_8))), (a_34, .inr (6, [.int i_22, .int i_23, .int i_24, .ref a_38])), (a_38, .inl (cy 2, 60, .inr (.inl f_9))), (a_35, .inr (6, [.int i_25, .int i_26, .int i_27, .ref a_39])), (a_39, .inl (cy 2, 60, .inr (.inl f_10))), (a_36, .inr (6, [.int i_28, .int i_29, .int i_30, .ref a_40])), (a_40, .inl (cy 2, 60, .inr (.inl f_11))), (a_8, .inr (3, [.ref a_3, .ref a_7, .ref a_41, .int n24])), (a_41, .inl (cy 1, 210, .inl n25))]) hS
      obtain ⟨w27, w28, hw⟩ := hw
      have w29 := hw
      subst hAe
      rw [hQ]
      exact W.iret (v := v26) hx hb hr (fun t ht hW => ⟨⟨v26, (n24, n25), rfl, ⟨w27, w28, (mm_wk w29 (by decide))⟩, by rw [ht]; exact hP, hK.warm hW, hD⟩, hS.F ht⟩) hS.2.2 dX11_torn_30
    · have q30 := mm_neL (lo := 1) (mm_ne c23) mm_k0 mm_k0 (by decide) (by decide)
      exact mm_no q30 (by decide)
  · refine lv_istore_n (lv' := [(3, .int 0), (0, .ref a_0), (1, .int i_0), (2, .int i_1)]) hx hb dX11_torn_7 rfl hl (by decide) rfl ?_
    clear hl
    clear ls
    intro ls hl
    refine lv_iload_n hx hb dX11_torn_8 rfl (lv_at hl 0 rfl) ?_
    refine lv_if_eq (tgt := 16) hx hb dX11_torn_9 (by decide) (fun c31 => ?_) (fun c31 => ?_)
    · refine lv_aload_n hx hb dX11_torn_16 rfl (lv_at hl 1 rfl) ?_
      refine va_get (D := G) (ci := 11) (v := .ref a_8) (C := RX11) (T := TX11) (N := 11) hx hb hts (mm_i inlX11) hown hK.1 hP 0 rfl rfl 7 (by decide) (mm_h hts mm_w42) (fun _ h9 => h9) rfl dX11_torn_17 ?_
      refine lv_aload_n hx hb dX11_torn_20 rfl (lv_at hl 1 rfl) ?_
      refine va_get (D := G) (ci := 11) (v := .ref a_6) (C := RX11) (T := TX11) (N := 11) hx hb hts (mm_i inlX11) hown hK.1 hP 0 rfl rfl 5 (by decide) (mm_h hts mm_w32) (fun _ h9 => h9) rfl dX11_torn_21 ?_
      refine lv_iload_n hx hb dX11_torn_24 rfl (lv_at hl 2 rfl) ?_
      obtain rfl : i_0 = 1 := mm_is w9 1 (by decide)
      refine va_aldq hx hb hK.1 hP 15 6 rfl rfl (mm_in mm_k1 (by decide)) dX11_torn_25 ?_
      refine W.eq (g2 := F0 m 26 ls [.ref a_34, .ref a_8]) rfl ?_
      refine lv_iload_n hx hb dX11_torn_26 rfl (lv_at hl 3 rfl) ?_
      refine mm_fini (va_runV (As := [.ref a_34, .int i_1]) (rest := []) ⟨hx, hb, hml, hown, hts⟩ (K443_X3_gather l G cy H.size a_8 a_34 i_1 a_3 a_12 a_13 i_2 i_3 i_4 i_5 i_6 i_7 i_8 i_9 a_14 a_15 a_16 a_17 a_18 a_19 a_20 a_21 a_22 a_23 f_0 f_1 f_2 f_3 f_4 a_24 a_25 a_26 a_27 a_28 i_10 i_11 i_12 f_5 a_29 a_30 i_13 i_14 i_15 f_6 a_31 a_32 i_16 i_17 i_18 f_7 i_22 i_23 i_24 a_38 f_9 a_7 a_41 i_31 f_12 w10 h0 h1 h3 h4 h5 h6 h7 h8 h9 h10 h11 h12 h13 h14 h18 h23 h24 w12) (cwV 2 hts (mm_gV mm_w1249 mm_w1250 mm_w1251 mm_w41 mm_w1252) rfl rfl rfl hd_X3_gather ⟨by rw [hRf]; exact Nat.le_of_ble_eq_true rfl, by rw [hRl]; exact Nat.le_of_ble_eq_true rfl⟩) (mm_preV hK hZ hS hA hP hD [1, 2, 3, 4, 5, 6, 7, 8, 9, 10, 11, 12, 13, 14, 18, 19, 24, 25] rfl rfl 24 rfl rfl rfl) rfl rfl hl.1 rfl (lv_room (Nat.le_of_ble_eq_true rfl)) dX11_torn_27 ⟨by rw [hRc]; exact Nat.le_of_ble_eq_true rfl, by rw [hRs]; exact Nat.le_of_ble_eq_true rfl⟩) hP hD hS hA (fun u : Int32 × (Nat → Int32) => [(a_0, .inr (11, [.ref a_1, .ref a_2, .ref a_3, .ref a_4, .ref a_5, .ref a_6, .ref a_7, .ref a_8, .ref a_9, .ref a_10, .ref a_11])), (a_3, .inr (10, [.ref a_12, .ref a_13])), (a_12, .inr (0, [.int i_2, .int i_3, .int i_4, .int i_5, .int i_6, .int i_7, .int i_8, .int i_9, .ref a_14, .ref a_15, .ref a_16, .ref a_17, .ref a_18, .ref a_19, .ref a_20, .ref a_21, .ref a_22, .ref a_23])), (a_14, .inl (cy 1, 9, .inl f_0)), (a_15, .inl (cy 1, 9, .inl f_1)), (a_18, .inl (cy 1, 6, .inl f_2)), (a_19, .inl (cy 1, 48, .inl f_3)), (a_20, .inl (cy 1, 30, .inl f_4)), (a_13, .inl (cy 5, 3, .inr (.inr (.inr (.inr (va_up (va_up (va_up (fun _ => none) 0 (some a_24)) 1 (some a_25)) 2 (some a_26))))))), (a_24, .inr (1, [.ref a_27, .ref a_28, .int i_10, .int i_11, .int i_12])), (a_27, .inl (cy 1, 2100, .inl f_5)), (a_25, .inr (1, [.ref a_29, .ref a_30, .int i_13, .int i_14, .int i_15])), (a_29, .inl (cy 1, 2100, .inl f_6)), (a_26, .inr (1, [.ref a_31, .ref a_32, .int i_16, .int i_17, .int i_18])), (a_31, .inl (cy 1, 2100, .inl f_7)), (a_6, .inl (cy 6, 4, .inr (.inr (.inr (.inr (va_up (va_up (va_up (va_up (fun _ => none) 0 (some a_33)) 1 (some a_34)) 2 (some a_35)) 3 (some a_36))))))), (a_33, .inr (6, [.int i_19, .int i_20, .int i_21, .ref a_37])), (a_37, .inl (cy 2, 60, .inr (.inl f_8))), (a_34, .inr (6, [.int i_22, .int i_23, .int i_24, .ref a_38])), (a_38, .inl (cy 2, 60, .inr (.inl f_9))), (a_35, .inr (6, [.int i_25, .int i_26, .int i_27, .ref a_39])), (a_39, .inl (cy 2, 60, .inr (.inl f_10))), (a_36, .inr (6, [.int i_28, .int i_29, .int i_30, .ref a_40])), (a_40, .inl (cy 2, 60, .inr (.inl f_11))), (a_8, .inr (3, [.ref a_3, .ref a_7, .ref a_41, .int u.1])), (a_41, .inl (cy 1, 210, .inl u.2))]) [1, 2, 3, 4, 5, 6, 7, 8, 9, 10, 11, 12, 13, 14, 18, 19, 24, 25] [0, 15, 16, 17, 20, 21, 22, 23] (n := 26) (fun _ => rfl) (by decide +kernel) (by decide +kernel) rfl (fun _ => rfl) (wr := [(a_0, .inr (11, [.ref a_1, .ref a_2, .ref a_3, .ref a_4, .ref a_5, .ref a_6, .ref a_7, .ref a_8, .ref a_9, .ref a_10, .ref a_11])), (a_6, .inl (cy 6, 4, .inr (.inr (.inr (.inr (va_up (va_up (va_up (va_up (fun _ => none) 0 (some a_33)) 1 (some a_34)) 2 (some a_35)) 3 (some a_36))))))), (a_33, .inr (6, [.int i_19, .int i_20, .int i_21, .ref a_37])), (a_37, .inl (cy 2, 60, .inr (.inl f_8))), (a_35, .inr (6, [.int i_25, .int i_26, .int i_27, .ref a_39])), (a_39, .inl (cy 2, 60, .inr (.inl f_10))), (a_36, .inr (6, [.int i_28, .int i_29, .int i_30, .ref a_40])), (a_40, .inl (cy 2, 60, .inr (.inl f_11)))]) rfl (fun _ => rfl) (fun _ => rfl) ?_
      clear hP hD hS
      clear H locs
      intro v34 u
      obtain ⟨n32, n33⟩ := u
      intro H locs hw (hP : va_P G vwCl [(a_0, .inr (11, [.ref a_1, .ref a_2, .ref a_3, .ref a_4, .ref a_5, .ref a_6, .ref a_7, .ref a_8, .ref a_9, .ref a_10, .ref a_11])), (a_3, .inr (10, [.ref a_12, .ref a_13])), (a_12, .inr (0, [.int i_2, .int i_3, .int i_4, .int i_5, .int i_6, .int i_7, .int i_8, .int i_9, .ref a_14, .ref a_15, .ref a_16, .ref a_17, .ref a_18, .ref a_19, .ref a_20, .ref a_21, .ref a_22, .ref a_23])), (a_14, .inl (cy 1, 9, .inl f_0)), (a_15, .inl (cy 1, 9, .inl f_1)), (a_18, .inl (cy 1, 6, .inl f_2)), (a_19, .inl (cy 1, 48, .inl f_3)), (a_20, .inl (cy 1, 30, .inl f_4)), (a_13, .inl (cy 5, 3, .inr (.inr (.inr (.inr (va_up (va_up (va_up (fun _ => none) 0 (some a_24)) 1 (some a_25)) 2 (some a_26))))))), (a_24, .inr (1, [.ref a_27, .ref a_28, .int i_10, .int i_11, .int i_12])), (a_27, .inl (cy 1, 2100, .inl f_5)), (a_25, .inr (1, [.ref a_29, .ref a_30, .int i_13, .int i_14, .int i_15])), (a_29, .inl (cy 1, 2100, .inl f_6)), (a_26, .inr (1, [.ref a_31, .ref a_32, .int i_16, .int i_17, .int i_18])), (a_31, .inl (cy 1, 2100, .inl f_7)), (a_6, .inl (cy 6, 4, .inr (.inr (.inr (.inr (va_up (va_up (va_up (va_up (fun _ => none) 0 (some a_33)) 1 (some a_34)) 2 (some a_35)) 3 (some a_36))))))), (a_33, .inr (6, [.int i_19, .int i_20, .int i_21, .ref a_37])), (a_37, .inl (cy 2, 60, .inr (.inl f_8))), (a_34, .inr (6, [.int i_22, .int i_23, .int i_24, .ref a_38])), (a_38, .inl (cy 2, 60, .inr (.inl f_9))), (a_35, .inr (6, [.int i_25, .int i_26, .int i_27, .ref a_39])), (a_39, .inl (cy 2, 60, .inr (.inl f_10))), (a_36, .inr (6, [.int i_28, .int i_29, .int i_30, .ref a_40])), (a_40, .inl (cy 2, 60, .inr (.inl f_11))), (a_8, .inr (3, [.ref a_3, .ref a_7, .ref a_41, .int n32])), (a_41, .inl (cy 1, 210, .inl n33))] H) (hD : va_D A [(a_0, .inr (11, [.ref a_1, .ref a_2, .ref a_3, .ref a_4, .ref a_5, .ref a_6, .ref a_7, .ref a_8, .ref a_9, .ref a_10, .ref a_11])), (a_3, .inr (10, [.ref a_12, .ref a_13])), (a_12, .inr (0, [.int i_2, .int i_3, .int i_4, .int i_5, .int i_6, .int i_7, .int i_8, .int i_9, .ref a_14, .ref a_15, .ref a_16, .ref a_17, .ref a_18, .ref a_19, .ref a_20, .ref a_21, .ref a_22, .ref a_23])), (a_14, .inl (cy 1, 9, .inl f_0)), (a_15, .inl (cy 1, 9, .inl f_1)), (a_18, .inl (cy 1, 6, .inl f_2)), (a_19, .inl (cy 1, 48, .inl f_3)), (a_20, .inl (cy 1, 30, .inl f_4)), (a_13, .inl (cy 5, 3, .inr (.inr (.inr (.inr (va_up (va_up (va_up (fun _ => none) 0 (some a_24)) 1 (some a_25)) 2 (some a_26))))))), (a_24, .inr (1, [.ref a_27, .ref a_28, .int i_10, .int i_11, .int i_12])), (a_27, .inl (cy 1, 2100, .inl f_5)), (a_25, .inr (1, [.ref a_29, .ref a_30, .int i_13, .int i_14, .int i_15])), (a_29, .inl (cy 1, 2100, .inl f_6)), (a_26, .inr (1, [.ref a_31, .ref a_32, .int i_16, .int i_17, .int i_18])), (a_31, .inl (cy 1, 2100, .inl f_7)), (a_6, .inl (cy 6, 4, .inr (.inr (.inr (.inr (va_up (va_up (va_up (va_up (fun _ => none) 0 (some a_33)) 1 (some a_34)) 2 (some a_35)) 3 (some a_36))))))), (a_33, .inr (6, [.int i_19, .int i_20, .int i_21, .ref a_37])), (a_37, .inl (cy 2, 60, .inr (.inl f_8))), (a_34, .inr (6, [.int i_22, .int i_23, .int i_24, .ref a_38])), (a_38, .inl (cy 2, 60, .inr (.inl f_9))), (a_35, .inr (6, [.int i_25, .int i_26, .int i_27, .ref a_39])), (a_39, .inl (cy 2, 60, .inr (.inl f_10))), (a_36, .inr (6, [.int i_28, .int i_29, .int i_30, .ref a_40])), (a_40, .inl (cy 2, 60, .inr (.inl f_11))), (a_8, .inr (3, [.ref a_3, .ref a_7, .ref a_41, .int n32])), (a_41, .inl (cy 1, 210, .inl n33))]) hS
      obtain ⟨w35, w36, hw⟩ := hw
      have w37 := hw
      subst hAe
      rw [hQ]
      exact W.iret (v := v34) hx hb hr (fun t ht hW => ⟨⟨v34, (n32, n33), rfl, ⟨w35, w36, (mm_wk w37 (by decide))⟩, by rw [ht]; exact hP, hK.warm hW, hD⟩, hS.F ht⟩) hS.2.2 dX11_torn_30
    · have q38 := mm_neL (lo := 1) (mm_ne c31) mm_k0 mm_k0 (by decide) (by decide)
      exact mm_no q38 (by decide)
  · refine lv_istore_n (lv' := [(3, .int 0), (0, .ref a_0), (1, .int i_0), (2, .int i_1)]) hx hb dX11_torn_7 rfl hl (by decide) rfl ?_
    clear hl
    clear ls
    intro ls hl
    refine lv_iload_n hx hb dX11_torn_8 rfl (lv_at hl 0 rfl) ?_
    refine lv_if_eq (tgt := 16) hx hb dX11_torn_9 (by decide) (fun c39 => ?_) (fun c39 => ?_)
    · refine lv_aload_n hx hb dX11_torn_16 rfl (lv_at hl 1 rfl) ?_
      refine va_get (D := G) (ci := 11) (v := .ref a_8) (C := RX11) (T := TX11) (N := 11) hx hb hts (mm_i inlX11) hown hK.1 hP 0 rfl rfl 7 (by decide) (mm_h hts mm_w42) (fun _ h9 => h9) rfl dX11_torn_17 ?_
      refine lv_aload_n hx hb dX11_torn_20 rfl (lv_at hl 1 rfl) ?_
      refine va_get (D := G) (ci := 11) (v := .ref a_6) (C := RX11) (T := TX11) (N := 11) hx hb hts (mm_i inlX11) hown hK.1 hP 0 rfl rfl 5 (by decide) (mm_h hts mm_w32) (fun _ h9 => h9) rfl dX11_torn_21 ?_
      refine lv_iload_n hx hb dX11_torn_24 rfl (lv_at hl 2 rfl) ?_
      obtain rfl : i_0 = 2 := mm_is w13 2 (by decide)
      refine va_aldq hx hb hK.1 hP 15 6 rfl rfl (mm_in mm_k2 (by decide)) dX11_torn_25 ?_
      refine W.eq (g2 := F0 m 26 ls [.ref a_35, .ref a_8]) rfl ?_
      refine lv_iload_n hx hb dX11_torn_26 rfl (lv_at hl 3 rfl) ?_
      refine mm_fini (va_runV (As := [.ref a_35, .int i_1]) (rest := []) ⟨hx, hb, hml, hown, hts⟩ (K443_X3_gather l G cy H.size a_8 a_35 i_1 a_3 a_12 a_13 i_2 i_3 i_4 i_5 i_6 i_7 i_8 i_9 a_14 a_15 a_16 a_17 a_18 a_19 a_20 a_21 a_22 a_23 f_0 f_1 f_2 f_3 f_4 a_24 a_25 a_26 a_27 a_28 i_10 i_11 i_12 f_5 a_29 a_30 i_13 i_14 i_15 f_6 a_31 a_32 i_16 i_17 i_18 f_7 i_25 i_26 i_27 a_39 f_10 a_7 a_41 i_31 f_12 w14 h0 h1 h3 h4 h5 h6 h7 h8 h9 h10 h11 h12 h13 h14 h20 h23 h24 w16) (cwV 2 hts (mm_gV mm_w1249 mm_w1250 mm_w1251 mm_w41 mm_w1252) rfl rfl rfl hd_X3_gather ⟨by rw [hRf]; exact Nat.le_of_ble_eq_true rfl, by rw [hRl]; exact Nat.le_of_ble_eq_true rfl⟩) (mm_preV hK hZ hS hA hP hD [1, 2, 3, 4, 5, 6, 7, 8, 9, 10, 11, 12, 13, 14, 20, 21, 24, 25] rfl rfl 24 rfl rfl rfl) rfl rfl hl.1 rfl (lv_room (Nat.le_of_ble_eq_true rfl)) dX11_torn_27 ⟨by rw [hRc]; exact Nat.le_of_ble_eq_true rfl, by rw [hRs]; exact Nat.le_of_ble_eq_true rfl⟩) hP hD hS hA (fun u : Int32 × (Nat → Int32) => [(a_0, .inr (11, [.ref a_1, .ref a_2, .ref a_3, .ref a_4, .ref a_5, .ref a_6, .ref a_7, .ref a_8, .ref a_9, .ref a_10, .ref a_11])), (a_3, .inr (10, [.ref a_12, .ref a_13])), (a_12, .inr (0, [.int i_2, .int i_3, .int i_4, .int i_5, .int i_6, .int i_7, .int i_8, .int i_9, .ref a_14, .ref a_15, .ref a_16, .ref a_17, .ref a_18, .ref a_19, .ref a_20, .ref a_21, .ref a_22, .ref a_23])), (a_14, .inl (cy 1, 9, .inl f_0)), (a_15, .inl (cy 1, 9, .inl f_1)), (a_18, .inl (cy 1, 6, .inl f_2)), (a_19, .inl (cy 1, 48, .inl f_3)), (a_20, .inl (cy 1, 30, .inl f_4)), (a_13, .inl (cy 5, 3, .inr (.inr (.inr (.inr (va_up (va_up (va_up (fun _ => none) 0 (some a_24)) 1 (some a_25)) 2 (some a_26))))))), (a_24, .inr (1, [.ref a_27, .ref a_28, .int i_10, .int i_11, .int i_12])), (a_27, .inl (cy 1, 2100, .inl f_5)), (a_25, .inr (1, [.ref a_29, .ref a_30, .int i_13, .int i_14, .int i_15])), (a_29, .inl (cy 1, 2100, .inl f_6)), (a_26, .inr (1, [.ref a_31, .ref a_32, .int i_16, .int i_17, .int i_18])), (a_31, .inl (cy 1, 2100, .inl f_7)), (a_6, .inl (cy 6, 4, .inr (.inr (.inr (.inr (va_up (va_up (va_up (va_up (fun _ => none) 0 (some a_33)) 1 (some a_34)) 2 (some a_35)) 3 (some a_36))))))), (a_33, .inr (6, [.int i_19, .int i_20, .int i_21, .ref a_37])), (a_37, .inl (cy 2, 60, .inr (.inl f_8))), (a_34, .inr (6, [.int i_22, .int i_23, .int i_24, .ref a_38])), (a_38, .inl (cy 2, 60, .inr (.inl f_9))), (a_35, .inr (6, [.int i_25, .int i_26, .int i_27, .ref a_39])), (a_39, .inl (cy 2, 60, .inr (.inl f_10))), (a_36, .inr (6, [.int i_28, .int i_29, .int i_30, .ref a_40])), (a_40, .inl (cy 2, 60, .inr (.inl f_11))), (a_8, .inr (3, [.ref a_3, .ref a_7, .ref a_41, .int u.1])), (a_41, .inl (cy 1, 210, .inl u.2))]) [1, 2, 3, 4, 5, 6, 7, 8, 9, 10, 11, 12, 13, 14, 20, 21, 24, 25] [0, 15, 16, 17, 18, 19, 22, 23] (n := 26) (fun _ => rfl) (by decide +kernel) (by decide +kernel) rfl (fun _ => rfl) (wr := [(a_0, .inr (11, [.ref a_1, .ref a_2, .ref a_3, .ref a_4, .ref a_5, .ref a_6, .ref a_7, .ref a_8, .ref a_9, .ref a_10, .ref a_11])), (a_6, .inl (cy 6, 4, .inr (.inr (.inr (.inr (va_up (va_up (va_up (va_up (fun _ => none) 0 (some a_33)) 1 (some a_34)) 2 (some a_35)) 3 (some a_36))))))), (a_33, .inr (6, [.int i_19, .int i_20, .int i_21, .ref a_37])), (a_37, .inl (cy 2, 60, .inr (.inl f_8))), (a_34, .inr (6, [.int i_22, .int i_23, .int i_24, .ref a_38])), (a_38, .inl (cy 2, 60, .inr (.inl f_9))), (a_36, .inr (6, [.int i_28, .int i_29, .int i_30, .ref a_40])), (a_40, .inl (cy 2, 60, .inr (.inl f_11)))]) rfl (fun _ => rfl) (fun _ => rfl) ?_
      clear hP hD hS
      clear H locs
      intro v42 u
      obtain ⟨n40, n41⟩ := u
      intro H locs hw (hP : va_P G vwCl [(a_0, .inr (11, [.ref a_1, .ref a_2, .ref a_3, .ref a_4, .ref a_5, .ref a_6, .ref a_7, .ref a_8, .ref a_9, .ref a_10, .ref a_11])), (a_3, .inr (10, [.ref a_12, .ref a_13])), (a_12, .inr (0, [.int i_2, .int i_3, .int i_4, .int i_5, .int i_6, .int i_7, .int i_8, .int i_9, .ref a_14, .ref a_15, .ref a_16, .ref a_17, .ref a_18, .ref a_19, .ref a_20, .ref a_21, .ref a_22, .ref a_23])), (a_14, .inl (cy 1, 9, .inl f_0)), (a_15, .inl (cy 1, 9, .inl f_1)), (a_18, .inl (cy 1, 6, .inl f_2)), (a_19, .inl (cy 1, 48, .inl f_3)), (a_20, .inl (cy 1, 30, .inl f_4)), (a_13, .inl (cy 5, 3, .inr (.inr (.inr (.inr (va_up (va_up (va_up (fun _ => none) 0 (some a_24)) 1 (some a_25)) 2 (some a_26))))))), (a_24, .inr (1, [.ref a_27, .ref a_28, .int i_10, .int i_11, .int i_12])), (a_27, .inl (cy 1, 2100, .inl f_5)), (a_25, .inr (1, [.ref a_29, .ref a_30, .int i_13, .int i_14, .int i_15])), (a_29, .inl (cy 1, 2100, .inl f_6)), (a_26, .inr (1, [.ref a_31, .ref a_32, .int i_16, .int i_17, .int i_18])), (a_31, .inl (cy 1, 2100, .inl f_7)), (a_6, .inl (cy 6, 4, .inr (.inr (.inr (.inr (va_up (va_up (va_up (va_up (fun _ => none) 0 (some a_33)) 1 (some a_34)) 2 (some a_35)) 3 (some a_36))))))), (a_33, .inr (6, [.int i_19, .int i_20, .int i_21, .ref a_37])), (a_37, .inl (cy 2, 60, .inr (.inl f_8))), (a_34, .inr (6, [.int i_22, .int i_23, .int i_24, .ref a_38])), (a_38, .inl (cy 2, 60, .inr (.inl f_9))), (a_35, .inr (6, [.int i_25, .int i_26, .int i_27, .ref a_39])), (a_39, .inl (cy 2, 60, .inr (.inl f_10))), (a_36, .inr (6, [.int i_28, .int i_29, .int i_30, .ref a_40])), (a_40, .inl (cy 2, 60, .inr (.inl f_11))), (a_8, .inr (3, [.ref a_3, .ref a_7, .ref a_41, .int n40])), (a_41, .inl (cy 1, 210, .inl n41))] H) (hD : va_D A [(a_0, .inr (11, [.ref a_1, .ref a_2, .ref a_3, .ref a_4, .ref a_5, .ref a_6, .ref a_7, .ref a_8, .ref a_9, .ref a_10, .ref a_11])), (a_3, .inr (10, [.ref a_12, .ref a_13])), (a_12, .inr (0, [.int i_2, .int i_3, .int i_4, .int i_5, .int i_6, .int i_7, .int i_8, .int i_9, .ref a_14, .ref a_15, .ref a_16, .ref a_17, .ref a_18, .ref a_19, .ref a_20, .ref a_21, .ref a_22, .ref a_23])), (a_14, .inl (cy 1, 9, .inl f_0)), (a_15, .inl (cy 1, 9, .inl f_1)), (a_18, .inl (cy 1, 6, .inl f_2)), (a_19, .inl (cy 1, 48, .inl f_3)), (a_20, .inl (cy 1, 30, .inl f_4)), (a_13, .inl (cy 5, 3, .inr (.inr (.inr (.inr (va_up (va_up (va_up (fun _ => none) 0 (some a_24)) 1 (some a_25)) 2 (some a_26))))))), (a_24, .inr (1, [.ref a_27, .ref a_28, .int i_10, .int i_11, .int i_12])), (a_27, .inl (cy 1, 2100, .inl f_5)), (a_25, .inr (1, [.ref a_29, .ref a_30, .int i_13, .int i_14, .int i_15])), (a_29, .inl (cy 1, 2100, .inl f_6)), (a_26, .inr (1, [.ref a_31, .ref a_32, .int i_16, .int i_17, .int i_18])), (a_31, .inl (cy 1, 2100, .inl f_7)), (a_6, .inl (cy 6, 4, .inr (.inr (.inr (.inr (va_up (va_up (va_up (va_up (fun _ => none) 0 (some a_33)) 1 (some a_34)) 2 (some a_35)) 3 (some a_36))))))), (a_33, .inr (6, [.int i_19, .int i_20, .int i_21, .ref a_37])), (a_37, .inl (cy 2, 60, .inr (.inl f_8))), (a_34, .inr (6, [.int i_22, .int i_23, .int i_24, .ref a_38])), (a_38, .inl (cy 2, 60, .inr (.inl f_9))), (a_35, .inr (6, [.int i_25, .int i_26, .int i_27, .ref a_39])), (a_39, .inl (cy 2, 60, .inr (.inl f_10))), (a_36, .inr (6, [.int i_28, .int i_29, .int i_30, .ref a_40])), (a_40, .inl (cy 2, 60, .inr (.inl f_11))), (a_8, .inr (3, [.ref a_3, .ref a_7, .ref a_41, .int n40])), (a_41, .inl (cy 1, 210, .inl n41))]) hS
      obtain ⟨w43, w44, hw⟩ := hw
      have w45 := hw
      subst hAe
      rw [hQ]
      exact W.iret (v := v42) hx hb hr (fun t ht hW => ⟨⟨v42, (n40, n41), rfl, ⟨w43, w44, (mm_wk w45 (by decide))⟩, by rw [ht]; exact hP, hK.warm hW, hD⟩, hS.F ht⟩) hS.2.2 dX11_torn_30
    · have q46 := mm_neL (lo := 1) (mm_ne c39) mm_k0 mm_k0 (by decide) (by decide)
      exact mm_no q46 (by decide)
  · refine lv_istore_n (lv' := [(3, .int 0), (0, .ref a_0), (1, .int i_0), (2, .int i_1)]) hx hb dX11_torn_7 rfl hl (by decide) rfl ?_
    clear hl
    clear ls
    intro ls hl
    refine lv_iload_n hx hb dX11_torn_8 rfl (lv_at hl 0 rfl) ?_
    refine lv_if_eq (tgt := 16) hx hb dX11_torn_9 (by decide) (fun c47 => ?_) (fun c47 => ?_)
    · refine lv_aload_n hx hb dX11_torn_16 rfl (lv_at hl 1 rfl) ?_
      refine va_get (D := G) (ci := 11) (v := .ref a_8) (C := RX11) (T := TX11) (N := 11) hx hb hts (mm_i inlX11) hown hK.1 hP 0 rfl rfl 7 (by decide) (mm_h hts mm_w42) (fun _ h9 => h9) rfl dX11_torn_17 ?_
      refine lv_aload_n hx hb dX11_torn_20 rfl (lv_at hl 1 rfl) ?_
      refine va_get (D := G) (ci := 11) (v := .ref a_6) (C := RX11) (T := TX11) (N := 11) hx hb hts (mm_i inlX11) hown hK.1 hP 0 rfl rfl 5 (by decide) (mm_h hts mm_w32) (fun _ h9 => h9) rfl dX11_torn_21 ?_
      refine lv_iload_n hx hb dX11_torn_24 rfl (lv_at hl 2 rfl) ?_
      obtain rfl : i_0 = 3 := mm_is w17 3 (by decide)
      refine va_aldq hx hb hK.1 hP 15 6 rfl rfl (mm_in mm_k3 (by decide)) dX11_torn_25 ?_
      refine W.eq (g2 := F0 m 26 ls [.ref a_36, .ref a_8]) rfl ?_
      refine lv_iload_n hx hb dX11_torn_26 rfl (lv_at hl 3 rfl) ?_
      refine mm_fini (va_runV (As := [.ref a_36, .int i_1]) (rest := []) ⟨hx, hb, hml, hown, hts⟩ (K443_X3_gather l G cy H.size a_8 a_36 i_1 a_3 a_12 a_13 i_2 i_3 i_4 i_5 i_6 i_7 i_8 i_9 a_14 a_15 a_16 a_17 a_18 a_19 a_20 a_21 a_22 a_23 f_0 f_1 f_2 f_3 f_4 a_24 a_25 a_26 a_27 a_28 i_10 i_11 i_12 f_5 a_29 a_30 i_13 i_14 i_15 f_6 a_31 a_32 i_16 i_17 i_18 f_7 i_28 i_29 i_30 a_40 f_11 a_7 a_41 i_31 f_12 w18 h0 h1 h3 h4 h5 h6 h7 h8 h9 h10 h11 h12 h13 h14 h22 h23 h24 w20) (cwV 2 hts (mm_gV mm_w1249 mm_w1250 mm_w1251 mm_w41 mm_w1252) rfl rfl rfl hd_X3_gather ⟨by rw [hRf]; exact Nat.le_of_ble_eq_true rfl, by rw [hRl]; exact Nat.le_of_ble_eq_true rfl⟩) (mm_preV hK hZ hS hA hP hD [1, 2, 3, 4, 5, 6, 7, 8, 9, 10, 11, 12, 13, 14, 22, 23, 24, 25] rfl rfl 24 rfl rfl rfl) rfl rfl hl.1 rfl (lv_room (Nat.le_of_ble_eq_true rfl)) dX11_torn_27 ⟨by rw [hRc]; exact Nat.le_of_ble_eq_true rfl, by rw [hRs]; exact Nat.le_of_ble_eq_true rfl⟩) hP hD hS hA (fun u : Int32 × (Nat → Int32) => [(a_0, .inr (11, [.ref a_1, .ref a_2, .ref a_3, .ref a_4, .ref a_5, .ref a_6, .ref a_7, .ref a_8, .ref a_9, .ref a_10, .ref a_11])), (a_3, .inr (10, [.ref a_12, .ref a_13])), (a_12, .inr (0, [.int i_2, .int i_3, .int i_4, .int i_5, .int i_6, .int i_7, .int i_8, .int i_9, .ref a_14, .ref a_15, .ref a_16, .ref a_17, .ref a_18, .ref a_19, .ref a_20, .ref a_21, .ref a_22, .ref a_23])), (a_14, .inl (cy 1, 9, .inl f_0)), (a_15, .inl (cy 1, 9, .inl f_1)), (a_18, .inl (cy 1, 6, .inl f_2)), (a_19, .inl (cy 1, 48, .inl f_3)), (a_20, .inl (cy 1, 30, .inl f_4)), (a_13, .inl (cy 5, 3, .inr (.inr (.inr (.inr (va_up (va_up (va_up (fun _ => none) 0 (some a_24)) 1 (some a_25)) 2 (some a_26))))))), (a_24, .inr (1, [.ref a_27, .ref a_28, .int i_10, .int i_11, .int i_12])), (a_27, .inl (cy 1, 2100, .inl f_5)), (a_25, .inr (1, [.ref a_29, .ref a_30, .int i_13, .int i_14, .int i_15])), (a_29, .inl (cy 1, 2100, .inl f_6)), (a_26, .inr (1, [.ref a_31, .ref a_32, .int i_16, .int i_17, .int i_18])), (a_31, .inl (cy 1, 2100, .inl f_7)), (a_6, .inl (cy 6, 4, .inr (.inr (.inr (.inr (va_up (va_up (va_up (va_up (fun _ => none) 0 (some a_33)) 1 (some a_34)) 2 (some a_35)) 3 (some a_36))))))), (a_33, .inr (6, [.int i_19, .int i_20, .int i_21, .ref a_37])), (a_37, .inl (cy 2, 60, .inr (.inl f_8))), (a_34, .inr (6, [.int i_22, .int i_23, .int i_24, .ref a_38])), (a_38, .inl (cy 2, 60, .inr (.inl f_9))), (a_35, .inr (6, [.int i_25, .int i_26, .int i_27, .ref a_39])), (a_39, .inl (cy 2, 60, .inr (.inl f_10))), (a_36, .inr (6, [.int i_28, .int i_29, .int i_30, .ref a_40])), (a_40, .inl (cy 2, 60, .inr (.inl f_11))), (a_8, .inr (3, [.ref a_3, .ref a_7, .ref a_41, .int u.1])), (a_41, .inl (cy 1, 210, .inl u.2))]) [1, 2, 3, 4, 5, 6, 7, 8, 9, 10, 11, 12, 13, 14, 22, 23, 24, 25] [0, 15, 16, 17, 18, 19, 20, 21] (n := 26) (fun _ => rfl) (by decide +kernel) (by decide +kernel) rfl (fun _ => rfl) (wr := [(a_0, .inr (11, [.ref a_1, .ref a_2, .ref a_3, .ref a_4, .ref a_5, .ref a_6, .ref a_7, .ref a_8, .ref a_9, .ref a_10, .ref a_11])), (a_6, .inl (cy 6, 4, .inr (.inr (.inr (.inr (va_up (va_up (va_up (va_up (fun _ => none) 0 (some a_33)) 1 (some a_34)) 2 (some a_35)) 3 (some a_36))))))), (a_33, .inr (6, [.int i_19, .int i_20, .int i_21, .ref a_37])), (a_37, .inl (cy 2, 60, .inr (.inl f_8))), (a_34, .inr (6, [.int i_22, .int i_23, .int i_24, .ref a_38])), (a_38, .inl (cy 2, 60, .inr (.inl f_9))), (a_35, .inr (6, [.int i_25, .int i_26, .int i_27, .ref a_39])), (a_39, .inl (cy 2, 60, .inr (.inl f_10)))]) rfl (fun _ => rfl) (fun _ => rfl) ?_
      clear hP hD hS
      clear H locs
      intro v50 u
      obtain ⟨n48, n49⟩ := u
      intro H locs hw (hP : va_P G vwCl [(a_0, .inr (11, [.ref a_1, .ref a_2, .ref a_3, .ref a_4, .ref a_5, .ref a_6, .ref a_7, .ref a_8, .ref a_9, .ref a_10, .ref a_11])), (a_3, .inr (10, [.ref a_12, .ref a_13])), (a_12, .inr (0, [.int i_2, .int i_3, .int i_4, .int i_5, .int i_6, .int i_7, .int i_8, .int i_9, .ref a_14, .ref a_15, .ref a_16, .ref a_17, .ref a_18, .ref a_19, .ref a_20, .ref a_21, .ref a_22, .ref a_23])), (a_14, .inl (cy 1, 9, .inl f_0)), (a_15, .inl (cy 1, 9, .inl f_1)), (a_18, .inl (cy 1, 6, .inl f_2)), (a_19, .inl (cy 1, 48, .inl f_3)), (a_20, .inl (cy 1, 30, .inl f_4)), (a_13, .inl (cy 5, 3, .inr (.inr (.inr (.inr (va_up (va_up (va_up (fun _ => none) 0 (some a_24)) 1 (some a_25)) 2 (some a_26))))))), (a_24, .inr (1, [.ref a_27, .ref a_28, .int i_10, .int i_11, .int i_12])), (a_27, .inl (cy 1, 2100, .inl f_5)), (a_25, .inr (1, [.ref a_29, .ref a_30, .int i_13, .int i_14, .int i_15])), (a_29, .inl (cy 1, 2100, .inl f_6)), (a_26, .inr (1, [.ref a_31, .ref a_32, .int i_16, .int i_17, .int i_18])), (a_31, .inl (cy 1, 2100, .inl f_7)), (a_6, .inl (cy 6, 4, .inr (.inr (.inr (.inr (va_up (va_up (va_up (va_up (fun _ => none) 0 (some a_33)) 1 (some a_34)) 2 (some a_35)) 3 (some a_36))))))), (a_33, .inr (6, [.int i_19, .int i_20, .int i_21, .ref a_37])), (a_37, .inl (cy 2, 60, .inr (.inl f_8))), (a_34, .inr (6, [.int i_22, .int i_23, .int i_24, .ref a_38])), (a_38, .inl (cy 2, 60, .inr (.inl f_9))), (a_35, .inr (6, [.int i_25, .int i_26, .int i_27, .ref a_39])), (a_39, .inl (cy 2, 60, .inr (.inl f_10))), (a_36, .inr (6, [.int i_28, .int i_29, .int i_30, .ref a_40])), (a_40, .inl (cy 2, 60, .inr (.inl f_11))), (a_8, .inr (3, [.ref a_3, .ref a_7, .ref a_41, .int n48])), (a_41, .inl (cy 1, 210, .inl n49))] H) (hD : va_D A [(a_0, .inr (11, [.ref a_1, .ref a_2, .ref a_3, .ref a_4, .ref a_5, .ref a_6, .ref a_7, .ref a_8, .ref a_9, .ref a_10, .ref a_11])), (a_3, .inr (10, [.ref a_12, .ref a_13])), (a_12, .inr (0, [.int i_2, .int i_3, .int i_4, .int i_5, .int i_6, .int i_7, .int i_8, .int i_9, .ref a_14, .ref a_15, .ref a_16, .ref a_17, .ref a_18, .ref a_19, .ref a_20, .ref a_21, .ref a_22, .ref a_23])), (a_14, .inl (cy 1, 9, .inl f_0)), (a_15, .inl (cy 1, 9, .inl f_1)), (a_18, .inl (cy 1, 6, .inl f_2)), (a_19, .inl (cy 1, 48, .inl f_3)), (a_20, .inl (cy 1, 30, .inl f_4)), (a_13, .inl (cy 5, 3, .inr (.inr (.inr (.inr (va_up (va_up (va_up (fun _ => none) 0 (some a_24)) 1 (some a_25)) 2 (some a_26))))))), (a_24, .inr (1, [.ref a_27, .ref a_28, .int i_10, .int i_11, .int i_12])), (a_27, .inl (cy 1, 2100, .inl f_5)), (a_25, .inr (1, [.ref a_29, .ref a_30, .int i_13, .int i_14, .int i_15])), (a_29, .inl (cy 1, 2100, .inl f_6)), (a_26, .inr (1, [.ref a_31, .ref a_32, .int i_16, .int i_17, .int i_18])), (a_31, .inl (cy 1, 2100, .inl f_7)), (a_6, .inl (cy 6, 4, .inr (.inr (.inr (.inr (va_up (va_up (va_up (va_up (fun _ => none) 0 (some a_33)) 1 (some a_34)) 2 (some a_35)) 3 (some a_36))))))), (a_33, .inr (6, [.int i_19, .int i_20, .int i_21, .ref a_37])), (a_37, .inl (cy 2, 60, .inr (.inl f_8))), (a_34, .inr (6, [.int i_22, .int i_23, .int i_24, .ref a_38])), (a_38, .inl (cy 2, 60, .inr (.inl f_9))), (a_35, .inr (6, [.int i_25, .int i_26, .int i_27, .ref a_39])), (a_39, .inl (cy 2, 60, .inr (.inl f_10))), (a_36, .inr (6, [.int i_28, .int i_29, .int i_30, .ref a_40])), (a_40, .inl (cy 2, 60, .inr (.inl f_11))), (a_8, .inr (3, [.ref a_3, .ref a_7, .ref a_41, .int n48])), (a_41, .inl (cy 1, 210, .inl n49))]) hS
      obtain ⟨w51, w52, hw⟩ := hw
      have w53 := hw
      subst hAe
      rw [hQ]
      exact W.iret (v := v50) hx hb hr (fun t ht hW => ⟨⟨v50, (n48, n49), rfl, ⟨w51, w52, (mm_wk w53 (by decide))⟩, by rw [ht]; exact hP, hK.warm hW, hD⟩, hS.F ht⟩) hS.2.2 dX11_torn_30
    · have q54 := mm_neL (lo := 1) (mm_ne c47) mm_k0 mm_k0 (by decide) (by decide)
      exact mm_no q54 (by decide)

set_option maxHeartbeats 4000000 in
set_option maxRecDepth 100000 in
theorem K445_X11_letterTrouble (l : Launch) (G : va_G) (cy : Nat → ClassId) (sz : Nat) (a_0 : Nat) (i_0 : Int32) (i_1 : Int32) (i_2 : Int32) (a_1 : Nat) (a_2 : Nat) (a_3 : Nat) (a_4 : Nat) (a_5 : Nat) (a_6 : Nat) (a_7 : Nat) (a_8 : Nat) (a_9 : Nat) (a_10 : Nat) (a_11 : Nat) (a_12 : Nat) (a_13 : Nat) (i_3 : Int32) (i_4 : Int32) (i_5 : Int32) (i_6 : Int32) (i_7 : Int32) (i_8 : Int32) (i_9 : Int32) (i_10 : Int32) (a_14 : Nat) (a_15 : Nat) (a_16 : Nat) (a_17 : Nat) (a_18 : Nat) (a_19 : Nat) (a_20 : Nat) (a_21 : Nat) (a_22 : Nat) (a_23 : Nat) (a_24 : Nat) (a_25 : Nat) (a_26 : Nat) (a_27 : Nat) (i_11 : Int32) (i_12 : Int32) (i_13 : Int32) (a_28 : Nat) (f_0 : Nat → Int64) (i_14 : Int32) (i_15 : Int32) (i_16 : Int32) (a_29 : Nat) (f_1 : Nat → Int64) (i_17 : Int32) (i_18 : Int32) (i_19 : Int32) (a_30 : Nat) (f_2 : Nat → Int64) (i_20 : Int32) (i_21 : Int32) (i_22 : Int32) (a_31 : Nat) (f_3 : Nat → Int64) (a_32 : Nat) (i_23 : Int32) (h0 : mm_rg i_8 0 3) (h1 : mm_rg i_9 0 6) (h2 : mm_rg i_11 0 1) (h3 : mm_rg i_13 0 60) (h4 : mm_rg i_14 0 1) (h5 : mm_rg i_16 0 60) (h6 : mm_rg i_17 0 1) (h7 : mm_rg i_19 0 60) (h8 : mm_rg i_20 0 1) (h9 : mm_rg i_22 0 60)  : mm_CI l yX11_letterTrouble (mm_ws yX11_letterTrouble cX11_letterTrouble 4 (some .int)) ({ frames := 2, cells := 0, slots := 0, locals := 47 } : Room) G cy sz [(a_0, .inr (11, [.ref a_1, .ref a_2, .ref a_3, .ref a_4, .ref a_5, .ref a_6, .ref a_7, .ref a_8, .ref a_9, .ref a_10, .ref a_11])), (a_3, .inr (10, [.ref a_12, .ref a_13])), (a_12, .inr (0, [.int i_3, .int i_4, .int i_5, .int i_6, .int i_7, .int i_8, .int i_9, .int i_10, .ref a_14, .ref a_15, .ref a_16, .ref a_17, .ref a_18, .ref a_19, .ref a_20, .ref a_21, .ref a_22, .ref a_23])), (a_6, .inl (cy 6, 4, .inr (.inr (.inr (.inr (va_up (va_up (va_up (va_up (fun _ => none) 0 (some a_24)) 1 (some a_25)) 2 (some a_26)) 3 (some a_27))))))), (a_24, .inr (6, [.int i_11, .int i_12, .int i_13, .ref a_28])), (a_28, .inl (cy 2, 60, .inr (.inl f_0))), (a_25, .inr (6, [.int i_14, .int i_15, .int i_16, .ref a_29])), (a_29, .inl (cy 2, 60, .inr (.inl f_1))), (a_26, .inr (6, [.int i_17, .int i_18, .int i_19, .ref a_30])), (a_30, .inl (cy 2, 60, .inr (.inl f_2))), (a_27, .inr (6, [.int i_20, .int i_21, .int i_22, .ref a_31])), (a_31, .inl (cy 2, 60, .inr (.inl f_3))), (a_8, .inr (3, [.ref a_3, .ref a_7, .ref a_32, .int i_23]))] [.ref a_0, .int i_0, .int i_1, .int i_2] (fun u : Unit => [(a_0, .inr (11, [.ref a_1, .ref a_2, .ref a_3, .ref a_4, .ref a_5, .ref a_6, .ref a_7, .ref a_8, .ref a_9, .ref a_10, .ref a_11])), (a_3, .inr (10, [.ref a_12, .ref a_13])), (a_12, .inr (0, [.int i_3, .int i_4, .int i_5, .int i_6, .int i_7, .int i_8, .int i_9, .int i_10, .ref a_14, .ref a_15, .ref a_16, .ref a_17, .ref a_18, .ref a_19, .ref a_20, .ref a_21, .ref a_22, .ref a_23])), (a_6, .inl (cy 6, 4, .inr (.inr (.inr (.inr (va_up (va_up (va_up (va_up (fun _ => none) 0 (some a_24)) 1 (some a_25)) 2 (some a_26)) 3 (some a_27))))))), (a_24, .inr (6, [.int i_11, .int i_12, .int i_13, .ref a_28])), (a_28, .inl (cy 2, 60, .inr (.inl f_0))), (a_25, .inr (6, [.int i_14, .int i_15, .int i_16, .ref a_29])), (a_29, .inl (cy 2, 60, .inr (.inl f_1))), (a_26, .inr (6, [.int i_17, .int i_18, .int i_19, .ref a_30])), (a_30, .inl (cy 2, 60, .inr (.inl f_2))), (a_27, .inr (6, [.int i_20, .int i_21, .int i_22, .ref a_31])), (a_31, .inl (cy 2, 60, .inr (.inl f_3))), (a_8, .inr (3, [.ref a_3, .ref a_7, .ref a_32, .int i_23]))]) (fun (r : Int32) (u : Unit) => (((-2) = r) ∨ ((-6) = r ∧ mm_rg i_0 0 3 ∧ mm_rg i_1 0 2 ∧ mm_rg i_2 0 1000000000) ∨ (0 = r ∧ mm_rg i_0 0 0 ∧ mm_rg i_1 0 2 ∧ mm_rg i_2 0 1000000000 ∧ mm_told f_0 i_13 i_9) ∨ (0 = r ∧ mm_rg i_0 1 1 ∧ mm_rg i_1 0 2 ∧ mm_rg i_2 0 1000000000 ∧ mm_told f_1 i_16 i_9) ∨ (0 = r ∧ mm_rg i_0 2 2 ∧ mm_rg i_1 0 2 ∧ mm_rg i_2 0 1000000000 ∧ mm_told f_2 i_19 i_9) ∨ (0 = r ∧ mm_rg i_0 3 3 ∧ mm_rg i_1 0 2 ∧ mm_rg i_2 0 1000000000 ∧ mm_told f_3 i_22 i_9))) 0 0 := by
  refine mm_begin (lv := [(0, .ref a_0), (1, .int i_0), (2, .int i_1), (3, .int i_2)]) (by decide) (Nat.le_of_ble_eq_true rfl) rfl ?_
  intro p e s m below meth c A ls R args Q H locs hRe hQ hAe hx hb hr hlocks hml hown hnm hts hsz hA hS hP hK hD hZ hl
  have hRf : R.frames = 2 := by rw [hRe]
  have hRl : R.locals = 47 := by rw [hRe]
  have hRc : R.cells = 0 := by rw [hRe]
  have hRs : R.slots = 0 := by rw [hRe]
  refine lv_iload_n hx hb dX11_letterTrouble_0 rfl (lv_at hl 1 rfl) ?_
  refine mm_finir (va_runS (As := [.int i_0]) (rest := []) ⟨hx, hb, hml, hown, hts⟩ (K437_X11_isSlot l G cy H.size i_0 ) (va_cwS 1 hts (mm_gS mm_w1232 mm_w1233 mm_w2 mm_w1234) rfl rfl rfl hs_X11_isSlot ⟨by rw [hRf]; exact Nat.le_of_ble_eq_true rfl, by rw [hRl]; exact Nat.le_of_ble_eq_true rfl⟩) (mm_preS hK hZ hS hA hP hD [] rfl rfl) rfl rfl hl.1 rfl (lv_room (Nat.le_of_ble_eq_true rfl)) dX11_letterTrouble_1 ⟨by rw [hRc]; exact Nat.le_of_ble_eq_true rfl, by rw [hRs]; exact Nat.le_of_ble_eq_true rfl⟩) hP hD hS hA [] rfl (fun _ => rfl) ?_
  clear hP hD hS
  clear H locs
  intro v1 _u H locs hw hP hD hS
  rcases hw with ⟨rfl, w2⟩ | ⟨rfl, w3⟩
  · refine lv_if_eq (tgt := 22) hx hb dX11_letterTrouble_4 (by decide) (fun c4 => ?_) (fun c4 => ?_)
    · refine lv_bipush (v := (-2)) hx hb dX11_letterTrouble_22 (by decide) ?_
      subst hAe
      rw [hQ]
      exact W.iret (v := (-2)) hx hb hr (fun t ht hW => ⟨⟨(-2), (), rfl, (Or.inl rfl), by rw [ht]; exact hP, hK.warm hW, hD⟩, hS.F ht⟩) hS.2.2 dX11_letterTrouble_24
    · have q5 := mm_neL (lo := 1) (mm_ne c4) mm_k0 mm_k0 (by decide) (by decide)
      exact mm_no q5 (by decide)
  · refine lv_if_eq (tgt := 22) hx hb dX11_letterTrouble_4 (by decide) (fun c6 => ?_) (fun c6 => ?_)
    · exact mm_eqN c6.symm mm_k0 mm_k1 (by decide)
    · refine lv_aload_n hx hb dX11_letterTrouble_7 rfl (lv_at hl 0 rfl) ?_
      refine lv_iload_n hx hb dX11_letterTrouble_8 rfl (lv_at hl 2 rfl) ?_
      refine mm_finir (va_runV (As := [.int i_1]) (rest := []) ⟨hx, hb, hml, hown, hts⟩ (K350_X11_isLand l G cy H.size a_0 i_1 a_1 a_2 a_3 a_4 a_5 a_6 a_7 a_8 a_9 a_10 a_11 a_12 a_13 i_3 i_4 i_5 i_6 i_7 i_8 i_9 i_10 a_14 a_15 a_16 a_17 a_18 a_19 a_20 a_21 a_22 a_23 h0) (cwV 1 hts (mm_gV mm_w626 mm_w627 mm_w628 mm_w2 mm_w629) rfl rfl rfl hd_X11_isLand ⟨by rw [hRf]; exact Nat.le_of_ble_eq_true rfl, by rw [hRl]; exact Nat.le_of_ble_eq_true rfl⟩) (mm_preV hK hZ hS hA hP hD [0, 1, 2] rfl rfl 0 rfl rfl rfl) rfl rfl hl.1 rfl (lv_room (Nat.le_of_ble_eq_true rfl)) dX11_letterTrouble_9 ⟨by rw [hRc]; exact Nat.le_of_ble_eq_true rfl, by rw [hRs]; exact Nat.le_of_ble_eq_true rfl⟩) hP hD hS hA [0, 1, 2] rfl (fun _ => rfl) ?_
      clear hP hD hS
      clear H locs
      intro v7 _u H locs hw hP hD hS
      rcases hw with ⟨rfl, w8⟩ | ⟨rfl, w9⟩
      · refine lv_if_eq (tgt := 22) hx hb dX11_letterTrouble_12 (by decide) (fun c10 => ?_) (fun c10 => ?_)
        · refine lv_bipush (v := (-2)) hx hb dX11_letterTrouble_22 (by decide) ?_
          subst hAe
          rw [hQ]
          exact W.iret (v := (-2)) hx hb hr (fun t ht hW => ⟨⟨(-2), (), rfl, (Or.inl rfl), by rw [ht]; exact hP, hK.warm hW, hD⟩, hS.F ht⟩) hS.2.2 dX11_letterTrouble_24
        · have q11 := mm_neL (lo := 1) (mm_ne c10) mm_k0 mm_k0 (by decide) (by decide)
          exact mm_no q11 (by decide)
      · refine lv_if_eq (tgt := 22) hx hb dX11_letterTrouble_12 (by decide) (fun c12 => ?_) (fun c12 => ?_)
        · exact mm_eqN c12.symm mm_k0 mm_k1 (by decide)
        · refine lv_iload_n hx hb dX11_letterTrouble_15 rfl (lv_at hl 3 rfl) ?_
          refine mm_finir (va_runS (As := [.int i_2]) (rest := []) ⟨hx, hb, hml, hown, hts⟩ (K353_X11_isDay l G cy H.size i_2 ) (va_cwS 1 hts (mm_gS mm_w661 mm_w662 mm_w2 mm_w663) rfl rfl rfl hs_X11_isDay ⟨by rw [hRf]; exact Nat.le_of_ble_eq_true rfl, by rw [hRl]; exact Nat.le_of_ble_eq_true rfl⟩) (mm_preS hK hZ hS hA hP hD [] rfl rfl) rfl rfl hl.1 rfl (lv_room (Nat.le_of_ble_eq_true rfl)) dX11_letterTrouble_16 ⟨by rw [hRc]; exact Nat.le_of_ble_eq_true rfl, by rw [hRs]; exact Nat.le_of_ble_eq_true rfl⟩) hP hD hS hA [] rfl (fun _ => rfl) ?_
          clear hP hD hS
          clear H locs
          intro v13 _u H locs hw hP hD hS
          rcases hw with ⟨rfl, w14⟩ | ⟨rfl, w15⟩
          · refine lv_if_ne (tgt := 25) hx hb dX11_letterTrouble_19 (by decide) (fun c16 => ?_) (fun c16 => ?_)
            · have q17 := mm_neL (lo := 1) (mm_ne c16) mm_k0 mm_k0 (by decide) (by decide)
              exact mm_no q17 (by decide)
            · refine lv_bipush (v := (-2)) hx hb dX11_letterTrouble_22 (by decide) ?_
              subst hAe
              rw [hQ]
              exact W.iret (v := (-2)) hx hb hr (fun t ht hW => ⟨⟨(-2), (), rfl, (Or.inl rfl), by rw [ht]; exact hP, hK.warm hW, hD⟩, hS.F ht⟩) hS.2.2 dX11_letterTrouble_24
          · refine lv_if_ne (tgt := 25) hx hb dX11_letterTrouble_19 (by decide) (fun c18 => ?_) (fun c18 => ?_)
            · refine lv_aload_n hx hb dX11_letterTrouble_25 rfl (lv_at hl 0 rfl) ?_
              refine lv_aload_n hx hb dX11_letterTrouble_26 rfl (lv_at hl 0 rfl) ?_
              refine va_get (D := G) (ci := 11) (v := .ref a_6) (C := RX11) (T := TX11) (N := 11) hx hb hts (mm_i inlX11) hown hK.1 hP 0 rfl rfl 5 (by decide) (mm_h hts mm_w32) (fun _ h9 => h9) rfl dX11_letterTrouble_27 ?_
              refine lv_iload_n hx hb dX11_letterTrouble_30 rfl (lv_at hl 1 rfl) ?_
              refine va_aldq hx hb hK.1 hP 3 6 rfl rfl (mm_in w3 (by decide)) dX11_letterTrouble_31 ?_
              have c19 := mm_cases4 w3
              rcases c19 with rfl | rfl | rfl | rfl
              · refine W.eq (g2 := F0 m 32 ls [.ref a_24, .ref a_0]) rfl ?_
                refine mm_finir (va_runV (As := [.ref a_24]) (rest := []) ⟨hx, hb, hml, hown, hts⟩ (K440_X11_rowTrouble l G cy H.size a_0 a_24 a_1 a_2 a_3 a_4 a_5 a_6 a_7 a_8 a_9 a_10 a_11 a_12 a_13 i_3 i_4 i_5 i_6 i_7 i_8 i_9 i_10 a_14 a_15 a_16 a_17 a_18 a_19 a_20 a_21 a_22 a_23 i_11 i_12 i_13 a_28 f_0 a_32 i_23 h1 h2 h3) (cwV 1 hts (mm_gV mm_w1235 mm_w1236 mm_w1237 mm_w2 mm_w1238) rfl rfl rfl hd_X11_rowTrouble ⟨by rw [hRf]; exact Nat.le_of_ble_eq_true rfl, by rw [hRl]; exact Nat.le_of_ble_eq_true rfl⟩) (mm_preV hK hZ hS hA hP hD [0, 1, 2, 4, 5, 12] rfl rfl 0 rfl rfl rfl) rfl rfl hl.1 rfl (lv_room (Nat.le_of_ble_eq_true rfl)) dX11_letterTrouble_32 ⟨by rw [hRc]; exact Nat.le_of_ble_eq_true rfl, by rw [hRs]; exact Nat.le_of_ble_eq_true rfl⟩) hP hD hS hA [0, 1, 2, 4, 5, 12] rfl (fun _ => rfl) ?_
                clear hP hD hS
                clear H locs
                intro v20 _u H locs hw hP hD hS
                rcases hw with rfl | rfl | ⟨rfl, w21⟩
                · subst hAe
                  rw [hQ]
                  exact W.iret (v := (-2)) hx hb hr (fun t ht hW => ⟨⟨(-2), (), rfl, (Or.inl rfl), by rw [ht]; exact hP, hK.warm hW, hD⟩, hS.F ht⟩) hS.2.2 dX11_letterTrouble_35
                · subst hAe
                  rw [hQ]
                  exact W.iret (v := (-6)) hx hb hr (fun t ht hW => ⟨⟨(-6), (), rfl, (Or.inr (Or.inl ⟨rfl, (mm_wk mm_k0 (by decide)), w9, w15⟩)), by rw [ht]; exact hP, hK.warm hW, hD⟩, hS.F ht⟩) hS.2.2 dX11_letterTrouble_35
                · subst hAe
                  rw [hQ]
                  exact W.iret (v := 0) hx hb hr (fun t ht hW => ⟨⟨0, (), rfl, (Or.inr (Or.inr (Or.inl ⟨rfl, mm_k0, w9, w15, w21⟩))), by rw [ht]; exact hP, hK.warm hW, hD⟩, hS.F ht⟩) hS.2.2 dX11_letterTrouble_35
              · refine W.eq (g2 := F0 m 32 ls [.ref a_25, .ref a_0]) rfl ?_
                refine mm_finir (va_runV (As := [.ref a_25]) (rest := []) ⟨hx, hb, hml, hown, hts⟩ (K440_X11_rowTrouble l G cy H.size a_0 a_25 a_1 a_2 a_3 a_4 a_5 a_6 a_7 a_8 a_9 a_10 a_11 a_12 a_13 i_3 i_4 i_5 i_6 i_7 i_8 i_9 i_10 a_14 a_15 a_16 a_17 a_18 a_19 a_20 a_21 a_22 a_23 i_14 i_15 i_16 a_29 f_1 a_32 i_23 h1 h4 h5) (cwV 1 hts (mm_gV mm_w1235 mm_w1236 mm_w1237 mm_w2 mm_w1238) rfl rfl rfl hd_X11_rowTrouble ⟨by rw [hRf]; exact Nat.le_of_ble_eq_true rfl, by rw [hRl]; exact Nat.le_of_ble_eq_true rfl⟩) (mm_preV hK hZ hS hA hP hD [0, 1, 2, 6, 7, 12] rfl rfl 0 rfl rfl rfl) rfl rfl hl.1 rfl (lv_room (Nat.le_of_ble_eq_true rfl)) dX11_letterTrouble_32 ⟨by rw [hRc]; exact Nat.le_of_ble_eq_true rfl, by rw [hRs]; exact Nat.le_of_ble_eq_true rfl⟩) hP hD hS hA [0, 1, 2, 6, 7, 12] rfl (fun _ => rfl) ?_
                clear hP hD hS
                clear H locs
                intro v22 _u H locs hw hP hD hS
                rcases hw with rfl | rfl | ⟨rfl, w23⟩
                · subst hAe
                  rw [hQ]
                  exact W.iret (v := (-2)) hx hb hr (fun t ht hW => ⟨⟨(-2), (), rfl, (Or.inl rfl), by rw [ht]; exact hP, hK.warm hW, hD⟩, hS.F ht⟩) hS.2.2 dX11_letterTrouble_35
                · subst hAe
                  rw [hQ]
                  exact W.iret (v := (-6)) hx hb hr (fun t ht hW => ⟨⟨(-6), (), rfl, (Or.inr (Or.inl ⟨rfl, (mm_wk mm_k1 (by decide)), w9, w15⟩)), by rw [ht]; exact hP, hK.warm hW, hD⟩, hS.F ht⟩) hS.2.2 dX11_letterTrouble_35
                · subst hAe
                  rw [hQ]
                  exact W.iret (v := 0) hx hb hr (fun t ht hW => ⟨⟨0, (), rfl, (Or.inr (Or.inr (Or.inr (Or.inl ⟨rfl, mm_k1, w9, w15, w23⟩)))), by rw [ht]; exact hP, hK.warm hW, hD⟩, hS.F ht⟩) hS.2.2 dX11_letterTrouble_35
              · refine W.eq (g2 := F0 m 32 ls [.ref a_26, .ref a_0]) rfl ?_
                refine mm_finir (va_runV (As := [.ref a_26]) (rest := []) ⟨hx, hb, hml, hown, hts⟩ (K440_X11_rowTrouble l G cy H.size a_0 a_26 a_1 a_2 a_3 a_4 a_5 a_6 a_7 a_8 a_9 a_10 a_11 a_12 a_13 i_3 i_4 i_5 i_6 i_7 i_8 i_9 i_10 a_14 a_15 a_16 a_17 a_18 a_19 a_20 a_21 a_22 a_23 i_17 i_18 i_19 a_30 f_2 a_32 i_23 h1 h6 h7) (cwV 1 hts (mm_gV mm_w1235 mm_w1236 mm_w1237 mm_w2 mm_w1238) rfl rfl rfl hd_X11_rowTrouble ⟨by rw [hRf]; exact Nat.le_of_ble_eq_true rfl, by rw [hRl]; exact Nat.le_of_ble_eq_true rfl⟩) (mm_preV hK hZ hS hA hP hD [0, 1, 2, 8, 9, 12] rfl rfl 0 rfl rfl rfl) rfl rfl hl.1 rfl (lv_room (Nat.le_of_ble_eq_true rfl)) dX11_letterTrouble_32 ⟨by rw [hRc]; exact Nat.le_of_ble_eq_true rfl, by rw [hRs]; exact Nat.le_of_ble_eq_true rfl⟩) hP hD hS hA [0, 1, 2, 8, 9, 12] rfl (fun _ => rfl) ?_
                clear hP hD hS
                clear H locs
                intro v24 _u H locs hw hP hD hS
                rcases hw with rfl | rfl | ⟨rfl, w25⟩
                · subst hAe
                  rw [hQ]
                  exact W.iret (v := (-2)) hx hb hr (fun t ht hW => ⟨⟨(-2), (), rfl, (Or.inl rfl), by rw [ht]; exact hP, hK.warm hW, hD⟩, hS.F ht⟩) hS.2.2 dX11_letterTrouble_35
                · subst hAe
                  rw [hQ]
                  exact W.iret (v := (-6)) hx hb hr (fun t ht hW => ⟨⟨(-6), (), rfl, (Or.inr (Or.inl ⟨rfl, (mm_wk mm_k2 (by decide)), w9, w15⟩)), by rw [ht]; exact hP, hK.warm hW, hD⟩, hS.F ht⟩) hS.2.2 dX11_letterTrouble_35
                · subst hAe
                  rw [hQ]
                  exact W.iret (v := 0) hx hb hr (fun t ht hW => ⟨⟨0, (), rfl, (Or.inr (Or.inr (Or.inr (Or.inr (Or.inl ⟨rfl, mm_k2, w9, w15, w25⟩))))), by rw [ht]; exact hP, hK.warm hW, hD⟩, hS.F ht⟩) hS.2.2 dX11_letterTrouble_35
              · refine W.eq (g2 := F0 m 32 ls [.ref a_27, .ref a_0]) rfl ?_
                refine mm_finir (va_runV (As := [.ref a_27]) (rest := []) ⟨hx, hb, hml, hown, hts⟩ (K440_X11_rowTrouble l G cy H.size a_0 a_27 a_1 a_2 a_3 a_4 a_5 a_6 a_7 a_8 a_9 a_10 a_11 a_12 a_13 i_3 i_4 i_5 i_6 i_7 i_8 i_9 i_10 a_14 a_15 a_16 a_17 a_18 a_19 a_20 a_21 a_22 a_23 i_20 i_21 i_22 a_31 f_3 a_32 i_23 h1 h8 h9) (cwV 1 hts (mm_gV mm_w1235 mm_w1236 mm_w1237 mm_w2 mm_w1238) rfl rfl rfl hd_X11_rowTrouble ⟨by rw [hRf]; exact Nat.le_of_ble_eq_true rfl, by rw [hRl]; exact Nat.le_of_ble_eq_true rfl⟩) (mm_preV hK hZ hS hA hP hD [0, 1, 2, 10, 11, 12] rfl rfl 0 rfl rfl rfl) rfl rfl hl.1 rfl (lv_room (Nat.le_of_ble_eq_true rfl)) dX11_letterTrouble_32 ⟨by rw [hRc]; exact Nat.le_of_ble_eq_true rfl, by rw [hRs]; exact Nat.le_of_ble_eq_true rfl⟩) hP hD hS hA [0, 1, 2, 10, 11, 12] rfl (fun _ => rfl) ?_
                clear hP hD hS
                clear H locs
                intro v26 _u H locs hw hP hD hS
                rcases hw with rfl | rfl | ⟨rfl, w27⟩
                · subst hAe
                  rw [hQ]
                  exact W.iret (v := (-2)) hx hb hr (fun t ht hW => ⟨⟨(-2), (), rfl, (Or.inl rfl), by rw [ht]; exact hP, hK.warm hW, hD⟩, hS.F ht⟩) hS.2.2 dX11_letterTrouble_35
                · subst hAe
                  rw [hQ]
                  exact W.iret (v := (-6)) hx hb hr (fun t ht hW => ⟨⟨(-6), (), rfl, (Or.inr (Or.inl ⟨rfl, (mm_wk mm_k3 (by decide)), w9, w15⟩)), by rw [ht]; exact hP, hK.warm hW, hD⟩, hS.F ht⟩) hS.2.2 dX11_letterTrouble_35
                · subst hAe
                  rw [hQ]
                  exact W.iret (v := 0) hx hb hr (fun t ht hW => ⟨⟨0, (), rfl, (Or.inr (Or.inr (Or.inr (Or.inr (Or.inr ⟨rfl, mm_k3, w9, w15, w27⟩))))), by rw [ht]; exact hP, hK.warm hW, hD⟩, hS.F ht⟩) hS.2.2 dX11_letterTrouble_35
            · exact mm_eqN c18.symm mm_k0 mm_k1 (by decide)

set_option maxHeartbeats 4000000 in
set_option maxRecDepth 100000 in
theorem K446_X3_firstFrom (l : Launch) (G : va_G) (cy : Nat → ClassId) (sz : Nat) (a_0 : Nat) (a_1 : Nat) (i_0 : Int32) (i_1 : Int32) (a_2 : Nat) (a_3 : Nat) (a_4 : Nat) (i_2 : Int32) (i_3 : Int32) (i_4 : Int32) (i_5 : Int32) (i_6 : Int32) (i_7 : Int32) (i_8 : Int32) (i_9 : Int32) (a_5 : Nat) (a_6 : Nat) (a_7 : Nat) (a_8 : Nat) (a_9 : Nat) (a_10 : Nat) (a_11 : Nat) (a_12 : Nat) (a_13 : Nat) (a_14 : Nat) (f_0 : Nat → Int32) (f_1 : Nat → Int32) (f_2 : Nat → Int32) (f_3 : Nat → Int32) (f_4 : Nat → Int32) (a_15 : Nat) (a_16 : Nat) (a_17 : Nat) (a_18 : Nat) (a_19 : Nat) (i_10 : Int32) (i_11 : Int32) (i_12 : Int32) (f_5 : Nat → Int32) (a_20 : Nat) (a_21 : Nat) (i_13 : Int32) (i_14 : Int32) (i_15 : Int32) (f_6 : Nat → Int32) (a_22 : Nat) (a_23 : Nat) (i_16 : Int32) (i_17 : Int32) (i_18 : Int32) (f_7 : Nat → Int32) (i_19 : Int32) (i_20 : Int32) (i_21 : Int32) (a_24 : Nat) (f_8 : Nat → Int64) (a_25 : Nat) (a_26 : Nat) (i_22 : Int32) (h0 : mm_rg i_0 0 2) (h1 : mm_rg i_1 0 1000000001) (h2 : mm_rg i_5 0 99) (h3 : mm_rg i_6 0 9) (h4 : mm_rg i_8 0 6) (h5 : mm_ar f_0 (-1) 4) (h6 : mm_ar f_1 0 99) (h7 : mm_ar f_2 0 8) (h8 : mm_ar f_3 0 9) (h9 : mm_ar f_4 0 9) (h10 : mm_rg i_12 (-2147483648) 210) (h11 : mm_ar f_5 0 9) (h12 : mm_rg i_15 (-2147483648) 210) (h13 : mm_ar f_6 0 9) (h14 : mm_rg i_18 (-2147483648) 210) (h15 : mm_ar f_7 0 9) (h16 : mm_rg i_21 0 60) (h17 : mm_told f_8 i_21 i_8)  : mm_CI l yX3_firstFrom (mm_ws yX3_firstFrom cX3_firstFrom 6 (some .int)) ({ frames := 5, cells := 0, slots := 0, locals := 135 } : Room) G cy sz [(a_2, .inr (10, [.ref a_3, .ref a_4])), (a_3, .inr (0, [.int i_2, .int i_3, .int i_4, .int i_5, .int i_6, .int i_7, .int i_8, .int i_9, .ref a_5, .ref a_6, .ref a_7, .ref a_8, .ref a_9, .ref a_10, .ref a_11, .ref a_12, .ref a_13, .ref a_14])), (a_5, .inl (cy 1, 9, .inl f_0)), (a_6, .inl (cy 1, 9, .inl f_1)), (a_9, .inl (cy 1, 6, .inl f_2)), (a_10, .inl (cy 1, 48, .inl f_3)), (a_11, .inl (cy 1, 30, .inl f_4)), (a_4, .inl (cy 5, 3, .inr (.inr (.inr (.inr (va_up (va_up (va_up (fun _ => none) 0 (some a_15)) 1 (some a_16)) 2 (some a_17))))))), (a_15, .inr (1, [.ref a_18, .ref a_19, .int i_10, .int i_11, .int i_12])), (a_18, .inl (cy 1, 2100, .inl f_5)), (a_16, .inr (1, [.ref a_20, .ref a_21, .int i_13, .int i_14, .int i_15])), (a_20, .inl (cy 1, 2100, .inl f_6)), (a_17, .inr (1, [.ref a_22, .ref a_23, .int i_16, .int i_17, .int i_18])), (a_22, .inl (cy 1, 2100, .inl f_7)), (a_1, .inr (6, [.int i_19, .int i_20, .int i_21, .ref a_24])), (a_24, .inl (cy 2, 60, .inr (.inl f_8))), (a_0, .inr (3, [.ref a_2, .ref a_25, .ref a_26, .int i_22]))] [.ref a_0, .ref a_1, .int i_0, .int i_1] (fun u : Unit => [(a_2, .inr (10, [.ref a_3, .ref a_4])), (a_3, .inr (0, [.int i_2, .int i_3, .int i_4, .int i_5, .int i_6, .int i_7, .int i_8, .int i_9, .ref a_5, .ref a_6, .ref a_7, .ref a_8, .ref a_9, .ref a_10, .ref a_11, .ref a_12, .ref a_13, .ref a_14])), (a_5, .inl (cy 1, 9, .inl f_0)), (a_6, .inl (cy 1, 9, .inl f_1)), (a_9, .inl (cy 1, 6, .inl f_2)), (a_10, .inl (cy 1, 48, .inl f_3)), (a_11, .inl (cy 1, 30, .inl f_4)), (a_4, .inl (cy 5, 3, .inr (.inr (.inr (.inr (va_up (va_up (va_up (fun _ => none) 0 (some a_15)) 1 (some a_16)) 2 (some a_17))))))), (a_15, .inr (1, [.ref a_18, .ref a_19, .int i_10, .int i_11, .int i_12])), (a_18, .inl (cy 1, 2100, .inl f_5)), (a_16, .inr (1, [.ref a_20, .ref a_21, .int i_13, .int i_14, .int i_15])), (a_20, .inl (cy 1, 2100, .inl f_6)), (a_17, .inr (1, [.ref a_22, .ref a_23, .int i_16, .int i_17, .int i_18])), (a_22, .inl (cy 1, 2100, .inl f_7)), (a_1, .inr (6, [.int i_19, .int i_20, .int i_21, .ref a_24])), (a_24, .inl (cy 2, 60, .inr (.inl f_8))), (a_0, .inr (3, [.ref a_2, .ref a_25, .ref a_26, .int i_22]))]) (fun (r : Int32) (u : Unit) => mm_rg r (-1) 1000000210) 0 0 := by
  refine mm_begin (lv := [(0, .ref a_0), (1, .ref a_1), (2, .int i_0), (3, .int i_1)]) (by decide) (Nat.le_of_ble_eq_true rfl) rfl ?_
  intro p e s m below meth c A ls R args Q H locs hRe hQ hAe hx hb hr hlocks hml hown hnm hts hsz hA hS hP hK hD hZ hl
  have hRf : R.frames = 5 := by rw [hRe]
  have hRl : R.locals = 135 := by rw [hRe]
  have hRc : R.cells = 0 := by rw [hRe]
  have hRs : R.slots = 0 := by rw [hRe]
  refine lv_aload_n hx hb dX3_firstFrom_0 rfl (lv_at hl 0 rfl) ?_
  refine va_get (D := G) (ci := 3) (v := .ref a_2) (C := RX3) (T := TX3) (N := 4) hx hb hts (mm_i inlX3) hown hK.1 hP 16 rfl rfl 0 (by decide) (mm_h hts mm_w114) (fun _ h9 => h9) rfl dX3_firstFrom_1 ?_
  refine lv_iload_n hx hb dX3_firstFrom_4 rfl (lv_at hl 2 rfl) ?_
  refine mm_finir (va_runV (As := [.int i_0]) (rest := []) ⟨hx, hb, hml, hown, hts⟩ (K360_X10_period l G cy H.size a_2 i_0 a_3 a_4 a_15 a_16 a_17 a_18 a_19 i_10 i_11 i_12 a_20 a_21 i_13 i_14 i_15 a_22 a_23 i_16 i_17 i_18 h0 h10 h12 h14) (cwV 1 hts (mm_gV mm_w1254 mm_w744 mm_w745 mm_w23 mm_w746) rfl rfl rfl hd_X10_period ⟨by rw [hRf]; exact Nat.le_of_ble_eq_true rfl, by rw [hRl]; exact Nat.le_of_ble_eq_true rfl⟩) (mm_preV hK hZ hS hA hP hD [0, 7, 8, 10, 12] rfl rfl 0 rfl rfl rfl) rfl rfl hl.1 rfl (lv_room (Nat.le_of_ble_eq_true rfl)) dX3_firstFrom_5 ⟨by rw [hRc]; exact Nat.le_of_ble_eq_true rfl, by rw [hRs]; exact Nat.le_of_ble_eq_true rfl⟩) hP hD hS hA [0, 7, 8, 10, 12] rfl (fun _ => rfl) ?_
  clear hP hD hS
  clear H locs
  intro v1 _u H locs hw hP hD hS
  have w2 := hw
  refine lv_istore (lv' := [(4, .int v1), (0, .ref a_0), (1, .ref a_1), (2, .int i_0), (3, .int i_1)]) hx hb dX3_firstFrom_8 hl (by decide) rfl ?_
  clear hl
  clear ls
  intro ls hl
  refine lv_iconst (v := 0) hx hb dX3_firstFrom_10 (by decide) ?_
  refine lv_istore (lv' := [(5, .int 0), (4, .int v1), (0, .ref a_0), (1, .ref a_1), (2, .int i_0), (3, .int i_1)]) hx hb dX3_firstFrom_11 hl (by decide) rfl ?_
  clear hl
  clear ls
  intro ls hl
  have L13_162 : ∀ (n : Nat) (x13_5_162 : Int32), mm_rg x13_5_162 0 210 → (210 - x13_5_162.toInt).toNat < n → ∀ (H : Heap) (locs : List Loc), va_P G vwCl [(a_2, .inr (10, [.ref a_3, .ref a_4])), (a_3, .inr (0, [.int i_2, .int i_3, .int i_4, .int i_5, .int i_6, .int i_7, .int i_8, .int i_9, .ref a_5, .ref a_6, .ref a_7, .ref a_8, .ref a_9, .ref a_10, .ref a_11, .ref a_12, .ref a_13, .ref a_14])), (a_5, .inl (cy 1, 9, .inl f_0)), (a_6, .inl (cy 1, 9, .inl f_1)), (a_9, .inl (cy 1, 6, .inl f_2)), (a_10, .inl (cy 1, 48, .inl f_3)), (a_11, .inl (cy 1, 30, .inl f_4)), (a_4, .inl (cy 5, 3, .inr (.inr (.inr (.inr (va_up (va_up (va_up (fun _ => none) 0 (some a_15)) 1 (some a_16)) 2 (some a_17))))))), (a_15, .inr (1, [.ref a_18, .ref a_19, .int i_10, .int i_11, .int i_12])), (a_18, .inl (cy 1, 2100, .inl f_5)), (a_16, .inr (1, [.ref a_20, .ref a_21, .int i_13, .int i_14, .int i_15])), (a_20, .inl (cy 1, 2100, .inl f_6)), (a_17, .inr (1, [.ref a_22, .ref a_23, .int i_16, .int i_17, .int i_18])), (a_22, .inl (cy 1, 2100, .inl f_7)), (a_1, .inr (6, [.int i_19, .int i_20, .int i_21, .ref a_24])), (a_24, .inl (cy 2, 60, .inr (.inl f_8))), (a_0, .inr (3, [.ref a_2, .ref a_25, .ref a_26, .int i_22]))] H → va_D A [(a_2, .inr (10, [.ref a_3, .ref a_4])), (a_3, .inr (0, [.int i_2, .int i_3, .int i_4, .int i_5, .int i_6, .int i_7, .int i_8, .int i_9, .ref a_5, .ref a_6, .ref a_7, .ref a_8, .ref a_9, .ref a_10, .ref a_11, .ref a_12, .ref a_13, .ref a_14])), (a_5, .inl (cy 1, 9, .inl f_0)), (a_6, .inl (cy 1, 9, .inl f_1)), (a_9, .inl (cy 1, 6, .inl f_2)), (a_10, .inl (cy 1, 48, .inl f_3)), (a_11, .inl (cy 1, 30, .inl f_4)), (a_4, .inl (cy 5, 3, .inr (.inr (.inr (.inr (va_up (va_up (va_up (fun _ => none) 0 (some a_15)) 1 (some a_16)) 2 (some a_17))))))), (a_15, .inr (1, [.ref a_18, .ref a_19, .int i_10, .int i_11, .int i_12])), (a_18, .inl (cy 1, 2100, .inl f_5)), (a_16, .inr (1, [.ref a_20, .ref a_21, .int i_13, .int i_14, .int i_15])), (a_20, .inl (cy 1, 2100, .inl f_6)), (a_17, .inr (1, [.ref a_22, .ref a_23, .int i_16, .int i_17, .int i_18])), (a_22, .inl (cy 1, 2100, .inl f_7)), (a_1, .inr (6, [.int i_19, .int i_20, .int i_21, .ref a_24])), (a_24, .inl (cy 2, 60, .inr (.inl f_8))), (a_0, .inr (3, [.ref a_2, .ref a_25, .ref a_26, .int i_22]))] → va_S A s.heap H locs → ∀ (ls : Array Slot), lv_has ls 6 [(5, .int x13_5_162), (4, .int v1), (0, .ref a_0), (1, .ref a_1), (2, .int i_0), (3, .int i_1)] → W p l e R s m args below meth c H locs 0 0 Q (F0 m 13 ls []) := by
    intro n
    induction n with
    | zero => intro x13_5_162 rx13_5_162 hm; exact absurd hm (Nat.not_lt_zero _)
    | succ n ih13 =>
      intro x13_5_162 rx13_5_162 hm13 H locs hP hD hS ls hl
      refine lv_iload hx hb dX3_firstFrom_13 (lv_at hl 0 rfl) ?_
      refine lv_iload hx hb dX3_firstFrom_15 (lv_at hl 1 rfl) ?_
      refine lv_icmp_ge (tgt := 44) hx hb dX3_firstFrom_17 (by decide) (fun c164 => ?_) (fun c164 => ?_)
      · refine lv_iconst (v := (-1)) hx hb dX3_firstFrom_44 (by decide) ?_
        subst hAe
        rw [hQ]
        exact W.iret (v := (-1)) hx hb hr (fun t ht hW => ⟨⟨(-1), (), rfl, (mm_wk mm_km1 (by decide)), by rw [ht]; exact hP, hK.warm hW, hD⟩, hS.F ht⟩) hS.2.2 dX3_firstFrom_45
      · have q165 := mm_ltL (h := 209) (mm_nle c164) rx13_5_162 w2 (by decide)
        have q166 := mm_ltR (lo := 1) (mm_nle c164) rx13_5_162 w2 (by decide)
        refine lv_aload_n hx hb dX3_firstFrom_20 rfl (lv_at hl 2 rfl) ?_
        refine lv_aload_n hx hb dX3_firstFrom_21 rfl (lv_at hl 3 rfl) ?_
        refine lv_iload_n hx hb dX3_firstFrom_22 rfl (lv_at hl 4 rfl) ?_
        refine lv_iload_n hx hb dX3_firstFrom_23 rfl (lv_at hl 5 rfl) ?_
        refine lv_iload hx hb dX3_firstFrom_24 (lv_at hl 0 rfl) ?_
        refine lv_iadd hx hb dX3_firstFrom_26 ?_
        refine lv_topi (fun v167 ev167 => ?_)
        have rv167 : mm_rg v167 0 1000000210 := mm_add ev167 h1 q165 (by decide) (by decide)
        have tv167 := mm_addE ev167 h1 q165 (by decide)
        refine mm_finir (va_runV (As := [.ref a_1, .int i_0, .int v167]) (rest := []) ⟨hx, hb, hml, hown, hts⟩ (K442_X3_fits l G cy H.size a_0 a_1 i_0 v167 a_2 a_3 a_4 i_2 i_3 i_4 i_5 i_6 i_7 i_8 i_9 a_5 a_6 a_7 a_8 a_9 a_10 a_11 a_12 a_13 a_14 f_0 f_1 f_2 f_3 f_4 a_15 a_16 a_17 a_18 a_19 i_10 i_11 i_12 f_5 a_20 a_21 i_13 i_14 i_15 f_6 a_22 a_23 i_16 i_17 i_18 f_7 i_19 i_20 i_21 a_24 f_8 a_25 a_26 i_22 h0 (mm_wk rv167 (by decide)) h2 h3 h4 h5 h6 h7 h8 h9 h10 h11 h12 h13 h14 h15 h16 h17) (cwV 3 hts (mm_gV mm_w1255 mm_w1256 mm_w1257 mm_w41 mm_w1258) rfl rfl rfl hd_X3_fits ⟨by rw [hRf]; exact Nat.le_of_ble_eq_true rfl, by rw [hRl]; exact Nat.le_of_ble_eq_true rfl⟩) (mm_preV hK hZ hS hA hP hD [0, 1, 2, 3, 4, 5, 6, 7, 8, 9, 10, 11, 12, 13, 14, 15, 16] rfl rfl 16 rfl rfl rfl) rfl rfl hl.1 rfl (lv_room (Nat.le_of_ble_eq_true rfl)) dX3_firstFrom_27 ⟨by rw [hRc]; exact Nat.le_of_ble_eq_true rfl, by rw [hRs]; exact Nat.le_of_ble_eq_true rfl⟩) hP hD hS hA [0, 1, 2, 3, 4, 5, 6, 7, 8, 9, 10, 11, 12, 13, 14, 15, 16] rfl (fun _ => rfl) ?_
        clear hP hD hS
        clear H locs
        intro v168 _u H locs hw hP hD hS
        rcases hw with rfl | rfl
        · refine lv_if_eq (tgt := 38) hx hb dX3_firstFrom_30 (by decide) (fun c169 => ?_) (fun c169 => ?_)
          · obtain ⟨v170, ev170⟩ : ∃ y : Int32, y = x13_5_162 + 1 := ⟨_, rfl⟩
            refine lv_iinc (v := v170) (lv' := [(5, .int v170), (4, .int v1), (0, .ref a_0), (1, .ref a_1), (2, .int i_0), (3, .int i_1)]) hx hb dX3_firstFrom_38 hl (k := 0) rfl (by rw [ev170]; rfl) (by decide) rfl ?_
            clear hl
            clear ls
            intro ls hl
            have rv170 : mm_rg v170 1 210 := mm_add ev170 q165 mm_k1 (by decide) (by decide)
            have tv170 := mm_addEc ev170 q165 mm_k1 (by decide) (k := 1) (by decide)
            refine lv_goto (tgt := 13) hx hb dX3_firstFrom_41 (by decide) ?_
            exact ih13 v170 (mm_wk rv170 (by decide)) (mm_mu hm13 tv170 (by decide) (rv170).2 (by decide)) H locs hP hD hS ls (lv_sub hl [0, 1, 2, 3, 4, 5] rfl)
          · have q171 := mm_neL (lo := 1) (mm_ne c169) mm_k0 mm_k0 (by decide) (by decide)
            exact mm_no q171 (by decide)
        · refine lv_if_eq (tgt := 38) hx hb dX3_firstFrom_30 (by decide) (fun c172 => ?_) (fun c172 => ?_)
          · exact mm_eqN c172.symm mm_k0 mm_k1 (by decide)
          · refine lv_iload_n hx hb dX3_firstFrom_33 rfl (lv_at hl 5 rfl) ?_
            refine lv_iload hx hb dX3_firstFrom_34 (lv_at hl 0 rfl) ?_
            refine lv_iadd hx hb dX3_firstFrom_36 ?_
            refine lv_topi (fun v173 ev173 => ?_)
            have rv173 : mm_rg v173 0 1000000210 := mm_add ev173 h1 q165 (by decide) (by decide)
            have tv173 := mm_addE ev173 h1 q165 (by decide)
            subst hAe
            rw [hQ]
            exact W.iret (v := v173) hx hb hr (fun t ht hW => ⟨⟨v173, (), rfl, (mm_wk rv173 (by decide)), by rw [ht]; exact hP, hK.warm hW, hD⟩, hS.F ht⟩) hS.2.2 dX3_firstFrom_37
  exact L13_162 _ 0 (mm_wk mm_k0 (by decide)) (Nat.lt_succ_self _) H locs hP hD hS ls (lv_sub hl [0, 1, 2, 3, 4, 5] rfl)

set_option maxHeartbeats 4000000 in
set_option maxRecDepth 100000 in
theorem K447_X11_date (l : Launch) (G : va_G) (cy : Nat → ClassId) (sz : Nat) (a_0 : Nat) (i_0 : Int32) (i_1 : Int32) (i_2 : Int32) (a_1 : Nat) (a_2 : Nat) (a_3 : Nat) (a_4 : Nat) (a_5 : Nat) (a_6 : Nat) (a_7 : Nat) (a_8 : Nat) (a_9 : Nat) (a_10 : Nat) (a_11 : Nat) (a_12 : Nat) (a_13 : Nat) (i_3 : Int32) (i_4 : Int32) (i_5 : Int32) (i_6 : Int32) (i_7 : Int32) (i_8 : Int32) (i_9 : Int32) (i_10 : Int32) (a_14 : Nat) (a_15 : Nat) (a_16 : Nat) (a_17 : Nat) (a_18 : Nat) (a_19 : Nat) (a_20 : Nat) (a_21 : Nat) (a_22 : Nat) (a_23 : Nat) (f_0 : Nat → Int32) (f_1 : Nat → Int32) (f_2 : Nat → Int32) (f_3 : Nat → Int32) (f_4 : Nat → Int32) (a_24 : Nat) (a_25 : Nat) (a_26 : Nat) (a_27 : Nat) (a_28 : Nat) (i_11 : Int32) (i_12 : Int32) (i_13 : Int32) (f_5 : Nat → Int32) (a_29 : Nat) (a_30 : Nat) (i_14 : Int32) (i_15 : Int32) (i_16 : Int32) (f_6 : Nat → Int32) (a_31 : Nat) (a_32 : Nat) (i_17 : Int32) (i_18 : Int32) (i_19 : Int32) (f_7 : Nat → Int32) (a_33 : Nat) (a_34 : Nat) (a_35 : Nat) (a_36 : Nat) (i_20 : Int32) (i_21 : Int32) (i_22 : Int32) (a_37 : Nat) (f_8 : Nat → Int64) (i_23 : Int32) (i_24 : Int32) (i_25 : Int32) (a_38 : Nat) (f_9 : Nat → Int64) (i_26 : Int32) (i_27 : Int32) (i_28 : Int32) (a_39 : Nat) (f_10 : Nat → Int64) (i_29 : Int32) (i_30 : Int32) (i_31 : Int32) (a_40 : Nat) (f_11 : Nat → Int64) (a_41 : Nat) (i_32 : Int32) (h0 : mm_rg i_6 0 99) (h1 : mm_rg i_7 0 9) (h2 : mm_rg i_8 0 3) (h3 : mm_rg i_9 0 6) (h4 : mm_ar f_0 (-1) 4) (h5 : mm_ar f_1 0 99) (h6 : mm_ar f_2 0 8) (h7 : mm_ar f_3 0 9) (h8 : mm_ar f_4 0 9) (h9 : mm_rg i_13 (-2147483648) 210) (h10 : mm_ar f_5 0 9) (h11 : mm_rg i_16 (-2147483648) 210) (h12 : mm_ar f_6 0 9) (h13 : mm_rg i_19 (-2147483648) 210) (h14 : mm_ar f_7 0 9) (h15 : mm_rg i_20 0 1) (h16 : mm_rg i_22 0 60) (h17 : mm_rg i_23 0 1) (h18 : mm_rg i_25 0 60) (h19 : mm_rg i_26 0 1) (h20 : mm_rg i_28 0 60) (h21 : mm_rg i_29 0 1) (h22 : mm_rg i_31 0 60)  : mm_CI l yX11_date (mm_ws yX11_date cX11_date 5 (some .int)) ({ frames := 6, cells := 0, slots := 0, locals := 160 } : Room) G cy sz [(a_0, .inr (11, [.ref a_1, .ref a_2, .ref a_3, .ref a_4, .ref a_5, .ref a_6, .ref a_7, .ref a_8, .ref a_9, .ref a_10, .ref a_11])), (a_3, .inr (10, [.ref a_12, .ref a_13])), (a_12, .inr (0, [.int i_3, .int i_4, .int i_5, .int i_6, .int i_7, .int i_8, .int i_9, .int i_10, .ref a_14, .ref a_15, .ref a_16, .ref a_17, .ref a_18, .ref a_19, .ref a_20, .ref a_21, .ref a_22, .ref a_23])), (a_14, .inl (cy 1, 9, .inl f_0)), (a_15, .inl (cy 1, 9, .inl f_1)), (a_18, .inl (cy 1, 6, .inl f_2)), (a_19, .inl (cy 1, 48, .inl f_3)), (a_20, .inl (cy 1, 30, .inl f_4)), (a_13, .inl (cy 5, 3, .inr (.inr (.inr (.inr (va_up (va_up (va_up (fun _ => none) 0 (some a_24)) 1 (some a_25)) 2 (some a_26))))))), (a_24, .inr (1, [.ref a_27, .ref a_28, .int i_11, .int i_12, .int i_13])), (a_27, .inl (cy 1, 2100, .inl f_5)), (a_25, .inr (1, [.ref a_29, .ref a_30, .int i_14, .int i_15, .int i_16])), (a_29, .inl (cy 1, 2100, .inl f_6)), (a_26, .inr (1, [.ref a_31, .ref a_32, .int i_17, .int i_18, .int i_19])), (a_31, .inl (cy 1, 2100, .inl f_7)), (a_6, .inl (cy 6, 4, .inr (.inr (.inr (.inr (va_up (va_up (va_up (va_up (fun _ => none) 0 (some a_33)) 1 (some a_34)) 2 (some a_35)) 3 (some a_36))))))), (a_33, .inr (6, [.int i_20, .int i_21, .int i_22, .ref a_37])), (a_37, .inl (cy 2, 60, .inr (.inl f_8))), (a_34, .inr (6, [.int i_23, .int i_24, .int i_25, .ref a_38])), (a_38, .inl (cy 2, 60, .inr (.inl f_9))), (a_35, .inr (6, [.int i_26, .int i_27, .int i_28, .ref a_39])), (a_39, .inl (cy 2, 60, .inr (.inl f_10))), (a_36, .inr (6, [.int i_29, .int i_30, .int i_31, .ref a_40])), (a_40, .inl (cy 2, 60, .inr (.inl f_11))), (a_8, .inr (3, [.ref a_3, .ref a_7, .ref a_41, .int i_32]))] [.ref a_0, .int i_0, .int i_1, .int i_2] (fun u : Unit => [(a_0, .inr (11, [.ref a_1, .ref a_2, .ref a_3, .ref a_4, .ref a_5, .ref a_6, .ref a_7, .ref a_8, .ref a_9, .ref a_10, .ref a_11])), (a_3, .inr (10, [.ref a_12, .ref a_13])), (a_12, .inr (0, [.int i_3, .int i_4, .int i_5, .int i_6, .int i_7, .int i_8, .int i_9, .int i_10, .ref a_14, .ref a_15, .ref a_16, .ref a_17, .ref a_18, .ref a_19, .ref a_20, .ref a_21, .ref a_22, .ref a_23])), (a_14, .inl (cy 1, 9, .inl f_0)), (a_15, .inl (cy 1, 9, .inl f_1)), (a_18, .inl (cy 1, 6, .inl f_2)), (a_19, .inl (cy 1, 48, .inl f_3)), (a_20, .inl (cy 1, 30, .inl f_4)), (a_13, .inl (cy 5, 3, .inr (.inr (.inr (.inr (va_up (va_up (va_up (fun _ => none) 0 (some a_24)) 1 (some a_25)) 2 (some a_26))))))), (a_24, .inr (1, [.ref a_27, .ref a_28, .int i_11, .int i_12, .int i_13])), (a_27, .inl (cy 1, 2100, .inl f_5)), (a_25, .inr (1, [.ref a_29, .ref a_30, .int i_14, .int i_15, .int i_16])), (a_29, .inl (cy 1, 2100, .inl f_6)), (a_26, .inr (1, [.ref a_31, .ref a_32, .int i_17, .int i_18, .int i_19])), (a_31, .inl (cy 1, 2100, .inl f_7)), (a_6, .inl (cy 6, 4, .inr (.inr (.inr (.inr (va_up (va_up (va_up (va_up (fun _ => none) 0 (some a_33)) 1 (some a_34)) 2 (some a_35)) 3 (some a_36))))))), (a_33, .inr (6, [.int i_20, .int i_21, .int i_22, .ref a_37])), (a_37, .inl (cy 2, 60, .inr (.inl f_8))), (a_34, .inr (6, [.int i_23, .int i_24, .int i_25, .ref a_38])), (a_38, .inl (cy 2, 60, .inr (.inl f_9))), (a_35, .inr (6, [.int i_26, .int i_27, .int i_28, .ref a_39])), (a_39, .inl (cy 2, 60, .inr (.inl f_10))), (a_36, .inr (6, [.int i_29, .int i_30, .int i_31, .ref a_40])), (a_40, .inl (cy 2, 60, .inr (.inl f_11))), (a_8, .inr (3, [.ref a_3, .ref a_7, .ref a_41, .int i_32]))]) (fun (r : Int32) (u : Unit) => mm_rg r (-6) 1000000210) 0 0 := by
  refine mm_begin (lv := [(0, .ref a_0), (1, .int i_0), (2, .int i_1), (3, .int i_2)]) (by decide) (Nat.le_of_ble_eq_true rfl) rfl ?_
  intro p e s m below meth c A ls R args Q H locs hRe hQ hAe hx hb hr hlocks hml hown hnm hts hsz hA hS hP hK hD hZ hl
  have hRf : R.frames = 6 := by rw [hRe]
  have hRl : R.locals = 160 := by rw [hRe]
  have hRc : R.cells = 0 := by rw [hRe]
  have hRs : R.slots = 0 := by rw [hRe]
  refine lv_aload_n hx hb dX11_date_0 rfl (lv_at hl 0 rfl) ?_
  refine lv_iload_n hx hb dX11_date_1 rfl (lv_at hl 1 rfl) ?_
  refine lv_iload_n hx hb dX11_date_2 rfl (lv_at hl 2 rfl) ?_
  refine lv_iload_n hx hb dX11_date_3 rfl (lv_at hl 3 rfl) ?_
  refine mm_finir (va_runV (As := [.int i_0, .int i_1, .int i_2]) (rest := []) ⟨hx, hb, hml, hown, hts⟩ (K445_X11_letterTrouble l G cy H.size a_0 i_0 i_1 i_2 a_1 a_2 a_3 a_4 a_5 a_6 a_7 a_8 a_9 a_10 a_11 a_12 a_13 i_3 i_4 i_5 i_6 i_7 i_8 i_9 i_10 a_14 a_15 a_16 a_17 a_18 a_19 a_20 a_21 a_22 a_23 a_33 a_34 a_35 a_36 i_20 i_21 i_22 a_37 f_8 i_23 i_24 i_25 a_38 f_9 i_26 i_27 i_28 a_39 f_10 i_29 i_30 i_31 a_40 f_11 a_41 i_32 h2 h3 h15 h16 h17 h18 h19 h20 h21 h22) (cwV 3 hts (mm_gV mm_w1228 mm_w1229 mm_w1230 mm_w2 mm_w1231) rfl rfl rfl hd_X11_letterTrouble ⟨by rw [hRf]; exact Nat.le_of_ble_eq_true rfl, by rw [hRl]; exact Nat.le_of_ble_eq_true rfl⟩) (mm_preV hK hZ hS hA hP hD [0, 1, 2, 15, 16, 17, 18, 19, 20, 21, 22, 23, 24] rfl rfl 0 rfl rfl rfl) rfl rfl hl.1 rfl (lv_room (Nat.le_of_ble_eq_true rfl)) dX11_date_4 ⟨by rw [hRc]; exact Nat.le_of_ble_eq_true rfl, by rw [hRs]; exact Nat.le_of_ble_eq_true rfl⟩) hP hD hS hA [0, 1, 2, 15, 16, 17, 18, 19, 20, 21, 22, 23, 24] rfl (fun _ => rfl) ?_
  clear hP hD hS
  clear H locs
  intro v1 _u H locs hw hP hD hS
  rcases hw with rfl | ⟨rfl, w2, w3, w4⟩ | ⟨rfl, w5, w6, w7, w8⟩ | ⟨rfl, w9, w10, w11, w12⟩ | ⟨rfl, w13, w14, w15, w16⟩ | ⟨rfl, w17, w18, w19, w20⟩
  · refine lv_istore (lv' := [(4, .int (-2)), (0, .ref a_0), (1, .int i_0), (2, .int i_1), (3, .int i_2)]) hx hb dX11_date_7 hl (by decide) rfl ?_
    clear hl
    clear ls
    intro ls hl
    refine lv_iload hx hb dX11_date_9 (lv_at hl 0 rfl) ?_
    refine lv_if_eq (tgt := 19) hx hb dX11_date_11 (by decide) (fun c21 => ?_) (fun c21 => ?_)
    · exact mm_eqN c21 mm_km2 mm_k0 (by decide)
    · refine lv_iload hx hb dX11_date_14 (lv_at hl 0 rfl) ?_
      refine lv_goto (tgt := 34) hx hb dX11_date_16 (by decide) ?_
      subst hAe
      rw [hQ]
      exact W.iret (v := (-2)) hx hb hr (fun t ht hW => ⟨⟨(-2), (), rfl, (mm_wk mm_km2 (by decide)), by rw [ht]; exact hP, hK.warm hW, hD⟩, hS.F ht⟩) hS.2.2 dX11_date_34
  · refine lv_istore (lv' := [(4, .int (-6)), (0, .ref a_0), (1, .int i_0), (2, .int i_1), (3, .int i_2)]) hx hb dX11_date_7 hl (by decide) rfl ?_
    clear hl
    clear ls
    intro ls hl
    refine lv_iload hx hb dX11_date_9 (lv_at hl 0 rfl) ?_
    refine lv_if_eq (tgt := 19) hx hb dX11_date_11 (by decide) (fun c22 => ?_) (fun c22 => ?_)
    · exact mm_eqN c22 mm_km6 mm_k0 (by decide)
    · refine lv_iload hx hb dX11_date_14 (lv_at hl 0 rfl) ?_
      refine lv_goto (tgt := 34) hx hb dX11_date_16 (by decide) ?_
      subst hAe
      rw [hQ]
      exact W.iret (v := (-6)) hx hb hr (fun t ht hW => ⟨⟨(-6), (), rfl, (mm_wk mm_km6 (by decide)), by rw [ht]; exact hP, hK.warm hW, hD⟩, hS.F ht⟩) hS.2.2 dX11_date_34
  · refine lv_istore (lv' := [(4, .int 0), (0, .ref a_0), (1, .int i_0), (2, .int i_1), (3, .int i_2)]) hx hb dX11_date_7 hl (by decide) rfl ?_
    clear hl
    clear ls
    intro ls hl
    refine lv_iload hx hb dX11_date_9 (lv_at hl 0 rfl) ?_
    refine lv_if_eq (tgt := 19) hx hb dX11_date_11 (by decide) (fun c23 => ?_) (fun c23 => ?_)
    · refine lv_aload_n hx hb dX11_date_19 rfl (lv_at hl 1 rfl) ?_
      refine va_get (D := G) (ci := 11) (v := .ref a_8) (C := RX11) (T := TX11) (N := 11) hx hb hts (mm_i inlX11) hown hK.1 hP 0 rfl rfl 7 (by decide) (mm_h hts mm_w42) (fun _ h9 => h9) rfl dX11_date_20 ?_
      refine lv_aload_n hx hb dX11_date_23 rfl (lv_at hl 1 rfl) ?_
      refine va_get (D := G) (ci := 11) (v := .ref a_6) (C := RX11) (T := TX11) (N := 11) hx hb hts (mm_i inlX11) hown hK.1 hP 0 rfl rfl 5 (by decide) (mm_h hts mm_w32) (fun _ h9 => h9) rfl dX11_date_24 ?_
      refine lv_iload_n hx hb dX11_date_27 rfl (lv_at hl 2 rfl) ?_
      obtain rfl : i_0 = 0 := mm_is w5 0 (by decide)
      refine va_aldq hx hb hK.1 hP 15 6 rfl rfl (mm_in mm_k0 (by decide)) dX11_date_28 ?_
      refine W.eq (g2 := F0 m 29 ls [.ref a_33, .ref a_8]) rfl ?_
      refine lv_iload_n hx hb dX11_date_29 rfl (lv_at hl 3 rfl) ?_
      refine lv_iload_n hx hb dX11_date_30 rfl (lv_at hl 4 rfl) ?_
      refine mm_finir (va_runV (As := [.ref a_33, .int i_1, .int i_2]) (rest := []) ⟨hx, hb, hml, hown, hts⟩ (K446_X3_firstFrom l G cy H.size a_8 a_33 i_1 i_2 a_3 a_12 a_13 i_3 i_4 i_5 i_6 i_7 i_8 i_9 i_10 a_14 a_15 a_16 a_17 a_18 a_19 a_20 a_21 a_22 a_23 f_0 f_1 f_2 f_3 f_4 a_24 a_25 a_26 a_27 a_28 i_11 i_12 i_13 f_5 a_29 a_30 i_14 i_15 i_16 f_6 a_31 a_32 i_17 i_18 i_19 f_7 i_20 i_21 i_22 a_37 f_8 a_7 a_41 i_32 w6 (mm_wk w7 (by decide)) h0 h1 h3 h4 h5 h6 h7 h8 h9 h10 h11 h12 h13 h14 h16 w8) (cwV 3 hts (mm_gV mm_w1285 mm_w1286 mm_w1287 mm_w41 mm_w1288) rfl rfl rfl hd_X3_firstFrom ⟨by rw [hRf]; exact Nat.le_of_ble_eq_true rfl, by rw [hRl]; exact Nat.le_of_ble_eq_true rfl⟩) (mm_preV hK hZ hS hA hP hD [1, 2, 3, 4, 5, 6, 7, 8, 9, 10, 11, 12, 13, 14, 16, 17, 24] rfl rfl 24 rfl rfl rfl) rfl rfl hl.1 rfl (lv_room (Nat.le_of_ble_eq_true rfl)) dX11_date_31 ⟨by rw [hRc]; exact Nat.le_of_ble_eq_true rfl, by rw [hRs]; exact Nat.le_of_ble_eq_true rfl⟩) hP hD hS hA [1, 2, 3, 4, 5, 6, 7, 8, 9, 10, 11, 12, 13, 14, 16, 17, 24] rfl (fun _ => rfl) ?_
      clear hP hD hS
      clear H locs
      intro v24 _u H locs hw hP hD hS
      have w25 := hw
      subst hAe
      rw [hQ]
      exact W.iret (v := v24) hx hb hr (fun t ht hW => ⟨⟨v24, (), rfl, (mm_wk w25 (by decide)), by rw [ht]; exact hP, hK.warm hW, hD⟩, hS.F ht⟩) hS.2.2 dX11_date_34
    · have q26 := mm_neL (lo := 1) (mm_ne c23) mm_k0 mm_k0 (by decide) (by decide)
      exact mm_no q26 (by decide)
  · refine lv_istore (lv' := [(4, .int 0), (0, .ref a_0), (1, .int i_0), (2, .int i_1), (3, .int i_2)]) hx hb dX11_date_7 hl (by decide) rfl ?_
    clear hl
    clear ls
    intro ls hl
    refine lv_iload hx hb dX11_date_9 (lv_at hl 0 rfl) ?_
    refine lv_if_eq (tgt := 19) hx hb dX11_date_11 (by decide) (fun c27 => ?_) (fun c27 => ?_)
    · refine lv_aload_n hx hb dX11_date_19 rfl (lv_at hl 1 rfl) ?_
      refine va_get (D := G) (ci := 11) (v := .ref a_8) (C := RX11) (T := TX11) (N := 11) hx hb hts (mm_i inlX11) hown hK.1 hP 0 rfl rfl 7 (by decide) (mm_h hts mm_w42) (fun _ h9 => h9) rfl dX11_date_20 ?_
      refine lv_aload_n hx hb dX11_date_23 rfl (lv_at hl 1 rfl) ?_
      refine va_get (D := G) (ci := 11) (v := .ref a_6) (C := RX11) (T := TX11) (N := 11) hx hb hts (mm_i inlX11) hown hK.1 hP 0 rfl rfl 5 (by decide) (mm_h hts mm_w32) (fun _ h9 => h9) rfl dX11_date_24 ?_
      refine lv_iload_n hx hb dX11_date_27 rfl (lv_at hl 2 rfl) ?_
      obtain rfl : i_0 = 1 := mm_is w9 1 (by decide)
      refine va_aldq hx hb hK.1 hP 15 6 rfl rfl (mm_in mm_k1 (by decide)) dX11_date_28 ?_
      refine W.eq (g2 := F0 m 29 ls [.ref a_34, .ref a_8]) rfl ?_
      refine lv_iload_n hx hb dX11_date_29 rfl (lv_at hl 3 rfl) ?_
      refine lv_iload_n hx hb dX11_date_30 rfl (lv_at hl 4 rfl) ?_
      refine mm_finir (va_runV (As := [.ref a_34, .int i_1, .int i_2]) (rest := []) ⟨hx, hb, hml, hown, hts⟩ (K446_X3_firstFrom l G cy H.size a_8 a_34 i_1 i_2 a_3 a_12 a_13 i_3 i_4 i_5 i_6 i_7 i_8 i_9 i_10 a_14 a_15 a_16 a_17 a_18 a_19 a_20 a_21 a_22 a_23 f_0 f_1 f_2 f_3 f_4 a_24 a_25 a_26 a_27 a_28 i_11 i_12 i_13 f_5 a_29 a_30 i_14 i_15 i_16 f_6 a_31 a_32 i_17 i_18 i_19 f_7 i_23 i_24 i_25 a_38 f_9 a_7 a_41 i_32 w10 (mm_wk w11 (by decide)) h0 h1 h3 h4 h5 h6 h7 h8 h9 h10 h11 h12 h13 h14 h18 w12) (cwV 3 hts (mm_gV mm_w1285 mm_w1286 mm_w1287 mm_w41 mm_w1288) rfl rfl rfl hd_X3_firstFrom ⟨by rw [hRf]; exact Nat.le_of_ble_eq_true rfl, by rw [hRl]; exact Nat.le_of_ble_eq_true rfl⟩) (mm_preV hK hZ hS hA hP hD [1, 2, 3, 4, 5, 6, 7, 8, 9, 10, 11, 12, 13, 14, 18, 19, 24] rfl rfl 24 rfl rfl rfl) rfl rfl hl.1 rfl (lv_room (Nat.le_of_ble_eq_true rfl)) dX11_date_31 ⟨by rw [hRc]; exact Nat.le_of_ble_eq_true rfl, by rw [hRs]; exact Nat.le_of_ble_eq_true rfl⟩) hP hD hS hA [1, 2, 3, 4, 5, 6, 7, 8, 9, 10, 11, 12, 13, 14, 18, 19, 24] rfl (fun _ => rfl) ?_
      clear hP hD hS
      clear H locs
      intro v28 _u H locs hw hP hD hS
      have w29 := hw
      subst hAe
      rw [hQ]
      exact W.iret (v := v28) hx hb hr (fun t ht hW => ⟨⟨v28, (), rfl, (mm_wk w29 (by decide)), by rw [ht]; exact hP, hK.warm hW, hD⟩, hS.F ht⟩) hS.2.2 dX11_date_34
    · have q30 := mm_neL (lo := 1) (mm_ne c27) mm_k0 mm_k0 (by decide) (by decide)
      exact mm_no q30 (by decide)
  · refine lv_istore (lv' := [(4, .int 0), (0, .ref a_0), (1, .int i_0), (2, .int i_1), (3, .int i_2)]) hx hb dX11_date_7 hl (by decide) rfl ?_
    clear hl
    clear ls
    intro ls hl
    refine lv_iload hx hb dX11_date_9 (lv_at hl 0 rfl) ?_
    refine lv_if_eq (tgt := 19) hx hb dX11_date_11 (by decide) (fun c31 => ?_) (fun c31 => ?_)
    · refine lv_aload_n hx hb dX11_date_19 rfl (lv_at hl 1 rfl) ?_
      refine va_get (D := G) (ci := 11) (v := .ref a_8) (C := RX11) (T := TX11) (N := 11) hx hb hts (mm_i inlX11) hown hK.1 hP 0 rfl rfl 7 (by decide) (mm_h hts mm_w42) (fun _ h9 => h9) rfl dX11_date_20 ?_
      refine lv_aload_n hx hb dX11_date_23 rfl (lv_at hl 1 rfl) ?_
      refine va_get (D := G) (ci := 11) (v := .ref a_6) (C := RX11) (T := TX11) (N := 11) hx hb hts (mm_i inlX11) hown hK.1 hP 0 rfl rfl 5 (by decide) (mm_h hts mm_w32) (fun _ h9 => h9) rfl dX11_date_24 ?_
      refine lv_iload_n hx hb dX11_date_27 rfl (lv_at hl 2 rfl) ?_
      obtain rfl : i_0 = 2 := mm_is w13 2 (by decide)
      refine va_aldq hx hb hK.1 hP 15 6 rfl rfl (mm_in mm_k2 (by decide)) dX11_date_28 ?_
      refine W.eq (g2 := F0 m 29 ls [.ref a_35, .ref a_8]) rfl ?_
      refine lv_iload_n hx hb dX11_date_29 rfl (lv_at hl 3 rfl) ?_
      refine lv_iload_n hx hb dX11_date_30 rfl (lv_at hl 4 rfl) ?_
      refine mm_finir (va_runV (As := [.ref a_35, .int i_1, .int i_2]) (rest := []) ⟨hx, hb, hml, hown, hts⟩ (K446_X3_firstFrom l G cy H.size a_8 a_35 i_1 i_2 a_3 a_12 a_13 i_3 i_4 i_5 i_6 i_7 i_8 i_9 i_10 a_14 a_15 a_16 a_17 a_18 a_19 a_20 a_21 a_22 a_23 f_0 f_1 f_2 f_3 f_4 a_24 a_25 a_26 a_27 a_28 i_11 i_12 i_13 f_5 a_29 a_30 i_14 i_15 i_16 f_6 a_31 a_32 i_17 i_18 i_19 f_7 i_26 i_27 i_28 a_39 f_10 a_7 a_41 i_32 w14 (mm_wk w15 (by decide)) h0 h1 h3 h4 h5 h6 h7 h8 h9 h10 h11 h12 h13 h14 h20 w16) (cwV 3 hts (mm_gV mm_w1285 mm_w1286 mm_w1287 mm_w41 mm_w1288) rfl rfl rfl hd_X3_firstFrom ⟨by rw [hRf]; exact Nat.le_of_ble_eq_true rfl, by rw [hRl]; exact Nat.le_of_ble_eq_true rfl⟩) (mm_preV hK hZ hS hA hP hD [1, 2, 3, 4, 5, 6, 7, 8, 9, 10, 11, 12, 13, 14, 20, 21, 24] rfl rfl 24 rfl rfl rfl) rfl rfl hl.1 rfl (lv_room (Nat.le_of_ble_eq_true rfl)) dX11_date_31 ⟨by rw [hRc]; exact Nat.le_of_ble_eq_true rfl, by rw [hRs]; exact Nat.le_of_ble_eq_true rfl⟩) hP hD hS hA [1, 2, 3, 4, 5, 6, 7, 8, 9, 10, 11, 12, 13, 14, 20, 21, 24] rfl (fun _ => rfl) ?_
      clear hP hD hS
      clear H locs
      intro v32 _u H locs hw hP hD hS
      have w33 := hw
      subst hAe
      rw [hQ]
      exact W.iret (v := v32) hx hb hr (fun t ht hW => ⟨⟨v32, (), rfl, (mm_wk w33 (by decide)), by rw [ht]; exact hP, hK.warm hW, hD⟩, hS.F ht⟩) hS.2.2 dX11_date_34
    · have q34 := mm_neL (lo := 1) (mm_ne c31) mm_k0 mm_k0 (by decide) (by decide)
      exact mm_no q34 (by decide)
  · refine lv_istore (lv' := [(4, .int 0), (0, .ref a_0), (1, .int i_0), (2, .int i_1), (3, .int i_2)]) hx hb dX11_date_7 hl (by decide) rfl ?_
    clear hl
    clear ls
    intro ls hl
    refine lv_iload hx hb dX11_date_9 (lv_at hl 0 rfl) ?_
    refine lv_if_eq (tgt := 19) hx hb dX11_date_11 (by decide) (fun c35 => ?_) (fun c35 => ?_)
    · refine lv_aload_n hx hb dX11_date_19 rfl (lv_at hl 1 rfl) ?_
      refine va_get (D := G) (ci := 11) (v := .ref a_8) (C := RX11) (T := TX11) (N := 11) hx hb hts (mm_i inlX11) hown hK.1 hP 0 rfl rfl 7 (by decide) (mm_h hts mm_w42) (fun _ h9 => h9) rfl dX11_date_20 ?_
      refine lv_aload_n hx hb dX11_date_23 rfl (lv_at hl 1 rfl) ?_
      refine va_get (D := G) (ci := 11) (v := .ref a_6) (C := RX11) (T := TX11) (N := 11) hx hb hts (mm_i inlX11) hown hK.1 hP 0 rfl rfl 5 (by decide) (mm_h hts mm_w32) (fun _ h9 => h9) rfl dX11_date_24 ?_
      refine lv_iload_n hx hb dX11_date_27 rfl (lv_at hl 2 rfl) ?_
      obtain rfl : i_0 = 3 := mm_is w17 3 (by decide)
      refine va_aldq hx hb hK.1 hP 15 6 rfl rfl (mm_in mm_k3 (by decide)) dX11_date_28 ?_
      refine W.eq (g2 := F0 m 29 ls [.ref a_36, .ref a_8]) rfl ?_
      refine lv_iload_n hx hb dX11_date_29 rfl (lv_at hl 3 rfl) ?_
      refine lv_iload_n hx hb dX11_date_30 rfl (lv_at hl 4 rfl) ?_
      refine mm_finir (va_runV (As := [.ref a_36, .int i_1, .int i_2]) (rest := []) ⟨hx, hb, hml, hown, hts⟩ (K446_X3_firstFrom l G cy H.size a_8 a_36 i_1 i_2 a_3 a_12 a_13 i_3 i_4 i_5 i_6 i_7 i_8 i_9 i_10 a_14 a_15 a_16 a_17 a_18 a_19 a_20 a_21 a_22 a_23 f_0 f_1 f_2 f_3 f_4 a_24 a_25 a_26 a_27 a_28 i_11 i_12 i_13 f_5 a_29 a_30 i_14 i_15 i_16 f_6 a_31 a_32 i_17 i_18 i_19 f_7 i_29 i_30 i_31 a_40 f_11 a_7 a_41 i_32 w18 (mm_wk w19 (by decide)) h0 h1 h3 h4 h5 h6 h7 h8 h9 h10 h11 h12 h13 h14 h22 w20) (cwV 3 hts (mm_gV mm_w1285 mm_w1286 mm_w1287 mm_w41 mm_w1288) rfl rfl rfl hd_X3_firstFrom ⟨by rw [hRf]; exact Nat.le_of_ble_eq_true rfl, by rw [hRl]; exact Nat.le_of_ble_eq_true rfl⟩) (mm_preV hK hZ hS hA hP hD [1, 2, 3, 4, 5, 6, 7, 8, 9, 10, 11, 12, 13, 14, 22, 23, 24] rfl rfl 24 rfl rfl rfl) rfl rfl hl.1 rfl (lv_room (Nat.le_of_ble_eq_true rfl)) dX11_date_31 ⟨by rw [hRc]; exact Nat.le_of_ble_eq_true rfl, by rw [hRs]; exact Nat.le_of_ble_eq_true rfl⟩) hP hD hS hA [1, 2, 3, 4, 5, 6, 7, 8, 9, 10, 11, 12, 13, 14, 22, 23, 24] rfl (fun _ => rfl) ?_
      clear hP hD hS
      clear H locs
      intro v36 _u H locs hw hP hD hS
      have w37 := hw
      subst hAe
      rw [hQ]
      exact W.iret (v := v36) hx hb hr (fun t ht hW => ⟨⟨v36, (), rfl, (mm_wk w37 (by decide)), by rw [ht]; exact hP, hK.warm hW, hD⟩, hS.F ht⟩) hS.2.2 dX11_date_34
    · have q38 := mm_neL (lo := 1) (mm_ne c35) mm_k0 mm_k0 (by decide) (by decide)
      exact mm_no q38 (by decide)

