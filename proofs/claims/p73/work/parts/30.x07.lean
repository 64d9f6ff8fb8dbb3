theorem dX11_ask_0 : decode cX11_ask 0 = .ok (.aload_n 0, 1) := by decide +kernel
theorem dX11_ask_1 : decode cX11_ask 1 = .ok (.iload_n 1, 1) := by decide +kernel
theorem dX11_ask_2 : decode cX11_ask 2 = .ok (.iload_n 2, 1) := by decide +kernel
theorem dX11_ask_3 : decode cX11_ask 3 = .ok (.iconst 0, 1) := by decide +kernel
theorem dX11_ask_4 : decode cX11_ask 4 = .ok (.invokevirtual 285, 3) := by decide +kernel
theorem dX11_ask_7 : decode cX11_ask 7 = .ok (.istore_n 3, 1) := by decide +kernel
theorem dX11_ask_8 : decode cX11_ask 8 = .ok (.iload_n 3, 1) := by decide +kernel
theorem dX11_ask_9 : decode cX11_ask 9 = .ok (.ifCond .eq 5, 3) := by decide +kernel
theorem dX11_ask_12 : decode cX11_ask 12 = .ok (.iload_n 3, 1) := by decide +kernel
theorem dX11_ask_13 : decode cX11_ask 13 = .ok (.ireturn, 1) := by decide +kernel
theorem dX11_ask_14 : decode cX11_ask 14 = .ok (.aload_n 0, 1) := by decide +kernel
theorem dX11_ask_15 : decode cX11_ask 15 = .ok (.getfield 62, 3) := by decide +kernel
theorem dX11_ask_18 : decode cX11_ask 18 = .ok (.aload_n 0, 1) := by decide +kernel
theorem dX11_ask_19 : decode cX11_ask 19 = .ok (.getfield 45, 3) := by decide +kernel
theorem dX11_ask_22 : decode cX11_ask 22 = .ok (.iload_n 1, 1) := by decide +kernel
theorem dX11_ask_23 : decode cX11_ask 23 = .ok (.aaload, 1) := by decide +kernel
theorem dX11_ask_24 : decode cX11_ask 24 = .ok (.iload_n 2, 1) := by decide +kernel
theorem dX11_ask_25 : decode cX11_ask 25 = .ok (.invokevirtual 288, 3) := by decide +kernel
theorem dX11_ask_28 : decode cX11_ask 28 = .ok (.pop, 1) := by decide +kernel
theorem dX11_ask_29 : decode cX11_ask 29 = .ok (.aload_n 0, 1) := by decide +kernel
theorem dX11_ask_30 : decode cX11_ask 30 = .ok (.getfield 62, 3) := by decide +kernel
theorem dX11_ask_33 : decode cX11_ask 33 = .ok (.iload_n 2, 1) := by decide +kernel
theorem dX11_ask_34 : decode cX11_ask 34 = .ok (.invokevirtual 296, 3) := by decide +kernel
theorem dX11_ask_37 : decode cX11_ask 37 = .ok (.ireturn, 1) := by decide +kernel
theorem dX11_isTask_0 : decode cX11_isTask 0 = .ok (.aload_n 0, 1) := by decide +kernel
theorem dX11_isTask_1 : decode cX11_isTask 1 = .ok (.iload_n 1, 1) := by decide +kernel
theorem dX11_isTask_2 : decode cX11_isTask 2 = .ok (.invokevirtual 145, 3) := by decide +kernel
theorem dX11_isTask_5 : decode cX11_isTask 5 = .ok (.ifCond .eq 33, 3) := by decide +kernel
theorem dX11_isTask_8 : decode cX11_isTask 8 = .ok (.iload_n 2, 1) := by decide +kernel
theorem dX11_isTask_9 : decode cX11_isTask 9 = .ok (.invokestatic 158, 3) := by decide +kernel
theorem dX11_isTask_12 : decode cX11_isTask 12 = .ok (.ifCond .eq 26, 3) := by decide +kernel
theorem dX11_isTask_15 : decode cX11_isTask 15 = .ok (.iload_n 3, 1) := by decide +kernel
theorem dX11_isTask_16 : decode cX11_isTask 16 = .ok (.iconst 1, 1) := by decide +kernel
theorem dX11_isTask_17 : decode cX11_isTask 17 = .ok (.if_icmp .lt 21, 3) := by decide +kernel
theorem dX11_isTask_20 : decode cX11_isTask 20 = .ok (.iload_n 3, 1) := by decide +kernel
theorem dX11_isTask_21 : decode cX11_isTask 21 = .ok (.bipush 7, 2) := by decide +kernel
theorem dX11_isTask_23 : decode cX11_isTask 23 = .ok (.if_icmp .gt 15, 3) := by decide +kernel
theorem dX11_isTask_26 : decode cX11_isTask 26 = .ok (.iload 4, 2) := by decide +kernel
theorem dX11_isTask_28 : decode cX11_isTask 28 = .ok (.invokestatic 209, 3) := by decide +kernel
theorem dX11_isTask_31 : decode cX11_isTask 31 = .ok (.ifCond .eq 7, 3) := by decide +kernel
theorem dX11_isTask_34 : decode cX11_isTask 34 = .ok (.iconst 1, 1) := by decide +kernel
theorem dX11_isTask_35 : decode cX11_isTask 35 = .ok (.goto 4, 3) := by decide +kernel
theorem dX11_isTask_38 : decode cX11_isTask 38 = .ok (.iconst 0, 1) := by decide +kernel
theorem dX11_isTask_39 : decode cX11_isTask 39 = .ok (.ireturn, 1) := by decide +kernel
theorem dX11_lands_0 : decode cX11_lands 0 = .ok (.iload_n 1, 1) := by decide +kernel
theorem dX11_lands_1 : decode cX11_lands 1 = .ok (.invokestatic 302, 3) := by decide +kernel
theorem dX11_lands_4 : decode cX11_lands 4 = .ok (.ifCond .eq 23, 3) := by decide +kernel
theorem dX11_lands_7 : decode cX11_lands 7 = .ok (.iload_n 2, 1) := by decide +kernel
theorem dX11_lands_8 : decode cX11_lands 8 = .ok (.invokestatic 158, 3) := by decide +kernel
theorem dX11_lands_11 : decode cX11_lands 11 = .ok (.ifCond .eq 16, 3) := by decide +kernel
theorem dX11_lands_14 : decode cX11_lands 14 = .ok (.aload_n 0, 1) := by decide +kernel
theorem dX11_lands_15 : decode cX11_lands 15 = .ok (.getfield 28, 3) := by decide +kernel
theorem dX11_lands_18 : decode cX11_lands 18 = .ok (.getfield 109, 3) := by decide +kernel
theorem dX11_lands_21 : decode cX11_lands 21 = .ok (.getfield 112, 3) := by decide +kernel
theorem dX11_lands_24 : decode cX11_lands 24 = .ok (.ifCond .ne 6, 3) := by decide +kernel
theorem dX11_lands_27 : decode cX11_lands 27 = .ok (.bipush (-2), 2) := by decide +kernel
theorem dX11_lands_29 : decode cX11_lands 29 = .ok (.ireturn, 1) := by decide +kernel
theorem dX11_lands_30 : decode cX11_lands 30 = .ok (.aload_n 0, 1) := by decide +kernel
theorem dX11_lands_31 : decode cX11_lands 31 = .ok (.aload_n 0, 1) := by decide +kernel
theorem dX11_lands_32 : decode cX11_lands 32 = .ok (.getfield 45, 3) := by decide +kernel
theorem dX11_lands_35 : decode cX11_lands 35 = .ok (.iload_n 1, 1) := by decide +kernel
theorem dX11_lands_36 : decode cX11_lands 36 = .ok (.aaload, 1) := by decide +kernel
theorem dX11_lands_37 : decode cX11_lands 37 = .ok (.invokevirtual 305, 3) := by decide +kernel
theorem dX11_lands_40 : decode cX11_lands 40 = .ok (.istore_n 3, 1) := by decide +kernel
theorem dX11_lands_41 : decode cX11_lands 41 = .ok (.iload_n 3, 1) := by decide +kernel
theorem dX11_lands_42 : decode cX11_lands 42 = .ok (.ifCond .eq 5, 3) := by decide +kernel
theorem dX11_lands_45 : decode cX11_lands 45 = .ok (.iload_n 3, 1) := by decide +kernel
theorem dX11_lands_46 : decode cX11_lands 46 = .ok (.ireturn, 1) := by decide +kernel
theorem dX11_lands_47 : decode cX11_lands 47 = .ok (.iconst 0, 1) := by decide +kernel
theorem dX11_lands_48 : decode cX11_lands 48 = .ok (.istore 4, 2) := by decide +kernel
theorem dX11_lands_50 : decode cX11_lands 50 = .ok (.iconst 0, 1) := by decide +kernel
theorem dX11_lands_51 : decode cX11_lands 51 = .ok (.istore 5, 2) := by decide +kernel
theorem dX11_lands_53 : decode cX11_lands 53 = .ok (.iload 5, 2) := by decide +kernel
theorem dX11_lands_55 : decode cX11_lands 55 = .ok (.aload_n 0, 1) := by decide +kernel
theorem dX11_lands_56 : decode cX11_lands 56 = .ok (.getfield 28, 3) := by decide +kernel
theorem dX11_lands_59 : decode cX11_lands 59 = .ok (.getfield 109, 3) := by decide +kernel
theorem dX11_lands_62 : decode cX11_lands 62 = .ok (.getfield 309, 3) := by decide +kernel
theorem dX11_lands_65 : decode cX11_lands 65 = .ok (.if_icmp .ge 37, 3) := by decide +kernel
theorem dX11_lands_68 : decode cX11_lands 68 = .ok (.aload_n 0, 1) := by decide +kernel
theorem dX11_lands_69 : decode cX11_lands 69 = .ok (.getfield 62, 3) := by decide +kernel
theorem dX11_lands_72 : decode cX11_lands 72 = .ok (.aload_n 0, 1) := by decide +kernel
theorem dX11_lands_73 : decode cX11_lands 73 = .ok (.getfield 45, 3) := by decide +kernel
theorem dX11_lands_76 : decode cX11_lands 76 = .ok (.iload_n 1, 1) := by decide +kernel
theorem dX11_lands_77 : decode cX11_lands 77 = .ok (.aaload, 1) := by decide +kernel
theorem dX11_lands_78 : decode cX11_lands 78 = .ok (.iload 5, 2) := by decide +kernel
theorem dX11_lands_80 : decode cX11_lands 80 = .ok (.iload_n 2, 1) := by decide +kernel
theorem dX11_lands_81 : decode cX11_lands 81 = .ok (.invokevirtual 312, 3) := by decide +kernel
theorem dX11_lands_84 : decode cX11_lands 84 = .ok (.ifCond .eq 12, 3) := by decide +kernel
theorem dX11_lands_87 : decode cX11_lands 87 = .ok (.iload 4, 2) := by decide +kernel
theorem dX11_lands_89 : decode cX11_lands 89 = .ok (.iconst 1, 1) := by decide +kernel
theorem dX11_lands_90 : decode cX11_lands 90 = .ok (.iload 5, 2) := by decide +kernel
theorem dX11_lands_92 : decode cX11_lands 92 = .ok (.ishl, 1) := by decide +kernel
theorem dX11_lands_93 : decode cX11_lands 93 = .ok (.ior, 1) := by decide +kernel
theorem dX11_lands_94 : decode cX11_lands 94 = .ok (.istore 4, 2) := by decide +kernel
theorem dX11_lands_96 : decode cX11_lands 96 = .ok (.iinc 5 1, 3) := by decide +kernel
theorem dX11_lands_99 : decode cX11_lands 99 = .ok (.goto (-46), 3) := by decide +kernel
theorem dX11_lands_102 : decode cX11_lands 102 = .ok (.iload 4, 2) := by decide +kernel
theorem dX11_lands_104 : decode cX11_lands 104 = .ok (.ireturn, 1) := by decide +kernel
theorem dX11_leaves_0 : decode cX11_leaves 0 = .ok (.aload_n 0, 1) := by decide +kernel
theorem dX11_leaves_1 : decode cX11_leaves 1 = .ok (.iload_n 1, 1) := by decide +kernel
theorem dX11_leaves_2 : decode cX11_leaves 2 = .ok (.iload_n 2, 1) := by decide +kernel
theorem dX11_leaves_3 : decode cX11_leaves 3 = .ok (.iconst 0, 1) := by decide +kernel
theorem dX11_leaves_4 : decode cX11_leaves 4 = .ok (.invokevirtual 285, 3) := by decide +kernel
theorem dX11_leaves_7 : decode cX11_leaves 7 = .ok (.istore_n 3, 1) := by decide +kernel
theorem dX11_leaves_8 : decode cX11_leaves 8 = .ok (.iload_n 3, 1) := by decide +kernel
theorem dX11_leaves_9 : decode cX11_leaves 9 = .ok (.ifCond .eq 5, 3) := by decide +kernel
theorem dX11_leaves_12 : decode cX11_leaves 12 = .ok (.iload_n 3, 1) := by decide +kernel
theorem dX11_leaves_13 : decode cX11_leaves 13 = .ok (.ireturn, 1) := by decide +kernel
theorem dX11_leaves_14 : decode cX11_leaves 14 = .ok (.aload_n 0, 1) := by decide +kernel
theorem dX11_leaves_15 : decode cX11_leaves 15 = .ok (.getfield 62, 3) := by decide +kernel
theorem dX11_leaves_18 : decode cX11_leaves 18 = .ok (.aload_n 0, 1) := by decide +kernel
theorem dX11_leaves_19 : decode cX11_leaves 19 = .ok (.getfield 45, 3) := by decide +kernel
theorem dX11_leaves_22 : decode cX11_leaves 22 = .ok (.iload_n 1, 1) := by decide +kernel
theorem dX11_leaves_23 : decode cX11_leaves 23 = .ok (.aaload, 1) := by decide +kernel
theorem dX11_leaves_24 : decode cX11_leaves 24 = .ok (.iload_n 2, 1) := by decide +kernel
theorem dX11_leaves_25 : decode cX11_leaves 25 = .ok (.invokevirtual 288, 3) := by decide +kernel
theorem dX11_leaves_28 : decode cX11_leaves 28 = .ok (.istore 4, 2) := by decide +kernel
theorem dX11_leaves_30 : decode cX11_leaves 30 = .ok (.aload_n 0, 1) := by decide +kernel
theorem dX11_leaves_31 : decode cX11_leaves 31 = .ok (.getfield 62, 3) := by decide +kernel
theorem dX11_leaves_34 : decode cX11_leaves 34 = .ok (.iload_n 2, 1) := by decide +kernel
theorem dX11_leaves_35 : decode cX11_leaves 35 = .ok (.invokevirtual 296, 3) := by decide +kernel
theorem dX11_leaves_38 : decode cX11_leaves 38 = .ok (.istore 5, 2) := by decide +kernel
theorem dX11_leaves_40 : decode cX11_leaves 40 = .ok (.iload 5, 2) := by decide +kernel
theorem dX11_leaves_42 : decode cX11_leaves 42 = .ok (.iconst (-1), 1) := by decide +kernel
theorem dX11_leaves_43 : decode cX11_leaves 43 = .ok (.if_icmp .ne 8, 3) := by decide +kernel
theorem dX11_leaves_46 : decode cX11_leaves 46 = .ok (.iload 4, 2) := by decide +kernel
theorem dX11_leaves_48 : decode cX11_leaves 48 = .ok (.goto 13, 3) := by decide +kernel
theorem dX11_leaves_51 : decode cX11_leaves 51 = .ok (.aload_n 0, 1) := by decide +kernel
theorem dX11_leaves_52 : decode cX11_leaves 52 = .ok (.getfield 62, 3) := by decide +kernel
theorem dX11_leaves_55 : decode cX11_leaves 55 = .ok (.iload_n 2, 1) := by decide +kernel
theorem dX11_leaves_56 : decode cX11_leaves 56 = .ok (.iload 5, 2) := by decide +kernel
theorem dX11_leaves_58 : decode cX11_leaves 58 = .ok (.invokevirtual 299, 3) := by decide +kernel
theorem dX11_leaves_61 : decode cX11_leaves 61 = .ok (.ireturn, 1) := by decide +kernel
theorem dX3_leftAtWorst_0 : decode cX3_leftAtWorst 0 = .ok (.aload_n 0, 1) := by decide +kernel
theorem dX3_leftAtWorst_1 : decode cX3_leftAtWorst 1 = .ok (.getfield 19, 3) := by decide +kernel
theorem dX3_leftAtWorst_4 : decode cX3_leftAtWorst 4 = .ok (.invokevirtual 65, 3) := by decide +kernel
theorem dX3_leftAtWorst_7 : decode cX3_leftAtWorst 7 = .ok (.iconst 0, 1) := by decide +kernel
theorem dX3_leftAtWorst_8 : decode cX3_leftAtWorst 8 = .ok (.istore_n 3, 1) := by decide +kernel
theorem dX3_leftAtWorst_9 : decode cX3_leftAtWorst 9 = .ok (.iload_n 3, 1) := by decide +kernel
theorem dX3_leftAtWorst_10 : decode cX3_leftAtWorst 10 = .ok (.aload_n 0, 1) := by decide +kernel
theorem dX3_leftAtWorst_11 : decode cX3_leftAtWorst 11 = .ok (.getfield 58, 3) := by decide +kernel
theorem dX3_leftAtWorst_14 : decode cX3_leftAtWorst 14 = .ok (.if_icmp .ge 31, 3) := by decide +kernel
theorem dX3_leftAtWorst_17 : decode cX3_leftAtWorst 17 = .ok (.aload_n 0, 1) := by decide +kernel
theorem dX3_leftAtWorst_18 : decode cX3_leftAtWorst 18 = .ok (.getfield 19, 3) := by decide +kernel
theorem dX3_leftAtWorst_21 : decode cX3_leftAtWorst 21 = .ok (.aload_n 0, 1) := by decide +kernel
theorem dX3_leftAtWorst_22 : decode cX3_leftAtWorst 22 = .ok (.getfield 15, 3) := by decide +kernel
theorem dX3_leftAtWorst_25 : decode cX3_leftAtWorst 25 = .ok (.iload_n 1, 1) := by decide +kernel
theorem dX3_leftAtWorst_26 : decode cX3_leftAtWorst 26 = .ok (.aload_n 0, 1) := by decide +kernel
theorem dX3_leftAtWorst_27 : decode cX3_leftAtWorst 27 = .ok (.getfield 9, 3) := by decide +kernel
theorem dX3_leftAtWorst_30 : decode cX3_leftAtWorst 30 = .ok (.iload_n 3, 1) := by decide +kernel
theorem dX3_leftAtWorst_31 : decode cX3_leftAtWorst 31 = .ok (.iaload, 1) := by decide +kernel
theorem dX3_leftAtWorst_32 : decode cX3_leftAtWorst 32 = .ok (.iload_n 2, 1) := by decide +kernel
theorem dX3_leftAtWorst_33 : decode cX3_leftAtWorst 33 = .ok (.invokevirtual 46, 3) := by decide +kernel
theorem dX3_leftAtWorst_36 : decode cX3_leftAtWorst 36 = .ok (.invokevirtual 70, 3) := by decide +kernel
theorem dX3_leftAtWorst_39 : decode cX3_leftAtWorst 39 = .ok (.iinc 3 1, 3) := by decide +kernel
theorem dX3_leftAtWorst_42 : decode cX3_leftAtWorst 42 = .ok (.goto (-33), 3) := by decide +kernel
theorem dX3_leftAtWorst_45 : decode cX3_leftAtWorst 45 = .ok (.aload_n 0, 1) := by decide +kernel
theorem dX3_leftAtWorst_46 : decode cX3_leftAtWorst 46 = .ok (.getfield 19, 3) := by decide +kernel
theorem dX3_leftAtWorst_49 : decode cX3_leftAtWorst 49 = .ok (.invokevirtual 74, 3) := by decide +kernel
theorem dX3_leftAtWorst_52 : decode cX3_leftAtWorst 52 = .ok (.ireturn, 1) := by decide +kernel
theorem dX3_question_0 : decode cX3_question 0 = .ok (.iconst (-1), 1) := by decide +kernel
theorem dX3_question_1 : decode cX3_question 1 = .ok (.istore_n 2, 1) := by decide +kernel
theorem dX3_question_2 : decode cX3_question 2 = .ok (.aload_n 0, 1) := by decide +kernel
theorem dX3_question_3 : decode cX3_question 3 = .ok (.getfield 58, 3) := by decide +kernel
theorem dX3_question_6 : decode cX3_question 6 = .ok (.istore_n 3, 1) := by decide +kernel
theorem dX3_question_7 : decode cX3_question 7 = .ok (.iconst 0, 1) := by decide +kernel
theorem dX3_question_8 : decode cX3_question 8 = .ok (.istore 4, 2) := by decide +kernel
theorem dX3_question_10 : decode cX3_question 10 = .ok (.iload 4, 2) := by decide +kernel
theorem dX3_question_12 : decode cX3_question 12 = .ok (.aload_n 0, 1) := by decide +kernel
theorem dX3_question_13 : decode cX3_question 13 = .ok (.getfield 15, 3) := by decide +kernel
theorem dX3_question_16 : decode cX3_question 16 = .ok (.getfield 33, 3) := by decide +kernel
theorem dX3_question_19 : decode cX3_question 19 = .ok (.getfield 39, 3) := by decide +kernel
theorem dX3_question_22 : decode cX3_question 22 = .ok (.if_icmp .ge 30, 3) := by decide +kernel
theorem dX3_question_25 : decode cX3_question 25 = .ok (.aload_n 0, 1) := by decide +kernel
theorem dX3_question_26 : decode cX3_question 26 = .ok (.iload_n 1, 1) := by decide +kernel
theorem dX3_question_27 : decode cX3_question 27 = .ok (.iload 4, 2) := by decide +kernel
theorem dX3_question_29 : decode cX3_question 29 = .ok (.invokevirtual 61, 3) := by decide +kernel
theorem dX3_question_32 : decode cX3_question 32 = .ok (.istore 5, 2) := by decide +kernel
theorem dX3_question_34 : decode cX3_question 34 = .ok (.iload 5, 2) := by decide +kernel
theorem dX3_question_36 : decode cX3_question 36 = .ok (.iload_n 3, 1) := by decide +kernel
theorem dX3_question_37 : decode cX3_question 37 = .ok (.if_icmp .ge 9, 3) := by decide +kernel
theorem dX3_question_40 : decode cX3_question 40 = .ok (.iload 5, 2) := by decide +kernel
theorem dX3_question_42 : decode cX3_question 42 = .ok (.istore_n 3, 1) := by decide +kernel
theorem dX3_question_43 : decode cX3_question 43 = .ok (.iload 4, 2) := by decide +kernel
theorem dX3_question_45 : decode cX3_question 45 = .ok (.istore_n 2, 1) := by decide +kernel
theorem dX3_question_46 : decode cX3_question 46 = .ok (.iinc 4 1, 3) := by decide +kernel
theorem dX3_question_49 : decode cX3_question 49 = .ok (.goto (-39), 3) := by decide +kernel
theorem dX3_question_52 : decode cX3_question 52 = .ok (.iload_n 2, 1) := by decide +kernel
theorem dX3_question_53 : decode cX3_question 53 = .ok (.ireturn, 1) := by decide +kernel
theorem dX4_leavesWanted_0 : decode cX4_leavesWanted 0 = .ok (.iconst 0, 1) := by decide +kernel
theorem dX4_leavesWanted_1 : decode cX4_leavesWanted 1 = .ok (.istore_n 2, 1) := by decide +kernel
theorem dX4_leavesWanted_2 : decode cX4_leavesWanted 2 = .ok (.iload_n 2, 1) := by decide +kernel
theorem dX4_leavesWanted_3 : decode cX4_leavesWanted 3 = .ok (.aload_n 0, 1) := by decide +kernel
theorem dX4_leavesWanted_4 : decode cX4_leavesWanted 4 = .ok (.getfield 34, 3) := by decide +kernel
theorem dX4_leavesWanted_7 : decode cX4_leavesWanted 7 = .ok (.if_icmp .ge 48, 3) := by decide +kernel
theorem dX4_leavesWanted_10 : decode cX4_leavesWanted 10 = .ok (.aload_n 0, 1) := by decide +kernel
theorem dX4_leavesWanted_11 : decode cX4_leavesWanted 11 = .ok (.getfield 24, 3) := by decide +kernel
theorem dX4_leavesWanted_14 : decode cX4_leavesWanted 14 = .ok (.aload_n 0, 1) := by decide +kernel
theorem dX4_leavesWanted_15 : decode cX4_leavesWanted 15 = .ok (.getfield 15, 3) := by decide +kernel
theorem dX4_leavesWanted_18 : decode cX4_leavesWanted 18 = .ok (.iload_n 2, 1) := by decide +kernel
theorem dX4_leavesWanted_19 : decode cX4_leavesWanted 19 = .ok (.iaload, 1) := by decide +kernel
theorem dX4_leavesWanted_20 : decode cX4_leavesWanted 20 = .ok (.aload_n 0, 1) := by decide +kernel
theorem dX4_leavesWanted_21 : decode cX4_leavesWanted 21 = .ok (.getfield 11, 3) := by decide +kernel
theorem dX4_leavesWanted_24 : decode cX4_leavesWanted 24 = .ok (.iload_n 2, 1) := by decide +kernel
theorem dX4_leavesWanted_25 : decode cX4_leavesWanted 25 = .ok (.bipush 10, 2) := by decide +kernel
theorem dX4_leavesWanted_27 : decode cX4_leavesWanted 27 = .ok (.imul, 1) := by decide +kernel
theorem dX4_leavesWanted_28 : decode cX4_leavesWanted 28 = .ok (.iload_n 1, 1) := by decide +kernel
theorem dX4_leavesWanted_29 : decode cX4_leavesWanted 29 = .ok (.iadd, 1) := by decide +kernel
theorem dX4_leavesWanted_30 : decode cX4_leavesWanted 30 = .ok (.iaload, 1) := by decide +kernel
theorem dX4_leavesWanted_31 : decode cX4_leavesWanted 31 = .ok (.invokevirtual 89, 3) := by decide +kernel
theorem dX4_leavesWanted_34 : decode cX4_leavesWanted 34 = .ok (.istore_n 3, 1) := by decide +kernel
theorem dX4_leavesWanted_35 : decode cX4_leavesWanted 35 = .ok (.iload_n 3, 1) := by decide +kernel
theorem dX4_leavesWanted_36 : decode cX4_leavesWanted 36 = .ok (.sipush 10000, 3) := by decide +kernel
theorem dX4_leavesWanted_39 : decode cX4_leavesWanted 39 = .ok (.irem, 1) := by decide +kernel
theorem dX4_leavesWanted_40 : decode cX4_leavesWanted 40 = .ok (.aload_n 0, 1) := by decide +kernel
theorem dX4_leavesWanted_41 : decode cX4_leavesWanted 41 = .ok (.getfield 38, 3) := by decide +kernel
theorem dX4_leavesWanted_44 : decode cX4_leavesWanted 44 = .ok (.if_icmp .eq 5, 3) := by decide +kernel
theorem dX4_leavesWanted_47 : decode cX4_leavesWanted 47 = .ok (.iconst 0, 1) := by decide +kernel
theorem dX4_leavesWanted_48 : decode cX4_leavesWanted 48 = .ok (.ireturn, 1) := by decide +kernel
theorem dX4_leavesWanted_49 : decode cX4_leavesWanted 49 = .ok (.iinc 2 1, 3) := by decide +kernel
theorem dX4_leavesWanted_52 : decode cX4_leavesWanted 52 = .ok (.goto (-50), 3) := by decide +kernel
theorem dX4_leavesWanted_55 : decode cX4_leavesWanted 55 = .ok (.iconst 1, 1) := by decide +kernel
theorem dX4_leavesWanted_56 : decode cX4_leavesWanted 56 = .ok (.ireturn, 1) := by decide +kernel
theorem dX4_readBeginning_0 : decode cX4_readBeginning 0 = .ok (.iconst 0, 1) := by decide +kernel
theorem dX4_readBeginning_1 : decode cX4_readBeginning 1 = .ok (.istore_n 1, 1) := by decide +kernel
theorem dX4_readBeginning_2 : decode cX4_readBeginning 2 = .ok (.iload_n 1, 1) := by decide +kernel
theorem dX4_readBeginning_3 : decode cX4_readBeginning 3 = .ok (.aload_n 0, 1) := by decide +kernel
theorem dX4_readBeginning_4 : decode cX4_readBeginning 4 = .ok (.getfield 34, 3) := by decide +kernel
theorem dX4_readBeginning_7 : decode cX4_readBeginning 7 = .ok (.if_icmp .ge 70, 3) := by decide +kernel
theorem dX4_readBeginning_10 : decode cX4_readBeginning 10 = .ok (.aload_n 0, 1) := by decide +kernel
theorem dX4_readBeginning_11 : decode cX4_readBeginning 11 = .ok (.getfield 24, 3) := by decide +kernel
theorem dX4_readBeginning_14 : decode cX4_readBeginning 14 = .ok (.getfield 47, 3) := by decide +kernel
theorem dX4_readBeginning_17 : decode cX4_readBeginning 17 = .ok (.getfield 86, 3) := by decide +kernel
theorem dX4_readBeginning_20 : decode cX4_readBeginning 20 = .ok (.istore_n 2, 1) := by decide +kernel
theorem dX4_readBeginning_21 : decode cX4_readBeginning 21 = .ok (.iconst 0, 1) := by decide +kernel
theorem dX4_readBeginning_22 : decode cX4_readBeginning 22 = .ok (.istore_n 3, 1) := by decide +kernel
theorem dX4_readBeginning_23 : decode cX4_readBeginning 23 = .ok (.iload_n 3, 1) := by decide +kernel
theorem dX4_readBeginning_24 : decode cX4_readBeginning 24 = .ok (.aload_n 0, 1) := by decide +kernel
theorem dX4_readBeginning_25 : decode cX4_readBeginning 25 = .ok (.getfield 44, 3) := by decide +kernel
theorem dX4_readBeginning_28 : decode cX4_readBeginning 28 = .ok (.iconst 1, 1) := by decide +kernel
theorem dX4_readBeginning_29 : decode cX4_readBeginning 29 = .ok (.isub, 1) := by decide +kernel
theorem dX4_readBeginning_30 : decode cX4_readBeginning 30 = .ok (.if_icmp .ge 34, 3) := by decide +kernel
theorem dX4_readBeginning_33 : decode cX4_readBeginning 33 = .ok (.aload_n 0, 1) := by decide +kernel
theorem dX4_readBeginning_34 : decode cX4_readBeginning 34 = .ok (.getfield 24, 3) := by decide +kernel
theorem dX4_readBeginning_37 : decode cX4_readBeginning 37 = .ok (.iload_n 2, 1) := by decide +kernel
theorem dX4_readBeginning_38 : decode cX4_readBeginning 38 = .ok (.aload_n 0, 1) := by decide +kernel
theorem dX4_readBeginning_39 : decode cX4_readBeginning 39 = .ok (.getfield 11, 3) := by decide +kernel
theorem dX4_readBeginning_42 : decode cX4_readBeginning 42 = .ok (.iload_n 1, 1) := by decide +kernel
theorem dX4_readBeginning_43 : decode cX4_readBeginning 43 = .ok (.bipush 10, 2) := by decide +kernel
theorem dX4_readBeginning_45 : decode cX4_readBeginning 45 = .ok (.imul, 1) := by decide +kernel
theorem dX4_readBeginning_46 : decode cX4_readBeginning 46 = .ok (.aload_n 0, 1) := by decide +kernel
theorem dX4_readBeginning_47 : decode cX4_readBeginning 47 = .ok (.getfield 18, 3) := by decide +kernel
theorem dX4_readBeginning_50 : decode cX4_readBeginning 50 = .ok (.iload_n 3, 1) := by decide +kernel
theorem dX4_readBeginning_51 : decode cX4_readBeginning 51 = .ok (.iaload, 1) := by decide +kernel
theorem dX4_readBeginning_52 : decode cX4_readBeginning 52 = .ok (.iadd, 1) := by decide +kernel
theorem dX4_readBeginning_53 : decode cX4_readBeginning 53 = .ok (.iaload, 1) := by decide +kernel
theorem dX4_readBeginning_54 : decode cX4_readBeginning 54 = .ok (.invokevirtual 89, 3) := by decide +kernel
theorem dX4_readBeginning_57 : decode cX4_readBeginning 57 = .ok (.istore_n 2, 1) := by decide +kernel
theorem dX4_readBeginning_58 : decode cX4_readBeginning 58 = .ok (.iinc 3 1, 3) := by decide +kernel
theorem dX4_readBeginning_61 : decode cX4_readBeginning 61 = .ok (.goto (-38), 3) := by decide +kernel
theorem dX4_readBeginning_64 : decode cX4_readBeginning 64 = .ok (.aload_n 0, 1) := by decide +kernel
theorem dX4_readBeginning_65 : decode cX4_readBeginning 65 = .ok (.getfield 15, 3) := by decide +kernel
theorem dX4_readBeginning_68 : decode cX4_readBeginning 68 = .ok (.iload_n 1, 1) := by decide +kernel
theorem dX4_readBeginning_69 : decode cX4_readBeginning 69 = .ok (.iload_n 2, 1) := by decide +kernel
theorem dX4_readBeginning_70 : decode cX4_readBeginning 70 = .ok (.iastore, 1) := by decide +kernel
theorem dX4_readBeginning_71 : decode cX4_readBeginning 71 = .ok (.iinc 1 1, 3) := by decide +kernel
theorem dX4_readBeginning_74 : decode cX4_readBeginning 74 = .ok (.goto (-72), 3) := by decide +kernel
theorem dX4_readBeginning_77 : decode cX4_readBeginning 77 = .ok (.return_, 1) := by decide +kernel
theorem dX4_spell_0 : decode cX4_spell 0 = .ok (.iconst 1, 1) := by decide +kernel
theorem dX4_spell_1 : decode cX4_spell 1 = .ok (.aload_n 0, 1) := by decide +kernel
theorem dX4_spell_2 : decode cX4_spell 2 = .ok (.getfield 24, 3) := by decide +kernel
theorem dX4_spell_5 : decode cX4_spell 5 = .ok (.getfield 47, 3) := by decide +kernel
theorem dX4_spell_8 : decode cX4_spell 8 = .ok (.invokevirtual 65, 3) := by decide +kernel
theorem dX4_spell_11 : decode cX4_spell 11 = .ok (.invokestatic 83, 3) := by decide +kernel
theorem dX4_spell_14 : decode cX4_spell 14 = .ok (.istore_n 2, 1) := by decide +kernel
theorem dX4_spell_15 : decode cX4_spell 15 = .ok (.iload_n 1, 1) := by decide +kernel
theorem dX4_spell_16 : decode cX4_spell 16 = .ok (.istore_n 3, 1) := by decide +kernel
theorem dX4_spell_17 : decode cX4_spell 17 = .ok (.aload_n 0, 1) := by decide +kernel
theorem dX4_spell_18 : decode cX4_spell 18 = .ok (.getfield 44, 3) := by decide +kernel
theorem dX4_spell_21 : decode cX4_spell 21 = .ok (.iconst 2, 1) := by decide +kernel
theorem dX4_spell_22 : decode cX4_spell 22 = .ok (.isub, 1) := by decide +kernel
theorem dX4_spell_23 : decode cX4_spell 23 = .ok (.istore 4, 2) := by decide +kernel
theorem dX4_spell_25 : decode cX4_spell 25 = .ok (.iload 4, 2) := by decide +kernel
theorem dX4_spell_27 : decode cX4_spell 27 = .ok (.ifCond .lt 23, 3) := by decide +kernel
theorem dX4_spell_30 : decode cX4_spell 30 = .ok (.aload_n 0, 1) := by decide +kernel
theorem dX4_spell_31 : decode cX4_spell 31 = .ok (.getfield 18, 3) := by decide +kernel
theorem dX4_spell_34 : decode cX4_spell 34 = .ok (.iload 4, 2) := by decide +kernel
theorem dX4_spell_36 : decode cX4_spell 36 = .ok (.iload_n 3, 1) := by decide +kernel
theorem dX4_spell_37 : decode cX4_spell 37 = .ok (.iload_n 2, 1) := by decide +kernel
theorem dX4_spell_38 : decode cX4_spell 38 = .ok (.irem, 1) := by decide +kernel
theorem dX4_spell_39 : decode cX4_spell 39 = .ok (.iastore, 1) := by decide +kernel
theorem dX4_spell_40 : decode cX4_spell 40 = .ok (.iload_n 3, 1) := by decide +kernel
theorem dX4_spell_41 : decode cX4_spell 41 = .ok (.iload_n 2, 1) := by decide +kernel
theorem dX4_spell_42 : decode cX4_spell 42 = .ok (.idiv, 1) := by decide +kernel
theorem dX4_spell_43 : decode cX4_spell 43 = .ok (.istore_n 3, 1) := by decide +kernel
theorem dX4_spell_44 : decode cX4_spell 44 = .ok (.iinc 4 (-1), 3) := by decide +kernel
theorem dX4_spell_47 : decode cX4_spell 47 = .ok (.goto (-22), 3) := by decide +kernel
theorem dX4_spell_50 : decode cX4_spell 50 = .ok (.return_, 1) := by decide +kernel
theorem dX8_mostAlike_0 : decode cX8_mostAlike 0 = .ok (.iconst 0, 1) := by decide +kernel
theorem dX8_mostAlike_1 : decode cX8_mostAlike 1 = .ok (.istore_n 1, 1) := by decide +kernel
theorem dX8_mostAlike_2 : decode cX8_mostAlike 2 = .ok (.iconst 0, 1) := by decide +kernel
theorem dX8_mostAlike_3 : decode cX8_mostAlike 3 = .ok (.istore_n 2, 1) := by decide +kernel
theorem dX8_mostAlike_4 : decode cX8_mostAlike 4 = .ok (.iload_n 2, 1) := by decide +kernel
theorem dX8_mostAlike_5 : decode cX8_mostAlike 5 = .ok (.aload_n 0, 1) := by decide +kernel
theorem dX8_mostAlike_6 : decode cX8_mostAlike 6 = .ok (.getfield 15, 3) := by decide +kernel
theorem dX8_mostAlike_9 : decode cX8_mostAlike 9 = .ok (.if_icmp .ge 19, 3) := by decide +kernel
theorem dX8_mostAlike_12 : decode cX8_mostAlike 12 = .ok (.iload_n 1, 1) := by decide +kernel
theorem dX8_mostAlike_13 : decode cX8_mostAlike 13 = .ok (.aload_n 0, 1) := by decide +kernel
theorem dX8_mostAlike_14 : decode cX8_mostAlike 14 = .ok (.iload_n 2, 1) := by decide +kernel
theorem dX8_mostAlike_15 : decode cX8_mostAlike 15 = .ok (.invokevirtual 19, 3) := by decide +kernel
theorem dX8_mostAlike_18 : decode cX8_mostAlike 18 = .ok (.invokestatic 23, 3) := by decide +kernel
theorem dX8_mostAlike_21 : decode cX8_mostAlike 21 = .ok (.istore_n 1, 1) := by decide +kernel
theorem dX8_mostAlike_22 : decode cX8_mostAlike 22 = .ok (.iinc 2 1, 3) := by decide +kernel
theorem dX8_mostAlike_25 : decode cX8_mostAlike 25 = .ok (.goto (-21), 3) := by decide +kernel
theorem dX8_mostAlike_28 : decode cX8_mostAlike 28 = .ok (.iload_n 1, 1) := by decide +kernel
theorem dX8_mostAlike_29 : decode cX8_mostAlike 29 = .ok (.ireturn, 1) := by decide +kernel
theorem hd_X3_leftAtWorst : yX3_leftAtWorst.cls = RX3 ∧ yX3_leftAtWorst.cls ≠ "java/lang/invoke/MethodHandle" ∧ yX3_leftAtWorst.cls ≠ "java/lang/invoke/VarHandle" ∧ (parseMethodDescriptor yX3_leftAtWorst.desc).map (fun d => d.parameters.length) = some 2 := by decide +kernel
theorem hd_X3_question : yX3_question.cls = RX3 ∧ yX3_question.cls ≠ "java/lang/invoke/MethodHandle" ∧ yX3_question.cls ≠ "java/lang/invoke/VarHandle" ∧ (parseMethodDescriptor yX3_question.desc).map (fun d => d.parameters.length) = some 1 := by decide +kernel
theorem hd_X8_mostAlike : yX8_mostAlike.cls = RX8 ∧ yX8_mostAlike.cls ≠ "java/lang/invoke/MethodHandle" ∧ yX8_mostAlike.cls ≠ "java/lang/invoke/VarHandle" ∧ (parseMethodDescriptor yX8_mostAlike.desc).map (fun d => d.parameters.length) = some 0 := by decide +kernel
set_option maxHeartbeats 4000000 in
set_option maxRecDepth 100000 in
theorem K448_X8_mostAlike (l : Launch) (G : va_G) (cy : Nat → ClassId) (sz : Nat) (a_0 : Nat) (a_1 : Nat) (i_0 : Int32) (f_0 : Nat → Int32) (h0 : mm_rg i_0 0 210)  : mm_CI l yX8_mostAlike (mm_ws yX8_mostAlike cX8_mostAlike 3 (some .int)) ({ frames := 1, cells := 0, slots := 0, locals := 40 } : Room) G cy sz [(a_0, .inr (8, [.ref a_1, .int i_0])), (a_1, .inl (cy 1, 210, .inl f_0))] [.ref a_0] (fun u : Unit => [(a_0, .inr (8, [.ref a_1, .int i_0])), (a_1, .inl (cy 1, 210, .inl f_0))]) (fun (r : Int32) (u : Unit) => mm_rg r 0 2147483647) 0 0 := by
  refine mm_begin (lv := [(0, .ref a_0)]) (by decide) (Nat.le_of_ble_eq_true rfl) rfl ?_
  intro p e s m below meth c A ls R args Q H locs hRe hQ hAe hx hb hr hlocks hml hown hnm hts hsz hA hS hP hK hD hZ hl
  have hRf : R.frames = 1 := by rw [hRe]
  have hRl : R.locals = 40 := by rw [hRe]
  have hRc : R.cells = 0 := by rw [hRe]
  have hRs : R.slots = 0 := by rw [hRe]
  refine lv_iconst (v := 0) hx hb dX8_mostAlike_0 (by decide) ?_
  refine lv_istore_n (lv' := [(1, .int 0), (0, .ref a_0)]) hx hb dX8_mostAlike_1 rfl hl (by decide) rfl ?_
  clear hl
  clear ls
  intro ls hl
  refine lv_iconst (v := 0) hx hb dX8_mostAlike_2 (by decide) ?_
  refine lv_istore_n (lv' := [(2, .int 0), (1, .int 0), (0, .ref a_0)]) hx hb dX8_mostAlike_3 rfl hl (by decide) rfl ?_
  clear hl
  clear ls
  intro ls hl
  have L4_97 : ∀ (n : Nat) (x4_2_96 : Int32) (x4_1_97 : Int32), mm_rg x4_2_96 0 210 → mm_rg x4_1_97 0 2147483647 → (210 - x4_2_96.toInt).toNat < n → ∀ (H : Heap) (locs : List Loc), va_P G vwCl [(a_0, .inr (8, [.ref a_1, .int i_0])), (a_1, .inl (cy 1, 210, .inl f_0))] H → va_D A [(a_0, .inr (8, [.ref a_1, .int i_0])), (a_1, .inl (cy 1, 210, .inl f_0))] → va_S A s.heap H locs → ∀ (ls : Array Slot), lv_has ls 3 [(2, .int x4_2_96), (1, .int x4_1_97), (0, .ref a_0)] → W p l e R s m args below meth c H locs 0 0 Q (F0 m 4 ls []) := by
    intro n
    induction n with
    | zero => intro x4_2_96 x4_1_97 rx4_2_96 rx4_1_97 hm; exact absurd hm (Nat.not_lt_zero _)
    | succ n ih4 =>
      intro x4_2_96 x4_1_97 rx4_2_96 rx4_1_97 hm4 H locs hP hD hS ls hl
      refine lv_iload_n hx hb dX8_mostAlike_4 rfl (lv_at hl 0 rfl) ?_
      refine lv_aload_n hx hb dX8_mostAlike_5 rfl (lv_at hl 2 rfl) ?_
      refine va_get (D := G) (ci := 8) (v := .int i_0) (C := RX8) (T := TX8) (N := 2) hx hb hts (mm_i inlX8) hown hK.1 hP 0 rfl rfl 1 (by decide) (mm_h hts mm_w963) (fun _ h9 => h9) rfl dX8_mostAlike_6 ?_
      refine lv_icmp_ge (tgt := 28) hx hb dX8_mostAlike_9 (by decide) (fun c99 => ?_) (fun c99 => ?_)
      · refine lv_iload_n hx hb dX8_mostAlike_28 rfl (lv_at hl 1 rfl) ?_
        subst hAe
        rw [hQ]
        exact W.iret (v := x4_1_97) hx hb hr (fun t ht hW => ⟨⟨x4_1_97, (), rfl, rx4_1_97, by rw [ht]; exact hP, hK.warm hW, hD⟩, hS.F ht⟩) hS.2.2 dX8_mostAlike_29
      · have q100 := mm_ltL (h := 209) (mm_nle c99) rx4_2_96 h0 (by decide)
        have q101 := mm_ltR (lo := 1) (mm_nle c99) rx4_2_96 h0 (by decide)
        refine lv_iload_n hx hb dX8_mostAlike_12 rfl (lv_at hl 1 rfl) ?_
        refine lv_aload_n hx hb dX8_mostAlike_13 rfl (lv_at hl 2 rfl) ?_
        refine lv_iload_n hx hb dX8_mostAlike_14 rfl (lv_at hl 0 rfl) ?_
        refine mm_finir (va_runV (As := [.int x4_2_96]) (rest := [.int x4_1_97]) ⟨hx, hb, hml, hown, hts⟩ (K403_X8_alikeFrom l G cy H.size a_0 x4_2_96 a_1 i_0 f_0 q100 (mm_wk q101 (by decide))) (cwV 1 hts (mm_gV mm_w972 mm_w973 mm_w974 mm_w37 mm_w975) rfl rfl rfl hd_X8_alikeFrom ⟨by rw [hRf]; exact Nat.le_of_ble_eq_true rfl, by rw [hRl]; exact Nat.le_of_ble_eq_true rfl⟩) (mm_preV hK hZ hS hA hP hD [0, 1] rfl rfl 0 rfl rfl rfl) rfl rfl hl.1 rfl (lv_room (Nat.le_of_ble_eq_true rfl)) dX8_mostAlike_15 ⟨by rw [hRc]; exact Nat.le_of_ble_eq_true rfl, by rw [hRs]; exact Nat.le_of_ble_eq_true rfl⟩) hP hD hS hA [0, 1] rfl (fun _ => rfl) ?_
        clear hP hD hS
        clear H locs
        intro v102 _u H locs hw hP hD hS
        refine va_mmax hx hb (by rw [hml]; exact hl.1.symm) hown (mm_h hts mm_w1311) (mm_h hts mm_w345) (mm_h hts mm_w346) (mm_h hts mm_w347) (by rw [hRf]; exact Nat.le_of_ble_eq_true rfl) (by rw [hRl]; exact Nat.le_of_ble_eq_true rfl) (by rw [hRc]; exact Nat.le_of_ble_eq_true rfl) (by rw [hRs]; exact Nat.le_of_ble_eq_true rfl) dX8_mostAlike_18 ?_
        refine lv_topi (fun v103 ev103 => ?_)
        have rv103 : mm_rg v103 0 2147483647 := mm_max ev103 rx4_1_97 (mm_top v102) (by decide)
        refine lv_istore_n (lv' := [(1, .int v103), (2, .int x4_2_96), (0, .ref a_0)]) hx hb dX8_mostAlike_21 rfl hl (by decide) rfl ?_
        clear hl
        clear ls
        intro ls hl
        obtain ⟨v104, ev104⟩ : ∃ y : Int32, y = x4_2_96 + 1 := ⟨_, rfl⟩
        refine lv_iinc (v := v104) (lv' := [(2, .int v104), (1, .int v103), (0, .ref a_0)]) hx hb dX8_mostAlike_22 hl (k := 1) rfl (by rw [ev104]; rfl) (by decide) rfl ?_
        clear hl
        clear ls
        intro ls hl
        have rv104 : mm_rg v104 1 210 := mm_add ev104 q100 mm_k1 (by decide) (by decide)
        have tv104 := mm_addEc ev104 q100 mm_k1 (by decide) (k := 1) (by decide)
        refine lv_goto (tgt := 4) hx hb dX8_mostAlike_25 (by decide) ?_
        exact ih4 v104 v103 (mm_wk rv104 (by decide)) rv103 (mm_mu hm4 tv104 (by decide) (rv104).2 (by decide)) H locs hP hD hS ls (lv_sub hl [0, 1, 2] rfl)
  exact L4_97 _ 0 0 (mm_wk mm_k0 (by decide)) (mm_wk mm_k0 (by decide)) (Nat.lt_succ_self _) H locs hP hD hS ls (lv_sub hl [0, 1, 2] rfl)

set_option maxHeartbeats 4000000 in
set_option maxRecDepth 100000 in
theorem K449_X3_leftAtWorst (l : Launch) (G : va_G) (cy : Nat → ClassId) (sz : Nat) (a_0 : Nat) (i_0 : Int32) (i_1 : Int32) (a_1 : Nat) (a_2 : Nat) (a_3 : Nat) (i_2 : Int32) (i_3 : Int32) (i_4 : Int32) (i_5 : Int32) (i_6 : Int32) (i_7 : Int32) (i_8 : Int32) (i_9 : Int32) (a_4 : Nat) (a_5 : Nat) (a_6 : Nat) (a_7 : Nat) (a_8 : Nat) (a_9 : Nat) (a_10 : Nat) (a_11 : Nat) (a_12 : Nat) (a_13 : Nat) (f_0 : Nat → Int32) (f_1 : Nat → Int32) (f_2 : Nat → Int32) (f_3 : Nat → Int32) (f_4 : Nat → Int32) (a_14 : Nat) (a_15 : Nat) (a_16 : Nat) (a_17 : Nat) (a_18 : Nat) (i_10 : Int32) (i_11 : Int32) (i_12 : Int32) (f_5 : Nat → Int32) (a_19 : Nat) (a_20 : Nat) (i_13 : Int32) (i_14 : Int32) (i_15 : Int32) (f_6 : Nat → Int32) (a_21 : Nat) (a_22 : Nat) (i_16 : Int32) (i_17 : Int32) (i_18 : Int32) (f_7 : Nat → Int32) (a_23 : Nat) (a_24 : Nat) (i_19 : Int32) (f_8 : Nat → Int32) (a_25 : Nat) (i_20 : Int32) (f_9 : Nat → Int32) (h0 : mm_rg i_0 0 2) (h1 : mm_rg i_1 0 5) (h2 : mm_rg i_5 0 99) (h3 : mm_rg i_6 0 9) (h4 : mm_ar f_0 (-1) 4) (h5 : mm_ar f_1 0 99) (h6 : mm_ar f_2 0 8) (h7 : mm_ar f_3 0 9) (h8 : mm_ar f_4 0 9) (h9 : mm_rg i_12 (-2147483648) 210) (h10 : mm_ar f_5 0 9) (h11 : mm_rg i_15 (-2147483648) 210) (h12 : mm_ar f_6 0 9) (h13 : mm_rg i_18 (-2147483648) 210) (h14 : mm_ar f_7 0 9) (h15 : mm_rg i_19 0 210) (h16 : mm_rg i_20 0 210) (h17 : mm_ar f_9 0 209)  : mm_CI l yX3_leftAtWorst (mm_ws yX3_leftAtWorst cX3_leftAtWorst 4 (some .int)) ({ frames := 4, cells := 0, slots := 0, locals := 111 } : Room) G cy sz [(a_1, .inr (10, [.ref a_2, .ref a_3])), (a_2, .inr (0, [.int i_2, .int i_3, .int i_4, .int i_5, .int i_6, .int i_7, .int i_8, .int i_9, .ref a_4, .ref a_5, .ref a_6, .ref a_7, .ref a_8, .ref a_9, .ref a_10, .ref a_11, .ref a_12, .ref a_13])), (a_4, .inl (cy 1, 9, .inl f_0)), (a_5, .inl (cy 1, 9, .inl f_1)), (a_8, .inl (cy 1, 6, .inl f_2)), (a_9, .inl (cy 1, 48, .inl f_3)), (a_10, .inl (cy 1, 30, .inl f_4)), (a_3, .inl (cy 5, 3, .inr (.inr (.inr (.inr (va_up (va_up (va_up (fun _ => none) 0 (some a_14)) 1 (some a_15)) 2 (some a_16))))))), (a_14, .inr (1, [.ref a_17, .ref a_18, .int i_10, .int i_11, .int i_12])), (a_17, .inl (cy 1, 2100, .inl f_5)), (a_15, .inr (1, [.ref a_19, .ref a_20, .int i_13, .int i_14, .int i_15])), (a_19, .inl (cy 1, 2100, .inl f_6)), (a_16, .inr (1, [.ref a_21, .ref a_22, .int i_16, .int i_17, .int i_18])), (a_21, .inl (cy 1, 2100, .inl f_7)), (a_23, .inr (8, [.ref a_24, .int i_19])), (a_24, .inl (cy 1, 210, .inl f_8)), (a_0, .inr (3, [.ref a_1, .ref a_23, .ref a_25, .int i_20])), (a_25, .inl (cy 1, 210, .inl f_9))] [.ref a_0, .int i_0, .int i_1] (fun u : Int32 × (Nat → Int32) => [(a_1, .inr (10, [.ref a_2, .ref a_3])), (a_2, .inr (0, [.int i_2, .int i_3, .int i_4, .int i_5, .int i_6, .int i_7, .int i_8, .int i_9, .ref a_4, .ref a_5, .ref a_6, .ref a_7, .ref a_8, .ref a_9, .ref a_10, .ref a_11, .ref a_12, .ref a_13])), (a_4, .inl (cy 1, 9, .inl f_0)), (a_5, .inl (cy 1, 9, .inl f_1)), (a_8, .inl (cy 1, 6, .inl f_2)), (a_9, .inl (cy 1, 48, .inl f_3)), (a_10, .inl (cy 1, 30, .inl f_4)), (a_3, .inl (cy 5, 3, .inr (.inr (.inr (.inr (va_up (va_up (va_up (fun _ => none) 0 (some a_14)) 1 (some a_15)) 2 (some a_16))))))), (a_14, .inr (1, [.ref a_17, .ref a_18, .int i_10, .int i_11, .int i_12])), (a_17, .inl (cy 1, 2100, .inl f_5)), (a_15, .inr (1, [.ref a_19, .ref a_20, .int i_13, .int i_14, .int i_15])), (a_19, .inl (cy 1, 2100, .inl f_6)), (a_16, .inr (1, [.ref a_21, .ref a_22, .int i_16, .int i_17, .int i_18])), (a_21, .inl (cy 1, 2100, .inl f_7)), (a_23, .inr (8, [.ref a_24, .int u.1])), (a_24, .inl (cy 1, 210, .inl u.2)), (a_0, .inr (3, [.ref a_1, .ref a_23, .ref a_25, .int i_20])), (a_25, .inl (cy 1, 210, .inl f_9))]) (fun (r : Int32) (u : Int32 × (Nat → Int32)) => mm_rg u.1 0 210 ∧ mm_rg r 0 2147483647) 0 0 := by
  refine mm_begin (lv := [(0, .ref a_0), (1, .int i_0), (2, .int i_1)]) (by decide) (Nat.le_of_ble_eq_true rfl) rfl ?_
  intro p e s m below meth c A ls R args Q H locs hRe hQ hAe hx hb hr hlocks hml hown hnm hts hsz hA hS hP hK hD hZ hl
  have hRf : R.frames = 4 := by rw [hRe]
  have hRl : R.locals = 111 := by rw [hRe]
  have hRc : R.cells = 0 := by rw [hRe]
  have hRs : R.slots = 0 := by rw [hRe]
  refine lv_aload_n hx hb dX3_leftAtWorst_0 rfl (lv_at hl 0 rfl) ?_
  refine va_get (D := G) (ci := 3) (v := .ref a_23) (C := RX3) (T := TX3) (N := 4) hx hb hts (mm_i inlX3) hown hK.1 hP 16 rfl rfl 1 (by decide) (mm_h hts mm_w115) (fun _ h9 => h9) rfl dX3_leftAtWorst_1 ?_
  refine mm_finv (va_runV (As := []) (rest := []) ⟨hx, hb, hml, hown, hts⟩ (K389_X8_empty l G cy H.size a_23 a_24 i_19 h15) (cwV 0 hts (mm_gV mm_w1305 mm_w960 mm_w961 mm_w37 mm_w962) rfl rfl rfl hd_X8_empty ⟨by rw [hRf]; exact Nat.le_of_ble_eq_true rfl, by rw [hRl]; exact Nat.le_of_ble_eq_true rfl⟩) (mm_preV hK hZ hS hA hP hD [14] rfl rfl 14 rfl rfl rfl) rfl rfl hl.1 rfl (lv_room (Nat.le_of_ble_eq_true rfl)) dX3_leftAtWorst_4 ⟨by rw [hRc]; exact Nat.le_of_ble_eq_true rfl, by rw [hRs]; exact Nat.le_of_ble_eq_true rfl⟩) hP hD hS hA (fun u : Unit => [(a_1, .inr (10, [.ref a_2, .ref a_3])), (a_2, .inr (0, [.int i_2, .int i_3, .int i_4, .int i_5, .int i_6, .int i_7, .int i_8, .int i_9, .ref a_4, .ref a_5, .ref a_6, .ref a_7, .ref a_8, .ref a_9, .ref a_10, .ref a_11, .ref a_12, .ref a_13])), (a_4, .inl (cy 1, 9, .inl f_0)), (a_5, .inl (cy 1, 9, .inl f_1)), (a_8, .inl (cy 1, 6, .inl f_2)), (a_9, .inl (cy 1, 48, .inl f_3)), (a_10, .inl (cy 1, 30, .inl f_4)), (a_3, .inl (cy 5, 3, .inr (.inr (.inr (.inr (va_up (va_up (va_up (fun _ => none) 0 (some a_14)) 1 (some a_15)) 2 (some a_16))))))), (a_14, .inr (1, [.ref a_17, .ref a_18, .int i_10, .int i_11, .int i_12])), (a_17, .inl (cy 1, 2100, .inl f_5)), (a_15, .inr (1, [.ref a_19, .ref a_20, .int i_13, .int i_14, .int i_15])), (a_19, .inl (cy 1, 2100, .inl f_6)), (a_16, .inr (1, [.ref a_21, .ref a_22, .int i_16, .int i_17, .int i_18])), (a_21, .inl (cy 1, 2100, .inl f_7)), (a_23, .inr (8, [.ref a_24, .int 0])), (a_24, .inl (cy 1, 210, .inl f_8)), (a_0, .inr (3, [.ref a_1, .ref a_23, .ref a_25, .int i_20])), (a_25, .inl (cy 1, 210, .inl f_9))]) [14] [0, 1, 2, 3, 4, 5, 6, 7, 8, 9, 10, 11, 12, 13, 15, 16, 17] (n := 18) (fun _ => rfl) (by decide +kernel) (by decide +kernel) rfl (fun _ => rfl) (wr := [(a_1, .inr (10, [.ref a_2, .ref a_3])), (a_2, .inr (0, [.int i_2, .int i_3, .int i_4, .int i_5, .int i_6, .int i_7, .int i_8, .int i_9, .ref a_4, .ref a_5, .ref a_6, .ref a_7, .ref a_8, .ref a_9, .ref a_10, .ref a_11, .ref a_12, .ref a_13])), (a_4, .inl (cy 1, 9, .inl f_0)), (a_5, .inl (cy 1, 9, .inl f_1)), (a_8, .inl (cy 1, 6, .inl f_2)), (a_9, .inl (cy 1, 48, .inl f_3)), (a_10, .inl (cy 1, 30, .inl f_4)), (a_3, .inl (cy 5, 3, .inr (.inr (.inr (.inr (va_up (va_up (va_up (fun _ => none) 0 (some a_14)) 1 (some a_15)) 2 (some a_16))))))), (a_14, .inr (1, [.ref a_17, .ref a_18, .int i_10, .int i_11, .int i_12])), (a_17, .inl (cy 1, 2100, .inl f_5)), (a_15, .inr (1, [.ref a_19, .ref a_20, .int i_13, .int i_14, .int i_15])), (a_19, .inl (cy 1, 2100, .inl f_6)), (a_16, .inr (1, [.ref a_21, .ref a_22, .int i_16, .int i_17, .int i_18])), (a_21, .inl (cy 1, 2100, .inl f_7)), (a_24, .inl (cy 1, 210, .inl f_8)), (a_0, .inr (3, [.ref a_1, .ref a_23, .ref a_25, .int i_20])), (a_25, .inl (cy 1, 210, .inl f_9))]) rfl (fun _ => rfl) (fun _ => rfl) ?_
  clear hP hD hS
  clear H locs
  intro _u H locs hw (hP : va_P G vwCl [(a_1, .inr (10, [.ref a_2, .ref a_3])), (a_2, .inr (0, [.int i_2, .int i_3, .int i_4, .int i_5, .int i_6, .int i_7, .int i_8, .int i_9, .ref a_4, .ref a_5, .ref a_6, .ref a_7, .ref a_8, .ref a_9, .ref a_10, .ref a_11, .ref a_12, .ref a_13])), (a_4, .inl (cy 1, 9, .inl f_0)), (a_5, .inl (cy 1, 9, .inl f_1)), (a_8, .inl (cy 1, 6, .inl f_2)), (a_9, .inl (cy 1, 48, .inl f_3)), (a_10, .inl (cy 1, 30, .inl f_4)), (a_3, .inl (cy 5, 3, .inr (.inr (.inr (.inr (va_up (va_up (va_up (fun _ => none) 0 (some a_14)) 1 (some a_15)) 2 (some a_16))))))), (a_14, .inr (1, [.ref a_17, .ref a_18, .int i_10, .int i_11, .int i_12])), (a_17, .inl (cy 1, 2100, .inl f_5)), (a_15, .inr (1, [.ref a_19, .ref a_20, .int i_13, .int i_14, .int i_15])), (a_19, .inl (cy 1, 2100, .inl f_6)), (a_16, .inr (1, [.ref a_21, .ref a_22, .int i_16, .int i_17, .int i_18])), (a_21, .inl (cy 1, 2100, .inl f_7)), (a_23, .inr (8, [.ref a_24, .int 0])), (a_24, .inl (cy 1, 210, .inl f_8)), (a_0, .inr (3, [.ref a_1, .ref a_23, .ref a_25, .int i_20])), (a_25, .inl (cy 1, 210, .inl f_9))] H) (hD : va_D A [(a_1, .inr (10, [.ref a_2, .ref a_3])), (a_2, .inr (0, [.int i_2, .int i_3, .int i_4, .int i_5, .int i_6, .int i_7, .int i_8, .int i_9, .ref a_4, .ref a_5, .ref a_6, .ref a_7, .ref a_8, .ref a_9, .ref a_10, .ref a_11, .ref a_12, .ref a_13])), (a_4, .inl (cy 1, 9, .inl f_0)), (a_5, .inl (cy 1, 9, .inl f_1)), (a_8, .inl (cy 1, 6, .inl f_2)), (a_9, .inl (cy 1, 48, .inl f_3)), (a_10, .inl (cy 1, 30, .inl f_4)), (a_3, .inl (cy 5, 3, .inr (.inr (.inr (.inr (va_up (va_up (va_up (fun _ => none) 0 (some a_14)) 1 (some a_15)) 2 (some a_16))))))), (a_14, .inr (1, [.ref a_17, .ref a_18, .int i_10, .int i_11, .int i_12])), (a_17, .inl (cy 1, 2100, .inl f_5)), (a_15, .inr (1, [.ref a_19, .ref a_20, .int i_13, .int i_14, .int i_15])), (a_19, .inl (cy 1, 2100, .inl f_6)), (a_16, .inr (1, [.ref a_21, .ref a_22, .int i_16, .int i_17, .int i_18])), (a_21, .inl (cy 1, 2100, .inl f_7)), (a_23, .inr (8, [.ref a_24, .int 0])), (a_24, .inl (cy 1, 210, .inl f_8)), (a_0, .inr (3, [.ref a_1, .ref a_23, .ref a_25, .int i_20])), (a_25, .inl (cy 1, 210, .inl f_9))]) hS
  refine lv_iconst (v := 0) hx hb dX3_leftAtWorst_7 (by decide) ?_
  refine lv_istore_n (lv' := [(3, .int 0), (0, .ref a_0), (1, .int i_0), (2, .int i_1)]) hx hb dX3_leftAtWorst_8 rfl hl (by decide) rfl ?_
  clear hl
  clear ls
  intro ls hl
  have L9_178 : ∀ (n : Nat) (x9_3_176 : Int32) (y9_14_1_177 : Int32) (z9_15_178 : Nat → Int32), mm_rg x9_3_176 0 210 → mm_rg y9_14_1_177 0 210 → (210 - x9_3_176.toInt).toNat < n → ∀ (H : Heap) (locs : List Loc), va_P G vwCl [(a_1, .inr (10, [.ref a_2, .ref a_3])), (a_2, .inr (0, [.int i_2, .int i_3, .int i_4, .int i_5, .int i_6, .int i_7, .int i_8, .int i_9, .ref a_4, .ref a_5, .ref a_6, .ref a_7, .ref a_8, .ref a_9, .ref a_10, .ref a_11, .ref a_12, .ref a_13])), (a_4, .inl (cy 1, 9, .inl f_0)), (a_5, .inl (cy 1, 9, .inl f_1)), (a_8, .inl (cy 1, 6, .inl f_2)), (a_9, .inl (cy 1, 48, .inl f_3)), (a_10, .inl (cy 1, 30, .inl f_4)), (a_3, .inl (cy 5, 3, .inr (.inr (.inr (.inr (va_up (va_up (va_up (fun _ => none) 0 (some a_14)) 1 (some a_15)) 2 (some a_16))))))), (a_14, .inr (1, [.ref a_17, .ref a_18, .int i_10, .int i_11, .int i_12])), (a_17, .inl (cy 1, 2100, .inl f_5)), (a_15, .inr (1, [.ref a_19, .ref a_20, .int i_13, .int i_14, .int i_15])), (a_19, .inl (cy 1, 2100, .inl f_6)), (a_16, .inr (1, [.ref a_21, .ref a_22, .int i_16, .int i_17, .int i_18])), (a_21, .inl (cy 1, 2100, .inl f_7)), (a_23, .inr (8, [.ref a_24, .int y9_14_1_177])), (a_24, .inl (cy 1, 210, .inl z9_15_178)), (a_0, .inr (3, [.ref a_1, .ref a_23, .ref a_25, .int i_20])), (a_25, .inl (cy 1, 210, .inl f_9))] H → va_D A [(a_1, .inr (10, [.ref a_2, .ref a_3])), (a_2, .inr (0, [.int i_2, .int i_3, .int i_4, .int i_5, .int i_6, .int i_7, .int i_8, .int i_9, .ref a_4, .ref a_5, .ref a_6, .ref a_7, .ref a_8, .ref a_9, .ref a_10, .ref a_11, .ref a_12, .ref a_13])), (a_4, .inl (cy 1, 9, .inl f_0)), (a_5, .inl (cy 1, 9, .inl f_1)), (a_8, .inl (cy 1, 6, .inl f_2)), (a_9, .inl (cy 1, 48, .inl f_3)), (a_10, .inl (cy 1, 30, .inl f_4)), (a_3, .inl (cy 5, 3, .inr (.inr (.inr (.inr (va_up (va_up (va_up (fun _ => none) 0 (some a_14)) 1 (some a_15)) 2 (some a_16))))))), (a_14, .inr (1, [.ref a_17, .ref a_18, .int i_10, .int i_11, .int i_12])), (a_17, .inl (cy 1, 2100, .inl f_5)), (a_15, .inr (1, [.ref a_19, .ref a_20, .int i_13, .int i_14, .int i_15])), (a_19, .inl (cy 1, 2100, .inl f_6)), (a_16, .inr (1, [.ref a_21, .ref a_22, .int i_16, .int i_17, .int i_18])), (a_21, .inl (cy 1, 2100, .inl f_7)), (a_23, .inr (8, [.ref a_24, .int y9_14_1_177])), (a_24, .inl (cy 1, 210, .inl z9_15_178)), (a_0, .inr (3, [.ref a_1, .ref a_23, .ref a_25, .int i_20])), (a_25, .inl (cy 1, 210, .inl f_9))] → va_S A s.heap H locs → ∀ (ls : Array Slot), lv_has ls 4 [(3, .int x9_3_176), (0, .ref a_0), (1, .int i_0), (2, .int i_1)] → W p l e R s m args below meth c H locs 0 0 Q (F0 m 9 ls []) := by
    intro n
    induction n with
    | zero => intro x9_3_176 y9_14_1_177 z9_15_178 rx9_3_176 ry9_14_1_177 hm; exact absurd hm (Nat.not_lt_zero _)
    | succ n ih9 =>
      intro x9_3_176 y9_14_1_177 z9_15_178 rx9_3_176 ry9_14_1_177 hm9 H locs hP hD hS ls hl
      refine lv_iload_n hx hb dX3_leftAtWorst_9 rfl (lv_at hl 0 rfl) ?_
      refine lv_aload_n hx hb dX3_leftAtWorst_10 rfl (lv_at hl 1 rfl) ?_
      refine va_get (D := G) (ci := 3) (v := .int i_20) (C := RX3) (T := TX3) (N := 4) hx hb hts (mm_i inlX3) hown hK.1 hP 16 rfl rfl 3 (by decide) (mm_h hts mm_w1253) (fun _ h9 => h9) rfl dX3_leftAtWorst_11 ?_
      refine lv_icmp_ge (tgt := 45) hx hb dX3_leftAtWorst_14 (by decide) (fun c180 => ?_) (fun c180 => ?_)
      · refine lv_aload_n hx hb dX3_leftAtWorst_45 rfl (lv_at hl 1 rfl) ?_
        refine va_get (D := G) (ci := 3) (v := .ref a_23) (C := RX3) (T := TX3) (N := 4) hx hb hts (mm_i inlX3) hown hK.1 hP 16 rfl rfl 1 (by decide) (mm_h hts mm_w115) (fun _ h9 => h9) rfl dX3_leftAtWorst_46 ?_
        refine mm_finir (va_runV (As := []) (rest := []) ⟨hx, hb, hml, hown, hts⟩ (K448_X8_mostAlike l G cy H.size a_23 a_24 y9_14_1_177 z9_15_178 ry9_14_1_177) (cwV 0 hts (mm_gV mm_w1307 mm_w1308 mm_w1309 mm_w37 mm_w1310) rfl rfl rfl hd_X8_mostAlike ⟨by rw [hRf]; exact Nat.le_of_ble_eq_true rfl, by rw [hRl]; exact Nat.le_of_ble_eq_true rfl⟩) (mm_preV hK hZ hS hA hP hD [14, 15] rfl rfl 14 rfl rfl rfl) rfl rfl hl.1 rfl (lv_room (Nat.le_of_ble_eq_true rfl)) dX3_leftAtWorst_49 ⟨by rw [hRc]; exact Nat.le_of_ble_eq_true rfl, by rw [hRs]; exact Nat.le_of_ble_eq_true rfl⟩) hP hD hS hA [14, 15] rfl (fun _ => rfl) ?_
        clear hP hD hS
        clear H locs
        intro v181 _u H locs hw hP hD hS
        have w182 := hw
        subst hAe
        rw [hQ]
        exact W.iret (v := v181) hx hb hr (fun t ht hW => ⟨⟨v181, (y9_14_1_177, z9_15_178), rfl, ⟨ry9_14_1_177, w182⟩, by rw [ht]; exact hP, hK.warm hW, hD⟩, hS.F ht⟩) hS.2.2 dX3_leftAtWorst_52
      · have q183 := mm_ltL (h := 209) (mm_nle c180) rx9_3_176 h16 (by decide)
        have q184 := mm_ltR (lo := 1) (mm_nle c180) rx9_3_176 h16 (by decide)
        refine lv_aload_n hx hb dX3_leftAtWorst_17 rfl (lv_at hl 1 rfl) ?_
        refine va_get (D := G) (ci := 3) (v := .ref a_23) (C := RX3) (T := TX3) (N := 4) hx hb hts (mm_i inlX3) hown hK.1 hP 16 rfl rfl 1 (by decide) (mm_h hts mm_w115) (fun _ h9 => h9) rfl dX3_leftAtWorst_18 ?_
        refine lv_aload_n hx hb dX3_leftAtWorst_21 rfl (lv_at hl 1 rfl) ?_
        refine va_get (D := G) (ci := 3) (v := .ref a_1) (C := RX3) (T := TX3) (N := 4) hx hb hts (mm_i inlX3) hown hK.1 hP 16 rfl rfl 0 (by decide) (mm_h hts mm_w114) (fun _ h9 => h9) rfl dX3_leftAtWorst_22 ?_
        refine lv_iload_n hx hb dX3_leftAtWorst_25 rfl (lv_at hl 2 rfl) ?_
        refine lv_aload_n hx hb dX3_leftAtWorst_26 rfl (lv_at hl 1 rfl) ?_
        refine va_get (D := G) (ci := 3) (v := .ref a_25) (C := RX3) (T := TX3) (N := 4) hx hb hts (mm_i inlX3) hown hK.1 hP 16 rfl rfl 2 (by decide) (mm_h hts mm_w113) (fun _ h9 => h9) rfl dX3_leftAtWorst_27 ?_
        refine lv_iload_n hx hb dX3_leftAtWorst_30 rfl (lv_at hl 0 rfl) ?_
        refine va_iald hx hb hK.1 hP 17 1 rfl rfl (mm_in q183 (by decide)) dX3_leftAtWorst_31 ?_
        refine lv_topi (fun v185 ev185 => ?_)
        have rv185 : mm_rg v185 0 209 := mm_eqv ev185 (h17 _)
        refine lv_iload_n hx hb dX3_leftAtWorst_32 rfl (lv_at hl 3 rfl) ?_
        refine mm_finir (va_runV (As := [.int i_0, .int v185, .int i_1]) (rest := [.ref a_23]) ⟨hx, hb, hml, hown, hts⟩ (K374_X10_leaving l G cy H.size a_1 i_0 v185 i_1 a_2 a_3 i_2 i_3 i_4 i_5 i_6 i_7 i_8 i_9 a_4 a_5 a_6 a_7 a_8 a_9 a_10 a_11 a_12 a_13 f_0 f_1 f_2 f_3 f_4 a_14 a_15 a_16 a_17 a_18 i_10 i_11 i_12 f_5 a_19 a_20 i_13 i_14 i_15 f_6 a_21 a_22 i_16 i_17 i_18 f_7 h0 (mm_wk rv185 (by decide)) h1 h2 h3 h4 h5 h6 h7 h8 h9 h10 h11 h12 h13 h14) (cwV 3 hts (mm_gV mm_w1259 mm_w830 mm_w831 mm_w23 mm_w832) rfl rfl rfl hd_X10_leaving ⟨by rw [hRf]; exact Nat.le_of_ble_eq_true rfl, by rw [hRl]; exact Nat.le_of_ble_eq_true rfl⟩) (mm_preV hK hZ hS hA hP hD [0, 1, 2, 3, 4, 5, 6, 7, 8, 9, 10, 11, 12, 13] rfl rfl 0 rfl rfl rfl) rfl rfl hl.1 rfl (lv_room (Nat.le_of_ble_eq_true rfl)) dX3_leftAtWorst_33 ⟨by rw [hRc]; exact Nat.le_of_ble_eq_true rfl, by rw [hRs]; exact Nat.le_of_ble_eq_true rfl⟩) hP hD hS hA [0, 1, 2, 3, 4, 5, 6, 7, 8, 9, 10, 11, 12, 13] rfl (fun _ => rfl) ?_
        clear hP hD hS
        clear H locs
        intro v186 _u H locs hw hP hD hS
        refine mm_finv (va_runV (As := [.int v186]) (rest := []) ⟨hx, hb, hml, hown, hts⟩ (K405_X8_add l G cy H.size a_23 v186 a_24 y9_14_1_177 z9_15_178 ry9_14_1_177) (cwV 1 hts (mm_gV mm_w1306 mm_w965 mm_w966 mm_w37 mm_w967) rfl rfl rfl hd_X8_add ⟨by rw [hRf]; exact Nat.le_of_ble_eq_true rfl, by rw [hRl]; exact Nat.le_of_ble_eq_true rfl⟩) (mm_preV hK hZ hS hA hP hD [14, 15] rfl rfl 14 rfl rfl rfl) rfl rfl hl.1 rfl (lv_room (Nat.le_of_ble_eq_true rfl)) dX3_leftAtWorst_36 ⟨by rw [hRc]; exact Nat.le_of_ble_eq_true rfl, by rw [hRs]; exact Nat.le_of_ble_eq_true rfl⟩) hP hD hS hA (fun u : Int32 × (Nat → Int32) => [(a_1, .inr (10, [.ref a_2, .ref a_3])), (a_2, .inr (0, [.int i_2, .int i_3, .int i_4, .int i_5, .int i_6, .int i_7, .int i_8, .int i_9, .ref a_4, .ref a_5, .ref a_6, .ref a_7, .ref a_8, .ref a_9, .ref a_10, .ref a_11, .ref a_12, .ref a_13])), (a_4, .inl (cy 1, 9, .inl f_0)), (a_5, .inl (cy 1, 9, .inl f_1)), (a_8, .inl (cy 1, 6, .inl f_2)), (a_9, .inl (cy 1, 48, .inl f_3)), (a_10, .inl (cy 1, 30, .inl f_4)), (a_3, .inl (cy 5, 3, .inr (.inr (.inr (.inr (va_up (va_up (va_up (fun _ => none) 0 (some a_14)) 1 (some a_15)) 2 (some a_16))))))), (a_14, .inr (1, [.ref a_17, .ref a_18, .int i_10, .int i_11, .int i_12])), (a_17, .inl (cy 1, 2100, .inl f_5)), (a_15, .inr (1, [.ref a_19, .ref a_20, .int i_13, .int i_14, .int i_15])), (a_19, .inl (cy 1, 2100, .inl f_6)), (a_16, .inr (1, [.ref a_21, .ref a_22, .int i_16, .int i_17, .int i_18])), (a_21, .inl (cy 1, 2100, .inl f_7)), (a_23, .inr (8, [.ref a_24, .int u.1])), (a_24, .inl (cy 1, 210, .inl u.2)), (a_0, .inr (3, [.ref a_1, .ref a_23, .ref a_25, .int i_20])), (a_25, .inl (cy 1, 210, .inl f_9))]) [14, 15] [0, 1, 2, 3, 4, 5, 6, 7, 8, 9, 10, 11, 12, 13, 16, 17] (n := 18) (fun _ => rfl) (by decide +kernel) (by decide +kernel) rfl (fun _ => rfl) (wr := [(a_1, .inr (10, [.ref a_2, .ref a_3])), (a_2, .inr (0, [.int i_2, .int i_3, .int i_4, .int i_5, .int i_6, .int i_7, .int i_8, .int i_9, .ref a_4, .ref a_5, .ref a_6, .ref a_7, .ref a_8, .ref a_9, .ref a_10, .ref a_11, .ref a_12, .ref a_13])), (a_4, .inl (cy 1, 9, .inl f_0)), (a_5, .inl (cy 1, 9, .inl f_1)), (a_8, .inl (cy 1, 6, .inl f_2)), (a_9, .inl (cy 1, 48, .inl f_3)), (a_10, .inl (cy 1, 30, .inl f_4)), (a_3, .inl (cy 5, 3, .inr (.inr (.inr (.inr (va_up (va_up (va_up (fun _ => none) 0 (some a_14)) 1 (some a_15)) 2 (some a_16))))))), (a_14, .inr (1, [.ref a_17, .ref a_18, .int i_10, .int i_11, .int i_12])), (a_17, .inl (cy 1, 2100, .inl f_5)), (a_15, .inr (1, [.ref a_19, .ref a_20, .int i_13, .int i_14, .int i_15])), (a_19, .inl (cy 1, 2100, .inl f_6)), (a_16, .inr (1, [.ref a_21, .ref a_22, .int i_16, .int i_17, .int i_18])), (a_21, .inl (cy 1, 2100, .inl f_7)), (a_0, .inr (3, [.ref a_1, .ref a_23, .ref a_25, .int i_20])), (a_25, .inl (cy 1, 210, .inl f_9))]) rfl (fun _ => rfl) (fun _ => rfl) ?_
        clear hP hD hS
        clear H locs
        intro u
        obtain ⟨n187, n188⟩ := u
        intro H locs hw (hP : va_P G vwCl [(a_1, .inr (10, [.ref a_2, .ref a_3])), (a_2, .inr (0, [.int i_2, .int i_3, .int i_4, .int i_5, .int i_6, .int i_7, .int i_8, .int i_9, .ref a_4, .ref a_5, .ref a_6, .ref a_7, .ref a_8, .ref a_9, .ref a_10, .ref a_11, .ref a_12, .ref a_13])), (a_4, .inl (cy 1, 9, .inl f_0)), (a_5, .inl (cy 1, 9, .inl f_1)), (a_8, .inl (cy 1, 6, .inl f_2)), (a_9, .inl (cy 1, 48, .inl f_3)), (a_10, .inl (cy 1, 30, .inl f_4)), (a_3, .inl (cy 5, 3, .inr (.inr (.inr (.inr (va_up (va_up (va_up (fun _ => none) 0 (some a_14)) 1 (some a_15)) 2 (some a_16))))))), (a_14, .inr (1, [.ref a_17, .ref a_18, .int i_10, .int i_11, .int i_12])), (a_17, .inl (cy 1, 2100, .inl f_5)), (a_15, .inr (1, [.ref a_19, .ref a_20, .int i_13, .int i_14, .int i_15])), (a_19, .inl (cy 1, 2100, .inl f_6)), (a_16, .inr (1, [.ref a_21, .ref a_22, .int i_16, .int i_17, .int i_18])), (a_21, .inl (cy 1, 2100, .inl f_7)), (a_23, .inr (8, [.ref a_24, .int n187])), (a_24, .inl (cy 1, 210, .inl n188)), (a_0, .inr (3, [.ref a_1, .ref a_23, .ref a_25, .int i_20])), (a_25, .inl (cy 1, 210, .inl f_9))] H) (hD : va_D A [(a_1, .inr (10, [.ref a_2, .ref a_3])), (a_2, .inr (0, [.int i_2, .int i_3, .int i_4, .int i_5, .int i_6, .int i_7, .int i_8, .int i_9, .ref a_4, .ref a_5, .ref a_6, .ref a_7, .ref a_8, .ref a_9, .ref a_10, .ref a_11, .ref a_12, .ref a_13])), (a_4, .inl (cy 1, 9, .inl f_0)), (a_5, .inl (cy 1, 9, .inl f_1)), (a_8, .inl (cy 1, 6, .inl f_2)), (a_9, .inl (cy 1, 48, .inl f_3)), (a_10, .inl (cy 1, 30, .inl f_4)), (a_3, .inl (cy 5, 3, .inr (.inr (.inr (.inr (va_up (va_up (va_up (fun _ => none) 0 (some a_14)) 1 (some a_15)) 2 (some a_16))))))), (a_14, .inr (1, [.ref a_17, .ref a_18, .int i_10, .int i_11, .int i_12])), (a_17, .inl (cy 1, 2100, .inl f_5)), (a_15, .inr (1, [.ref a_19, .ref a_20, .int i_13, .int i_14, .int i_15])), (a_19, .inl (cy 1, 2100, .inl f_6)), (a_16, .inr (1, [.ref a_21, .ref a_22, .int i_16, .int i_17, .int i_18])), (a_21, .inl (cy 1, 2100, .inl f_7)), (a_23, .inr (8, [.ref a_24, .int n187])), (a_24, .inl (cy 1, 210, .inl n188)), (a_0, .inr (3, [.ref a_1, .ref a_23, .ref a_25, .int i_20])), (a_25, .inl (cy 1, 210, .inl f_9))]) hS
        have w189 := hw
        obtain ⟨v190, ev190⟩ : ∃ y : Int32, y = x9_3_176 + 1 := ⟨_, rfl⟩
        refine lv_iinc (v := v190) (lv' := [(3, .int v190), (0, .ref a_0), (1, .int i_0), (2, .int i_1)]) hx hb dX3_leftAtWorst_39 hl (k := 0) rfl (by rw [ev190]; rfl) (by decide) rfl ?_
        clear hl
        clear ls
        intro ls hl
        have rv190 : mm_rg v190 1 210 := mm_add ev190 q183 mm_k1 (by decide) (by decide)
        have tv190 := mm_addEc ev190 q183 mm_k1 (by decide) (k := 1) (by decide)
        refine lv_goto (tgt := 9) hx hb dX3_leftAtWorst_42 (by decide) ?_
        exact ih9 v190 n187 n188 (mm_wk rv190 (by decide)) (mm_wk w189 (by decide)) (mm_mu hm9 tv190 (by decide) (rv190).2 (by decide)) H locs hP hD hS ls (lv_sub hl [0, 1, 2, 3] rfl)
  exact L9_178 _ 0 0 f_8 (mm_wk mm_k0 (by decide)) (mm_wk mm_k0 (by decide)) (Nat.lt_succ_self _) H locs hP hD hS ls (lv_sub hl [0, 1, 2, 3] rfl)

set_option maxHeartbeats 4000000 in
set_option maxRecDepth 100000 in
theorem K450_X3_question (l : Launch) (G : va_G) (cy : Nat → ClassId) (sz : Nat) (a_0 : Nat) (i_0 : Int32) (a_1 : Nat) (a_2 : Nat) (a_3 : Nat) (i_1 : Int32) (i_2 : Int32) (i_3 : Int32) (i_4 : Int32) (i_5 : Int32) (i_6 : Int32) (i_7 : Int32) (i_8 : Int32) (a_4 : Nat) (a_5 : Nat) (a_6 : Nat) (a_7 : Nat) (a_8 : Nat) (a_9 : Nat) (a_10 : Nat) (a_11 : Nat) (a_12 : Nat) (a_13 : Nat) (f_0 : Nat → Int32) (f_1 : Nat → Int32) (f_2 : Nat → Int32) (f_3 : Nat → Int32) (f_4 : Nat → Int32) (a_14 : Nat) (a_15 : Nat) (a_16 : Nat) (a_17 : Nat) (a_18 : Nat) (i_9 : Int32) (i_10 : Int32) (i_11 : Int32) (f_5 : Nat → Int32) (a_19 : Nat) (a_20 : Nat) (i_12 : Int32) (i_13 : Int32) (i_14 : Int32) (f_6 : Nat → Int32) (a_21 : Nat) (a_22 : Nat) (i_15 : Int32) (i_16 : Int32) (i_17 : Int32) (f_7 : Nat → Int32) (a_23 : Nat) (a_24 : Nat) (i_18 : Int32) (f_8 : Nat → Int32) (a_25 : Nat) (i_19 : Int32) (f_9 : Nat → Int32) (h0 : mm_rg i_0 0 2) (h1 : mm_rg i_4 0 99) (h2 : mm_rg i_5 0 9) (h3 : mm_rg i_7 0 6) (h4 : mm_ar f_0 (-1) 4) (h5 : mm_ar f_1 0 99) (h6 : mm_ar f_2 0 8) (h7 : mm_ar f_3 0 9) (h8 : mm_ar f_4 0 9) (h9 : mm_rg i_11 (-2147483648) 210) (h10 : mm_ar f_5 0 9) (h11 : mm_rg i_14 (-2147483648) 210) (h12 : mm_ar f_6 0 9) (h13 : mm_rg i_17 (-2147483648) 210) (h14 : mm_ar f_7 0 9) (h15 : mm_rg i_18 0 210) (h16 : mm_rg i_19 0 210) (h17 : mm_ar f_9 0 209)  : mm_CI l yX3_question (mm_ws yX3_question cX3_question 6 (some .int)) ({ frames := 5, cells := 0, slots := 0, locals := 134 } : Room) G cy sz [(a_1, .inr (10, [.ref a_2, .ref a_3])), (a_2, .inr (0, [.int i_1, .int i_2, .int i_3, .int i_4, .int i_5, .int i_6, .int i_7, .int i_8, .ref a_4, .ref a_5, .ref a_6, .ref a_7, .ref a_8, .ref a_9, .ref a_10, .ref a_11, .ref a_12, .ref a_13])), (a_4, .inl (cy 1, 9, .inl f_0)), (a_5, .inl (cy 1, 9, .inl f_1)), (a_8, .inl (cy 1, 6, .inl f_2)), (a_9, .inl (cy 1, 48, .inl f_3)), (a_10, .inl (cy 1, 30, .inl f_4)), (a_3, .inl (cy 5, 3, .inr (.inr (.inr (.inr (va_up (va_up (va_up (fun _ => none) 0 (some a_14)) 1 (some a_15)) 2 (some a_16))))))), (a_14, .inr (1, [.ref a_17, .ref a_18, .int i_9, .int i_10, .int i_11])), (a_17, .inl (cy 1, 2100, .inl f_5)), (a_15, .inr (1, [.ref a_19, .ref a_20, .int i_12, .int i_13, .int i_14])), (a_19, .inl (cy 1, 2100, .inl f_6)), (a_16, .inr (1, [.ref a_21, .ref a_22, .int i_15, .int i_16, .int i_17])), (a_21, .inl (cy 1, 2100, .inl f_7)), (a_23, .inr (8, [.ref a_24, .int i_18])), (a_24, .inl (cy 1, 210, .inl f_8)), (a_0, .inr (3, [.ref a_1, .ref a_23, .ref a_25, .int i_19])), (a_25, .inl (cy 1, 210, .inl f_9))] [.ref a_0, .int i_0] (fun u : Int32 × (Nat → Int32) => [(a_1, .inr (10, [.ref a_2, .ref a_3])), (a_2, .inr (0, [.int i_1, .int i_2, .int i_3, .int i_4, .int i_5, .int i_6, .int i_7, .int i_8, .ref a_4, .ref a_5, .ref a_6, .ref a_7, .ref a_8, .ref a_9, .ref a_10, .ref a_11, .ref a_12, .ref a_13])), (a_4, .inl (cy 1, 9, .inl f_0)), (a_5, .inl (cy 1, 9, .inl f_1)), (a_8, .inl (cy 1, 6, .inl f_2)), (a_9, .inl (cy 1, 48, .inl f_3)), (a_10, .inl (cy 1, 30, .inl f_4)), (a_3, .inl (cy 5, 3, .inr (.inr (.inr (.inr (va_up (va_up (va_up (fun _ => none) 0 (some a_14)) 1 (some a_15)) 2 (some a_16))))))), (a_14, .inr (1, [.ref a_17, .ref a_18, .int i_9, .int i_10, .int i_11])), (a_17, .inl (cy 1, 2100, .inl f_5)), (a_15, .inr (1, [.ref a_19, .ref a_20, .int i_12, .int i_13, .int i_14])), (a_19, .inl (cy 1, 2100, .inl f_6)), (a_16, .inr (1, [.ref a_21, .ref a_22, .int i_15, .int i_16, .int i_17])), (a_21, .inl (cy 1, 2100, .inl f_7)), (a_23, .inr (8, [.ref a_24, .int u.1])), (a_24, .inl (cy 1, 210, .inl u.2)), (a_0, .inr (3, [.ref a_1, .ref a_23, .ref a_25, .int i_19])), (a_25, .inl (cy 1, 210, .inl f_9))]) (fun (r : Int32) (u : Int32 × (Nat → Int32)) => mm_rg u.1 0 210 ∧ mm_rg r (-1) 5) 0 0 := by
  refine mm_begin (lv := [(0, .ref a_0), (1, .int i_0)]) (by decide) (Nat.le_of_ble_eq_true rfl) rfl ?_
  intro p e s m below meth c A ls R args Q H locs hRe hQ hAe hx hb hr hlocks hml hown hnm hts hsz hA hS hP hK hD hZ hl
  have hRf : R.frames = 5 := by rw [hRe]
  have hRl : R.locals = 134 := by rw [hRe]
  have hRc : R.cells = 0 := by rw [hRe]
  have hRs : R.slots = 0 := by rw [hRe]
  refine lv_iconst (v := (-1)) hx hb dX3_question_0 (by decide) ?_
  refine lv_istore_n (lv' := [(2, .int (-1)), (0, .ref a_0), (1, .int i_0)]) hx hb dX3_question_1 rfl hl (by decide) rfl ?_
  clear hl
  clear ls
  intro ls hl
  refine lv_aload_n hx hb dX3_question_2 rfl (lv_at hl 1 rfl) ?_
  refine va_get (D := G) (ci := 3) (v := .int i_19) (C := RX3) (T := TX3) (N := 4) hx hb hts (mm_i inlX3) hown hK.1 hP 16 rfl rfl 3 (by decide) (mm_h hts mm_w1253) (fun _ h9 => h9) rfl dX3_question_3 ?_
  refine lv_istore_n (lv' := [(3, .int i_19), (2, .int (-1)), (0, .ref a_0), (1, .int i_0)]) hx hb dX3_question_6 rfl hl (by decide) rfl ?_
  clear hl
  clear ls
  intro ls hl
  refine lv_iconst (v := 0) hx hb dX3_question_7 (by decide) ?_
  refine lv_istore (lv' := [(4, .int 0), (3, .int i_19), (2, .int (-1)), (0, .ref a_0), (1, .int i_0)]) hx hb dX3_question_8 hl (by decide) rfl ?_
  clear hl
  clear ls
  intro ls hl
  have L10_107 : ∀ (n : Nat) (x10_4_103 : Int32) (x10_3_104 : Int32) (x10_2_105 : Int32) (y10_14_1_106 : Int32) (z10_15_107 : Nat → Int32), mm_rg x10_4_103 0 6 → mm_rg x10_3_104 0 210 → mm_rg x10_2_105 (-1) 5 → mm_rg y10_14_1_106 0 210 → (6 - x10_4_103.toInt).toNat < n → ∀ (H : Heap) (locs : List Loc), va_P G vwCl [(a_1, .inr (10, [.ref a_2, .ref a_3])), (a_2, .inr (0, [.int i_1, .int i_2, .int i_3, .int i_4, .int i_5, .int i_6, .int i_7, .int i_8, .ref a_4, .ref a_5, .ref a_6, .ref a_7, .ref a_8, .ref a_9, .ref a_10, .ref a_11, .ref a_12, .ref a_13])), (a_4, .inl (cy 1, 9, .inl f_0)), (a_5, .inl (cy 1, 9, .inl f_1)), (a_8, .inl (cy 1, 6, .inl f_2)), (a_9, .inl (cy 1, 48, .inl f_3)), (a_10, .inl (cy 1, 30, .inl f_4)), (a_3, .inl (cy 5, 3, .inr (.inr (.inr (.inr (va_up (va_up (va_up (fun _ => none) 0 (some a_14)) 1 (some a_15)) 2 (some a_16))))))), (a_14, .inr (1, [.ref a_17, .ref a_18, .int i_9, .int i_10, .int i_11])), (a_17, .inl (cy 1, 2100, .inl f_5)), (a_15, .inr (1, [.ref a_19, .ref a_20, .int i_12, .int i_13, .int i_14])), (a_19, .inl (cy 1, 2100, .inl f_6)), (a_16, .inr (1, [.ref a_21, .ref a_22, .int i_15, .int i_16, .int i_17])), (a_21, .inl (cy 1, 2100, .inl f_7)), (a_23, .inr (8, [.ref a_24, .int y10_14_1_106])), (a_24, .inl (cy 1, 210, .inl z10_15_107)), (a_0, .inr (3, [.ref a_1, .ref a_23, .ref a_25, .int i_19])), (a_25, .inl (cy 1, 210, .inl f_9))] H → va_D A [(a_1, .inr (10, [.ref a_2, .ref a_3])), (a_2, .inr (0, [.int i_1, .int i_2, .int i_3, .int i_4, .int i_5, .int i_6, .int i_7, .int i_8, .ref a_4, .ref a_5, .ref a_6, .ref a_7, .ref a_8, .ref a_9, .ref a_10, .ref a_11, .ref a_12, .ref a_13])), (a_4, .inl (cy 1, 9, .inl f_0)), (a_5, .inl (cy 1, 9, .inl f_1)), (a_8, .inl (cy 1, 6, .inl f_2)), (a_9, .inl (cy 1, 48, .inl f_3)), (a_10, .inl (cy 1, 30, .inl f_4)), (a_3, .inl (cy 5, 3, .inr (.inr (.inr (.inr (va_up (va_up (va_up (fun _ => none) 0 (some a_14)) 1 (some a_15)) 2 (some a_16))))))), (a_14, .inr (1, [.ref a_17, .ref a_18, .int i_9, .int i_10, .int i_11])), (a_17, .inl (cy 1, 2100, .inl f_5)), (a_15, .inr (1, [.ref a_19, .ref a_20, .int i_12, .int i_13, .int i_14])), (a_19, .inl (cy 1, 2100, .inl f_6)), (a_16, .inr (1, [.ref a_21, .ref a_22, .int i_15, .int i_16, .int i_17])), (a_21, .inl (cy 1, 2100, .inl f_7)), (a_23, .inr (8, [.ref a_24, .int y10_14_1_106])), (a_24, .inl (cy 1, 210, .inl z10_15_107)), (a_0, .inr (3, [.ref a_1, .ref a_23, .ref a_25, .int i_19])), (a_25, .inl (cy 1, 210, .inl f_9))] → va_S A s.heap H locs → ∀ (ls : Array Slot), lv_has ls 6 [(4, .int x10_4_103), (3, .int x10_3_104), (2, .int x10_2_105), (0, .ref a_0), (1, .int i_0)] → W p l e R s m args below meth c H locs 0 0 Q (F0 m 10 ls []) := by
    intro n
    induction n with
    | zero => intro x10_4_103 x10_3_104 x10_2_105 y10_14_1_106 z10_15_107 rx10_4_103 rx10_3_104 rx10_2_105 ry10_14_1_106 hm; exact absurd hm (Nat.not_lt_zero _)
    | succ n ih10 =>
      intro x10_4_103 x10_3_104 x10_2_105 y10_14_1_106 z10_15_107 rx10_4_103 rx10_3_104 rx10_2_105 ry10_14_1_106 hm10 H locs hP hD hS ls hl
      refine lv_iload hx hb dX3_question_10 (lv_at hl 0 rfl) ?_
      refine lv_aload_n hx hb dX3_question_12 rfl (lv_at hl 3 rfl) ?_
      refine va_get (D := G) (ci := 3) (v := .ref a_1) (C := RX3) (T := TX3) (N := 4) hx hb hts (mm_i inlX3) hown hK.1 hP 16 rfl rfl 0 (by decide) (mm_h hts mm_w114) (fun _ h9 => h9) rfl dX3_question_13 ?_
      refine va_get (D := G) (ci := 10) (v := .ref a_2) (C := RX10) (T := TX10) (N := 2) hx hb hts (mm_i inlX10) hown hK.1 hP 0 rfl rfl 0 (by decide) (mm_h hts mm_w1246) (fun _ h9 => h9) rfl dX3_question_16 ?_
      refine va_get (D := G) (ci := 0) (v := .int i_7) (C := RX0) (T := TX0) (N := 18) hx hb hts (mm_i inlX0) hown hK.1 hP 1 rfl rfl 6 (by decide) (mm_h hts mm_w1247) (fun _ h9 => h9) rfl dX3_question_19 ?_
      refine lv_icmp_ge (tgt := 52) hx hb dX3_question_22 (by decide) (fun c109 => ?_) (fun c109 => ?_)
      · refine lv_iload_n hx hb dX3_question_52 rfl (lv_at hl 2 rfl) ?_
        subst hAe
        rw [hQ]
        exact W.iret (v := x10_2_105) hx hb hr (fun t ht hW => ⟨⟨x10_2_105, (y10_14_1_106, z10_15_107), rfl, ⟨ry10_14_1_106, rx10_2_105⟩, by rw [ht]; exact hP, hK.warm hW, hD⟩, hS.F ht⟩) hS.2.2 dX3_question_53
      · have q110 := mm_ltL (h := 5) (mm_nle c109) rx10_4_103 h3 (by decide)
        have q111 := mm_ltR (lo := 1) (mm_nle c109) rx10_4_103 h3 (by decide)
        refine lv_aload_n hx hb dX3_question_25 rfl (lv_at hl 3 rfl) ?_
        refine lv_iload_n hx hb dX3_question_26 rfl (lv_at hl 4 rfl) ?_
        refine lv_iload hx hb dX3_question_27 (lv_at hl 0 rfl) ?_
        refine mm_fini (va_runV (As := [.int i_0, .int x10_4_103]) (rest := []) ⟨hx, hb, hml, hown, hts⟩ (K449_X3_leftAtWorst l G cy H.size a_0 i_0 x10_4_103 a_1 a_2 a_3 i_1 i_2 i_3 i_4 i_5 i_6 i_7 i_8 a_4 a_5 a_6 a_7 a_8 a_9 a_10 a_11 a_12 a_13 f_0 f_1 f_2 f_3 f_4 a_14 a_15 a_16 a_17 a_18 i_9 i_10 i_11 f_5 a_19 a_20 i_12 i_13 i_14 f_6 a_21 a_22 i_15 i_16 i_17 f_7 a_23 a_24 y10_14_1_106 z10_15_107 a_25 i_19 f_9 h0 q110 h1 h2 h4 h5 h6 h7 h8 h9 h10 h11 h12 h13 h14 ry10_14_1_106 h16 h17) (cwV 2 hts (mm_gV mm_w1301 mm_w1302 mm_w1303 mm_w41 mm_w1304) rfl rfl rfl hd_X3_leftAtWorst ⟨by rw [hRf]; exact Nat.le_of_ble_eq_true rfl, by rw [hRl]; exact Nat.le_of_ble_eq_true rfl⟩) (mm_preV hK hZ hS hA hP hD [0, 1, 2, 3, 4, 5, 6, 7, 8, 9, 10, 11, 12, 13, 14, 15, 16, 17] rfl rfl 16 rfl rfl rfl) rfl rfl hl.1 rfl (lv_room (Nat.le_of_ble_eq_true rfl)) dX3_question_29 ⟨by rw [hRc]; exact Nat.le_of_ble_eq_true rfl, by rw [hRs]; exact Nat.le_of_ble_eq_true rfl⟩) hP hD hS hA (fun u : Int32 × (Nat → Int32) => [(a_1, .inr (10, [.ref a_2, .ref a_3])), (a_2, .inr (0, [.int i_1, .int i_2, .int i_3, .int i_4, .int i_5, .int i_6, .int i_7, .int i_8, .ref a_4, .ref a_5, .ref a_6, .ref a_7, .ref a_8, .ref a_9, .ref a_10, .ref a_11, .ref a_12, .ref a_13])), (a_4, .inl (cy 1, 9, .inl f_0)), (a_5, .inl (cy 1, 9, .inl f_1)), (a_8, .inl (cy 1, 6, .inl f_2)), (a_9, .inl (cy 1, 48, .inl f_3)), (a_10, .inl (cy 1, 30, .inl f_4)), (a_3, .inl (cy 5, 3, .inr (.inr (.inr (.inr (va_up (va_up (va_up (fun _ => none) 0 (some a_14)) 1 (some a_15)) 2 (some a_16))))))), (a_14, .inr (1, [.ref a_17, .ref a_18, .int i_9, .int i_10, .int i_11])), (a_17, .inl (cy 1, 2100, .inl f_5)), (a_15, .inr (1, [.ref a_19, .ref a_20, .int i_12, .int i_13, .int i_14])), (a_19, .inl (cy 1, 2100, .inl f_6)), (a_16, .inr (1, [.ref a_21, .ref a_22, .int i_15, .int i_16, .int i_17])), (a_21, .inl (cy 1, 2100, .inl f_7)), (a_23, .inr (8, [.ref a_24, .int u.1])), (a_24, .inl (cy 1, 210, .inl u.2)), (a_0, .inr (3, [.ref a_1, .ref a_23, .ref a_25, .int i_19])), (a_25, .inl (cy 1, 210, .inl f_9))]) [0, 1, 2, 3, 4, 5, 6, 7, 8, 9, 10, 11, 12, 13, 14, 15, 16, 17] [] (n := 18) (fun _ => rfl) (by decide +kernel) (by decide +kernel) rfl (fun _ => rfl) (wr := []) rfl (fun _ => rfl) (fun _ => rfl) ?_
        clear hP hD hS
        clear H locs
        intro v114 u
        obtain ⟨n112, n113⟩ := u
        intro H locs hw (hP : va_P G vwCl [(a_1, .inr (10, [.ref a_2, .ref a_3])), (a_2, .inr (0, [.int i_1, .int i_2, .int i_3, .int i_4, .int i_5, .int i_6, .int i_7, .int i_8, .ref a_4, .ref a_5, .ref a_6, .ref a_7, .ref a_8, .ref a_9, .ref a_10, .ref a_11, .ref a_12, .ref a_13])), (a_4, .inl (cy 1, 9, .inl f_0)), (a_5, .inl (cy 1, 9, .inl f_1)), (a_8, .inl (cy 1, 6, .inl f_2)), (a_9, .inl (cy 1, 48, .inl f_3)), (a_10, .inl (cy 1, 30, .inl f_4)), (a_3, .inl (cy 5, 3, .inr (.inr (.inr (.inr (va_up (va_up (va_up (fun _ => none) 0 (some a_14)) 1 (some a_15)) 2 (some a_16))))))), (a_14, .inr (1, [.ref a_17, .ref a_18, .int i_9, .int i_10, .int i_11])), (a_17, .inl (cy 1, 2100, .inl f_5)), (a_15, .inr (1, [.ref a_19, .ref a_20, .int i_12, .int i_13, .int i_14])), (a_19, .inl (cy 1, 2100, .inl f_6)), (a_16, .inr (1, [.ref a_21, .ref a_22, .int i_15, .int i_16, .int i_17])), (a_21, .inl (cy 1, 2100, .inl f_7)), (a_23, .inr (8, [.ref a_24, .int n112])), (a_24, .inl (cy 1, 210, .inl n113)), (a_0, .inr (3, [.ref a_1, .ref a_23, .ref a_25, .int i_19])), (a_25, .inl (cy 1, 210, .inl f_9))] H) (hD : va_D A [(a_1, .inr (10, [.ref a_2, .ref a_3])), (a_2, .inr (0, [.int i_1, .int i_2, .int i_3, .int i_4, .int i_5, .int i_6, .int i_7, .int i_8, .ref a_4, .ref a_5, .ref a_6, .ref a_7, .ref a_8, .ref a_9, .ref a_10, .ref a_11, .ref a_12, .ref a_13])), (a_4, .inl (cy 1, 9, .inl f_0)), (a_5, .inl (cy 1, 9, .inl f_1)), (a_8, .inl (cy 1, 6, .inl f_2)), (a_9, .inl (cy 1, 48, .inl f_3)), (a_10, .inl (cy 1, 30, .inl f_4)), (a_3, .inl (cy 5, 3, .inr (.inr (.inr (.inr (va_up (va_up (va_up (fun _ => none) 0 (some a_14)) 1 (some a_15)) 2 (some a_16))))))), (a_14, .inr (1, [.ref a_17, .ref a_18, .int i_9, .int i_10, .int i_11])), (a_17, .inl (cy 1, 2100, .inl f_5)), (a_15, .inr (1, [.ref a_19, .ref a_20, .int i_12, .int i_13, .int i_14])), (a_19, .inl (cy 1, 2100, .inl f_6)), (a_16, .inr (1, [.ref a_21, .ref a_22, .int i_15, .int i_16, .int i_17])), (a_21, .inl (cy 1, 2100, .inl f_7)), (a_23, .inr (8, [.ref a_24, .int n112])), (a_24, .inl (cy 1, 210, .inl n113)), (a_0, .inr (3, [.ref a_1, .ref a_23, .ref a_25, .int i_19])), (a_25, .inl (cy 1, 210, .inl f_9))]) hS
        obtain ⟨w115, hw⟩ := hw
        have w116 := hw
        refine lv_istore (lv' := [(5, .int v114), (4, .int x10_4_103), (3, .int x10_3_104), (2, .int x10_2_105), (0, .ref a_0), (1, .int i_0)]) hx hb dX3_question_32 hl (by decide) rfl ?_
        clear hl
        clear ls
        intro ls hl
        refine lv_iload hx hb dX3_question_34 (lv_at hl 0 rfl) ?_
        refine lv_iload_n hx hb dX3_question_36 rfl (lv_at hl 2 rfl) ?_
        refine lv_icmp_ge (tgt := 46) hx hb dX3_question_37 (by decide) (fun c117 => ?_) (fun c117 => ?_)
        · obtain ⟨v118, ev118⟩ : ∃ y : Int32, y = x10_4_103 + 1 := ⟨_, rfl⟩
          refine lv_iinc (v := v118) (lv' := [(4, .int v118), (5, .int v114), (3, .int x10_3_104), (2, .int x10_2_105), (0, .ref a_0), (1, .int i_0)]) hx hb dX3_question_46 hl (k := 1) rfl (by rw [ev118]; rfl) (by decide) rfl ?_
          clear hl
          clear ls
          intro ls hl
          have rv118 : mm_rg v118 1 6 := mm_add ev118 q110 mm_k1 (by decide) (by decide)
          have tv118 := mm_addEc ev118 q110 mm_k1 (by decide) (k := 1) (by decide)
          refine lv_goto (tgt := 10) hx hb dX3_question_49 (by decide) ?_
          exact ih10 v118 x10_3_104 x10_2_105 n112 n113 (mm_wk rv118 (by decide)) rx10_3_104 rx10_2_105 w115 (mm_mu hm10 tv118 (by decide) (rv118).2 (by decide)) H locs hP hD hS ls (lv_sub hl [0, 2, 3, 4, 5] rfl)
        · have q119 := mm_ltL (h := 209) (mm_nle c117) w116 rx10_3_104 (by decide)
          have q120 := mm_ltR (lo := 1) (mm_nle c117) w116 rx10_3_104 (by decide)
          refine lv_iload hx hb dX3_question_40 (lv_at hl 0 rfl) ?_
          refine lv_istore_n (lv' := [(3, .int v114), (5, .int v114), (4, .int x10_4_103), (2, .int x10_2_105), (0, .ref a_0), (1, .int i_0)]) hx hb dX3_question_42 rfl hl (by decide) rfl ?_
          clear hl
          clear ls
          intro ls hl
          refine lv_iload hx hb dX3_question_43 (lv_at hl 2 rfl) ?_
          refine lv_istore_n (lv' := [(2, .int x10_4_103), (3, .int v114), (5, .int v114), (4, .int x10_4_103), (0, .ref a_0), (1, .int i_0)]) hx hb dX3_question_45 rfl hl (by decide) rfl ?_
          clear hl
          clear ls
          intro ls hl
          obtain ⟨v121, ev121⟩ : ∃ y : Int32, y = x10_4_103 + 1 := ⟨_, rfl⟩
          refine lv_iinc (v := v121) (lv' := [(4, .int v121), (2, .int x10_4_103), (3, .int v114), (5, .int v114), (0, .ref a_0), (1, .int i_0)]) hx hb dX3_question_46 hl (k := 3) rfl (by rw [ev121]; rfl) (by decide) rfl ?_
          clear hl
          clear ls
          intro ls hl
          have rv121 : mm_rg v121 1 6 := mm_add ev121 q110 mm_k1 (by decide) (by decide)
          have tv121 := mm_addEc ev121 q110 mm_k1 (by decide) (k := 1) (by decide)
          refine lv_goto (tgt := 10) hx hb dX3_question_49 (by decide) ?_
          exact ih10 v121 v114 x10_4_103 n112 n113 (mm_wk rv121 (by decide)) (mm_wk q119 (by decide)) (mm_wk q110 (by decide)) w115 (mm_mu hm10 tv121 (by decide) (rv121).2 (by decide)) H locs hP hD hS ls (lv_sub hl [0, 2, 1, 4, 5] rfl)
  exact L10_107 _ 0 i_19 (-1) i_18 f_8 (mm_wk mm_k0 (by decide)) h16 (mm_wk mm_km1 (by decide)) h15 (Nat.lt_succ_self _) H locs hP hD hS ls (lv_sub hl [0, 1, 2, 3, 4] rfl)

set_option maxHeartbeats 4000000 in
set_option maxRecDepth 100000 in
theorem K451_X11_ask (l : Launch) (G : va_G) (cy : Nat → ClassId) (sz : Nat) (a_0 : Nat) (i_0 : Int32) (i_1 : Int32) (a_1 : Nat) (a_2 : Nat) (a_3 : Nat) (a_4 : Nat) (a_5 : Nat) (a_6 : Nat) (a_7 : Nat) (a_8 : Nat) (a_9 : Nat) (a_10 : Nat) (a_11 : Nat) (a_12 : Nat) (a_13 : Nat) (i_2 : Int32) (i_3 : Int32) (i_4 : Int32) (i_5 : Int32) (i_6 : Int32) (i_7 : Int32) (i_8 : Int32) (i_9 : Int32) (a_14 : Nat) (a_15 : Nat) (a_16 : Nat) (a_17 : Nat) (a_18 : Nat) (a_19 : Nat) (a_20 : Nat) (a_21 : Nat) (a_22 : Nat) (a_23 : Nat) (f_0 : Nat → Int32) (f_1 : Nat → Int32) (f_2 : Nat → Int32) (f_3 : Nat → Int32) (f_4 : Nat → Int32) (a_24 : Nat) (a_25 : Nat) (a_26 : Nat) (a_27 : Nat) (a_28 : Nat) (i_10 : Int32) (i_11 : Int32) (i_12 : Int32) (f_5 : Nat → Int32) (a_29 : Nat) (a_30 : Nat) (i_13 : Int32) (i_14 : Int32) (i_15 : Int32) (f_6 : Nat → Int32) (a_31 : Nat) (a_32 : Nat) (i_16 : Int32) (i_17 : Int32) (i_18 : Int32) (f_7 : Nat → Int32) (a_33 : Nat) (a_34 : Nat) (a_35 : Nat) (a_36 : Nat) (i_19 : Int32) (i_20 : Int32) (i_21 : Int32) (a_37 : Nat) (f_8 : Nat → Int64) (i_22 : Int32) (i_23 : Int32) (i_24 : Int32) (a_38 : Nat) (f_9 : Nat → Int64) (i_25 : Int32) (i_26 : Int32) (i_27 : Int32) (a_39 : Nat) (f_10 : Nat → Int64) (i_28 : Int32) (i_29 : Int32) (i_30 : Int32) (a_40 : Nat) (f_11 : Nat → Int64) (a_41 : Nat) (i_31 : Int32) (f_12 : Nat → Int32) (a_42 : Nat) (i_32 : Int32) (f_13 : Nat → Int32) (h0 : mm_rg i_5 0 99) (h1 : mm_rg i_6 0 9) (h2 : mm_rg i_7 0 3) (h3 : mm_rg i_8 0 6) (h4 : mm_ar f_0 (-1) 4) (h5 : mm_ar f_1 0 99) (h6 : mm_ar f_2 0 8) (h7 : mm_ar f_3 0 9) (h8 : mm_ar f_4 0 9) (h9 : mm_rg i_12 (-2147483648) 210) (h10 : mm_ar f_5 0 9) (h11 : mm_rg i_15 (-2147483648) 210) (h12 : mm_ar f_6 0 9) (h13 : mm_rg i_18 (-2147483648) 210) (h14 : mm_ar f_7 0 9) (h15 : mm_rg i_19 0 1) (h16 : mm_rg i_21 0 60) (h17 : mm_rg i_22 0 1) (h18 : mm_rg i_24 0 60) (h19 : mm_rg i_25 0 1) (h20 : mm_rg i_27 0 60) (h21 : mm_rg i_28 0 1) (h22 : mm_rg i_30 0 60) (h23 : mm_rg i_31 0 210) (h24 : mm_rg i_32 0 210) (h25 : mm_ar f_13 0 209)  : mm_CI l yX11_ask (mm_ws yX11_ask cX11_ask 4 (some .int)) ({ frames := 6, cells := 0, slots := 0, locals := 159 } : Room) G cy sz [(a_0, .inr (11, [.ref a_1, .ref a_2, .ref a_3, .ref a_4, .ref a_5, .ref a_6, .ref a_7, .ref a_8, .ref a_9, .ref a_10, .ref a_11])), (a_3, .inr (10, [.ref a_12, .ref a_13])), (a_12, .inr (0, [.int i_2, .int i_3, .int i_4, .int i_5, .int i_6, .int i_7, .int i_8, .int i_9, .ref a_14, .ref a_15, .ref a_16, .ref a_17, .ref a_18, .ref a_19, .ref a_20, .ref a_21, .ref a_22, .ref a_23])), (a_14, .inl (cy 1, 9, .inl f_0)), (a_15, .inl (cy 1, 9, .inl f_1)), (a_18, .inl (cy 1, 6, .inl f_2)), (a_19, .inl (cy 1, 48, .inl f_3)), (a_20, .inl (cy 1, 30, .inl f_4)), (a_13, .inl (cy 5, 3, .inr (.inr (.inr (.inr (va_up (va_up (va_up (fun _ => none) 0 (some a_24)) 1 (some a_25)) 2 (some a_26))))))), (a_24, .inr (1, [.ref a_27, .ref a_28, .int i_10, .int i_11, .int i_12])), (a_27, .inl (cy 1, 2100, .inl f_5)), (a_25, .inr (1, [.ref a_29, .ref a_30, .int i_13, .int i_14, .int i_15])), (a_29, .inl (cy 1, 2100, .inl f_6)), (a_26, .inr (1, [.ref a_31, .ref a_32, .int i_16, .int i_17, .int i_18])), (a_31, .inl (cy 1, 2100, .inl f_7)), (a_6, .inl (cy 6, 4, .inr (.inr (.inr (.inr (va_up (va_up (va_up (va_up (fun _ => none) 0 (some a_33)) 1 (some a_34)) 2 (some a_35)) 3 (some a_36))))))), (a_33, .inr (6, [.int i_19, .int i_20, .int i_21, .ref a_37])), (a_37, .inl (cy 2, 60, .inr (.inl f_8))), (a_34, .inr (6, [.int i_22, .int i_23, .int i_24, .ref a_38])), (a_38, .inl (cy 2, 60, .inr (.inl f_9))), (a_35, .inr (6, [.int i_25, .int i_26, .int i_27, .ref a_39])), (a_39, .inl (cy 2, 60, .inr (.inl f_10))), (a_36, .inr (6, [.int i_28, .int i_29, .int i_30, .ref a_40])), (a_40, .inl (cy 2, 60, .inr (.inl f_11))), (a_7, .inr (8, [.ref a_41, .int i_31])), (a_41, .inl (cy 1, 210, .inl f_12)), (a_8, .inr (3, [.ref a_3, .ref a_7, .ref a_42, .int i_32])), (a_42, .inl (cy 1, 210, .inl f_13))] [.ref a_0, .int i_0, .int i_1] (fun u : Int32 × (Nat → Int32) × Int32 × (Nat → Int32) => [(a_0, .inr (11, [.ref a_1, .ref a_2, .ref a_3, .ref a_4, .ref a_5, .ref a_6, .ref a_7, .ref a_8, .ref a_9, .ref a_10, .ref a_11])), (a_3, .inr (10, [.ref a_12, .ref a_13])), (a_12, .inr (0, [.int i_2, .int i_3, .int i_4, .int i_5, .int i_6, .int i_7, .int i_8, .int i_9, .ref a_14, .ref a_15, .ref a_16, .ref a_17, .ref a_18, .ref a_19, .ref a_20, .ref a_21, .ref a_22, .ref a_23])), (a_14, .inl (cy 1, 9, .inl f_0)), (a_15, .inl (cy 1, 9, .inl f_1)), (a_18, .inl (cy 1, 6, .inl f_2)), (a_19, .inl (cy 1, 48, .inl f_3)), (a_20, .inl (cy 1, 30, .inl f_4)), (a_13, .inl (cy 5, 3, .inr (.inr (.inr (.inr (va_up (va_up (va_up (fun _ => none) 0 (some a_24)) 1 (some a_25)) 2 (some a_26))))))), (a_24, .inr (1, [.ref a_27, .ref a_28, .int i_10, .int i_11, .int i_12])), (a_27, .inl (cy 1, 2100, .inl f_5)), (a_25, .inr (1, [.ref a_29, .ref a_30, .int i_13, .int i_14, .int i_15])), (a_29, .inl (cy 1, 2100, .inl f_6)), (a_26, .inr (1, [.ref a_31, .ref a_32, .int i_16, .int i_17, .int i_18])), (a_31, .inl (cy 1, 2100, .inl f_7)), (a_6, .inl (cy 6, 4, .inr (.inr (.inr (.inr (va_up (va_up (va_up (va_up (fun _ => none) 0 (some a_33)) 1 (some a_34)) 2 (some a_35)) 3 (some a_36))))))), (a_33, .inr (6, [.int i_19, .int i_20, .int i_21, .ref a_37])), (a_37, .inl (cy 2, 60, .inr (.inl f_8))), (a_34, .inr (6, [.int i_22, .int i_23, .int i_24, .ref a_38])), (a_38, .inl (cy 2, 60, .inr (.inl f_9))), (a_35, .inr (6, [.int i_25, .int i_26, .int i_27, .ref a_39])), (a_39, .inl (cy 2, 60, .inr (.inl f_10))), (a_36, .inr (6, [.int i_28, .int i_29, .int i_30, .ref a_40])), (a_40, .inl (cy 2, 60, .inr (.inl f_11))), (a_7, .inr (8, [.ref a_41, .int u.1])), (a_41, .inl (cy 1, 210, .inl u.2.1)), (a_8, .inr (3, [.ref a_3, .ref a_7, .ref a_42, .int u.2.2.1])), (a_42, .inl (cy 1, 210, .inl u.2.2.2))]) (fun (r : Int32) (u : Int32 × (Nat → Int32) × Int32 × (Nat → Int32)) => mm_rg u.1 0 210 ∧ mm_rg u.2.2.1 0 210 ∧ mm_ar u.2.2.2 0 209 ∧ mm_rg r (-6) 5) 0 0 := by
  refine mm_begin (lv := [(0, .ref a_0), (1, .int i_0), (2, .int i_1)]) (by decide) (Nat.le_of_ble_eq_true rfl) rfl ?_
  intro p e s m below meth c A ls R args Q H locs hRe hQ hAe hx hb hr hlocks hml hown hnm hts hsz hA hS hP hK hD hZ hl
  have hRf : R.frames = 6 := by rw [hRe]
  have hRl : R.locals = 159 := by rw [hRe]
  have hRc : R.cells = 0 := by rw [hRe]
  have hRs : R.slots = 0 := by rw [hRe]
  refine lv_aload_n hx hb dX11_ask_0 rfl (lv_at hl 0 rfl) ?_
  refine lv_iload_n hx hb dX11_ask_1 rfl (lv_at hl 1 rfl) ?_
  refine lv_iload_n hx hb dX11_ask_2 rfl (lv_at hl 2 rfl) ?_
  refine lv_iconst (v := 0) hx hb dX11_ask_3 (by decide) ?_
  refine mm_finir (va_runV (As := [.int i_0, .int i_1, .int 0]) (rest := []) ⟨hx, hb, hml, hown, hts⟩ (K441_X11_letterTrouble l G cy H.size a_0 i_0 i_1 0 a_1 a_2 a_3 a_4 a_5 a_6 a_7 a_8 a_9 a_10 a_11 a_12 a_13 i_2 i_3 i_4 i_5 i_6 i_7 i_8 i_9 a_14 a_15 a_16 a_17 a_18 a_19 a_20 a_21 a_22 a_23 a_33 a_34 a_35 a_36 i_19 i_20 i_21 a_37 f_8 i_22 i_23 i_24 a_38 f_9 i_25 i_26 i_27 a_39 f_10 i_28 i_29 i_30 a_40 f_11 a_42 i_32 (mm_wk mm_k0 (by decide)) h2 h3 h15 h16 h17 h18 h19 h20 h21 h22) (cwV 3 hts (mm_gV mm_w1228 mm_w1229 mm_w1230 mm_w2 mm_w1231) rfl rfl rfl hd_X11_letterTrouble ⟨by rw [hRf]; exact Nat.le_of_ble_eq_true rfl, by rw [hRl]; exact Nat.le_of_ble_eq_true rfl⟩) (mm_preV hK hZ hS hA hP hD [0, 1, 2, 15, 16, 17, 18, 19, 20, 21, 22, 23, 26] rfl rfl 0 rfl rfl rfl) rfl rfl hl.1 rfl (lv_room (Nat.le_of_ble_eq_true rfl)) dX11_ask_4 ⟨by rw [hRc]; exact Nat.le_of_ble_eq_true rfl, by rw [hRs]; exact Nat.le_of_ble_eq_true rfl⟩) hP hD hS hA [0, 1, 2, 15, 16, 17, 18, 19, 20, 21, 22, 23, 26] rfl (fun _ => rfl) ?_
  clear hP hD hS
  clear H locs
  intro v1 _u H locs hw hP hD hS
  rcases hw with rfl | ⟨rfl, w2, w3, w4⟩ | ⟨rfl, w5, w6, w7, w8⟩ | ⟨rfl, w9, w10, w11, w12⟩ | ⟨rfl, w13, w14, w15, w16⟩ | ⟨rfl, w17, w18, w19, w20⟩
  · refine lv_istore_n (lv' := [(3, .int (-2)), (0, .ref a_0), (1, .int i_0), (2, .int i_1)]) hx hb dX11_ask_7 rfl hl (by decide) rfl ?_
    clear hl
    clear ls
    intro ls hl
    refine lv_iload_n hx hb dX11_ask_8 rfl (lv_at hl 0 rfl) ?_
    refine lv_if_eq (tgt := 14) hx hb dX11_ask_9 (by decide) (fun c21 => ?_) (fun c21 => ?_)
    · exact mm_eqN c21 mm_km2 mm_k0 (by decide)
    · refine lv_iload_n hx hb dX11_ask_12 rfl (lv_at hl 0 rfl) ?_
      subst hAe
      rw [hQ]
      exact W.iret (v := (-2)) hx hb hr (fun t ht hW => ⟨⟨(-2), (i_31, f_12, i_32, f_13), rfl, ⟨h23, h24, h25, (mm_wk mm_km2 (by decide))⟩, by rw [ht]; exact hP, hK.warm hW, hD⟩, hS.F ht⟩) hS.2.2 dX11_ask_13
  · refine lv_istore_n (lv' := [(3, .int (-6)), (0, .ref a_0), (1, .int i_0), (2, .int i_1)]) hx hb dX11_ask_7 rfl hl (by decide) rfl ?_
    clear hl
    clear ls
    intro ls hl
    refine lv_iload_n hx hb dX11_ask_8 rfl (lv_at hl 0 rfl) ?_
    refine lv_if_eq (tgt := 14) hx hb dX11_ask_9 (by decide) (fun c22 => ?_) (fun c22 => ?_)
    · exact mm_eqN c22 mm_km6 mm_k0 (by decide)
    · refine lv_iload_n hx hb dX11_ask_12 rfl (lv_at hl 0 rfl) ?_
      subst hAe
      rw [hQ]
      exact W.iret (v := (-6)) hx hb hr (fun t ht hW => ⟨⟨(-6), (i_31, f_12, i_32, f_13), rfl, ⟨h23, h24, h25, (mm_wk mm_km6 (by decide))⟩, by rw [ht]; exact hP, hK.warm hW, hD⟩, hS.F ht⟩) hS.2.2 dX11_ask_13
  · refine lv_istore_n (lv' := [(3, .int 0), (0, .ref a_0), (1, .int i_0), (2, .int i_1)]) hx hb dX11_ask_7 rfl hl (by decide) rfl ?_
    clear hl
    clear ls
    intro ls hl
    refine lv_iload_n hx hb dX11_ask_8 rfl (lv_at hl 0 rfl) ?_
    refine lv_if_eq (tgt := 14) hx hb dX11_ask_9 (by decide) (fun c23 => ?_) (fun c23 => ?_)
    · refine lv_aload_n hx hb dX11_ask_14 rfl (lv_at hl 1 rfl) ?_
      refine va_get (D := G) (ci := 11) (v := .ref a_8) (C := RX11) (T := TX11) (N := 11) hx hb hts (mm_i inlX11) hown hK.1 hP 0 rfl rfl 7 (by decide) (mm_h hts mm_w42) (fun _ h9 => h9) rfl dX11_ask_15 ?_
      refine lv_aload_n hx hb dX11_ask_18 rfl (lv_at hl 1 rfl) ?_
      refine va_get (D := G) (ci := 11) (v := .ref a_6) (C := RX11) (T := TX11) (N := 11) hx hb hts (mm_i inlX11) hown hK.1 hP 0 rfl rfl 5 (by decide) (mm_h hts mm_w32) (fun _ h9 => h9) rfl dX11_ask_19 ?_
      refine lv_iload_n hx hb dX11_ask_22 rfl (lv_at hl 2 rfl) ?_
      obtain rfl : i_0 = 0 := mm_is w5 0 (by decide)
      refine va_aldq hx hb hK.1 hP 15 6 rfl rfl (mm_in mm_k0 (by decide)) dX11_ask_23 ?_
      refine W.eq (g2 := F0 m 24 ls [.ref a_33, .ref a_8]) rfl ?_
      refine lv_iload_n hx hb dX11_ask_24 rfl (lv_at hl 3 rfl) ?_
      refine mm_fini (va_runV (As := [.ref a_33, .int i_1]) (rest := []) ⟨hx, hb, hml, hown, hts⟩ (K443_X3_gather l G cy H.size a_8 a_33 i_1 a_3 a_12 a_13 i_2 i_3 i_4 i_5 i_6 i_7 i_8 i_9 a_14 a_15 a_16 a_17 a_18 a_19 a_20 a_21 a_22 a_23 f_0 f_1 f_2 f_3 f_4 a_24 a_25 a_26 a_27 a_28 i_10 i_11 i_12 f_5 a_29 a_30 i_13 i_14 i_15 f_6 a_31 a_32 i_16 i_17 i_18 f_7 i_19 i_20 i_21 a_37 f_8 a_7 a_42 i_32 f_13 w6 h0 h1 h3 h4 h5 h6 h7 h8 h9 h10 h11 h12 h13 h14 h16 h24 h25 w8) (cwV 2 hts (mm_gV mm_w1249 mm_w1250 mm_w1251 mm_w41 mm_w1252) rfl rfl rfl hd_X3_gather ⟨by rw [hRf]; exact Nat.le_of_ble_eq_true rfl, by rw [hRl]; exact Nat.le_of_ble_eq_true rfl⟩) (mm_preV hK hZ hS hA hP hD [1, 2, 3, 4, 5, 6, 7, 8, 9, 10, 11, 12, 13, 14, 16, 17, 26, 27] rfl rfl 26 rfl rfl rfl) rfl rfl hl.1 rfl (lv_room (Nat.le_of_ble_eq_true rfl)) dX11_ask_25 ⟨by rw [hRc]; exact Nat.le_of_ble_eq_true rfl, by rw [hRs]; exact Nat.le_of_ble_eq_true rfl⟩) hP hD hS hA (fun u : Int32 × (Nat → Int32) => [(a_0, .inr (11, [.ref a_1, .ref a_2, .ref a_3, .ref a_4, .ref a_5, .ref a_6, .ref a_7, .ref a_8, .ref a_9, .ref a_10, .ref a_11])), (a_3, .inr (10, [.ref a_12, .ref a_13])), (a_12, .inr (0, [.int i_2, .int i_3, .int i_4, .int i_5, .int i_6, .int i_7, .int i_8, .int i_9, .ref a_14, .ref a_15, .ref a_16, .ref a_17, .ref a_18, .ref a_19, .ref a_20, .ref a_21, .ref a_22, .ref a_23])), (a_14, .inl (cy 1, 9, .inl f_0)), (a_15, .inl (cy 1, 9, .inl f_1)), (a_18, .inl (cy 1, 6, .inl f_2)), (a_19, .inl (cy 1, 48, .inl f_3)), (a_20, .inl (cy 1, 30, .inl f_4)), (a_13, .inl (cy 5, 3, .inr (.inr (.inr (.inr (va_up (va_up (va_up (fun _ => none) 0 (some a_24)) 1 (some a_25)) 2 (some a_26))))))), (a_24, .inr (1, [.ref a_27, .ref a_28, .int i_10, .int i_11, .int i_12])), (a_27, .inl (cy 1, 2100, .inl f_5)), (a_25, .inr (1, [.ref a_29, .ref a_30, .int i_13, .int i_14, .int i_15])), (a_29, .inl (cy 1, 2100, .inl f_6)), (a_26, .inr (1, [.ref a_31, .ref a_32, .int i_16, .int i_17, .int i_18])), (a_31, .inl (cy 1, 2100, .inl f_7)), (a_6, .inl (cy 6, 4, .inr (.inr (.inr (.inr (va_up (va_up (va_up (va_up (fun _ => none) 0 (some a_33)) 1 (some a_34)) 2 (some a_35)) 3 (some a_36))))))), (a_33, .inr (6, [.int i_19, .int i_20, .int i_21, .ref a_37])), (a_37, .inl (cy 2, 60, .inr (.inl f_8))), (a_34, .inr (6, [.int i_22, .int i_23, .int i_24, .ref a_38])), (a_38, .inl (cy 2, 60, .inr (.inl f_9))), (a_35, .inr (6, [.int i_25, .int i_26, .int i_27, .ref a_39])), (a_39, .inl (cy 2, 60, .inr (.inl f_10))), (a_36, .inr (6, [.int i_28, .int i_29, .int i_30, .ref a_40])), (a_40, .inl (cy 2, 60, .inr (.inl f_11))), (a_7, .inr (8, [.ref a_41, .int i_31])), (a_41, .inl (cy 1, 210, .inl f_12)), (a_8, .inr (3, [.ref a_3, .ref a_7, .ref a_42, .int u.1])), (a_42, .inl (cy 1, 210, .inl u.2))]) [1, 2, 3, 4, 5, 6, 7, 8, 9, 10, 11, 12, 13, 14, 16, 17, 26, 27] [0, 15, 18, 19, 20, 21, 22, 23, 24, 25] (n := 28) (fun _ => rfl) (by decide +kernel) (by decide +kernel) rfl (fun _ => rfl) (wr := [(a_0, .inr (11, [.ref a_1, .ref a_2, .ref a_3, .ref a_4, .ref a_5, .ref a_6, .ref a_7, .ref a_8, .ref a_9, .ref a_10, .ref a_11])), (a_6, .inl (cy 6, 4, .inr (.inr (.inr (.inr (va_up (va_up (va_up (va_up (fun _ => none) 0 (some a_33)) 1 (some a_34)) 2 (some a_35)) 3 (some a_36))))))), (a_34, .inr (6, [.int i_22, .int i_23, .int i_24, .ref a_38])), (a_38, .inl (cy 2, 60, .inr (.inl f_9))), (a_35, .inr (6, [.int i_25, .int i_26, .int i_27, .ref a_39])), (a_39, .inl (cy 2, 60, .inr (.inl f_10))), (a_36, .inr (6, [.int i_28, .int i_29, .int i_30, .ref a_40])), (a_40, .inl (cy 2, 60, .inr (.inl f_11))), (a_7, .inr (8, [.ref a_41, .int i_31])), (a_41, .inl (cy 1, 210, .inl f_12))]) rfl (fun _ => rfl) (fun _ => rfl) ?_
      clear hP hD hS
      clear H locs
      intro v26 u
      obtain ⟨n24, n25⟩ := u
      intro H locs hw (hP : va_P G vwCl [(a_0, .inr (11, [.ref a_1, .ref a_2, .ref a_3, .ref a_4, .ref a_5, .ref a_6, .ref a_7, .ref a_8, .ref a_9, .ref a_10, .ref a_11])), (a_3, .inr (10, [.ref a_12, .ref a_13])), (a_12, .inr (0, [.int i_2, .int i_3, .int i_4, .int i_5, .int i_6, .int i_7, .int i_8, .int i_9, .ref a_14, .ref a_15, .ref a_16, .ref a_17, .ref a_18, .ref a_19, .ref a_20, .ref a_21, .ref a_22, .ref a_23])), (a_14, .inl (cy 1, 9, .inl f_0)), (a_15, .inl (cy 1, 9, .inl f_1)), (a_18, .inl (cy 1, 6, .inl f_2)), (a_19, .inl (cy 1, 48, .inl f_3)), (a_20, .inl (cy 1, 30, .inl f_4)), (a_13, .inl (cy 5, 3, .inr (.inr (.inr (.inr (va_up (va_up (va_up (fun _ => none) 0 (some a_24)) 1 (some a_25)) 2 (some a_26))))))), (a_24, .inr (1, [.ref a_27, .ref a_28, .int i_10, .int i_11, .int i_12])), (a_27, .inl (cy 1, 2100, .inl f_5)), (a_25, .inr (1, [.ref a_29, .ref a_30, .int i_13, .int i_14, .int i_15])), (a_29, .inl (cy 1, 2100, .inl f_6)), (a_26, .inr (1, [.ref a_31, .ref a_32, .int i_16, .int i_17, .int i_18])), (a_31, .inl (cy 1, 2100, .inl f_7)), (a_6, .inl (cy 6, 4, .inr (.inr (.inr (.inr (va_up (va_up (va_up (va_up (fun _ => none) 0 (some a_33)) 1 (some a_34)) 2 (some a_35)) 3 (some a_36))))))), (a_33, .inr (6, [.int i_19, .int i_20, .int i_21, .ref a_37])), (a_37, .inl (cy 2, 60, .inr (.inl f_8))), (a_34, .inr (6, [.int i_22, .int i_23, .int i_24, .ref a_38])), (a_38, .inl (cy 2, 60, .inr (.inl f_9))), (a_35, .inr (6, [.int i_25, .int i_26, .int i_27, .ref a_39])), (a_39, .inl (cy 2, 60, .inr (.inl f_10))), (a_36, .inr (6, [.int i_28, .int i_29, .int i_30, .ref a_40])), (a_40, .inl (cy 2, 60, .inr (.inl f_11))), (a_7, .inr (8, [.ref a_41, .int i_31])), (a_41, .inl (cy 1, 210, .inl f_12)), (a_8, .inr (3, [.ref a_3, .ref a_7, .ref a_42, .int n24])), (a_42, .inl (cy 1, 210, .inl n25))] H) (hD : va_D A [(a_0, .inr (11, [.ref a_1, .ref a_2, .ref a_3, .ref a_4, .ref a_5, .ref a_6, .ref a_7, .ref a_8, .ref a_9, .ref a_10, .ref a_11])), (a_3, .inr (10, [.ref a_12, .ref a_13])), (a_12, .inr (0, [.int i_2, .int i_3, .int i_4, .int i_5, .int i_6, .int i_7, .int i_8, .int i_9, .ref a_14, .ref a_15, .ref a_16, .ref a_17, .ref a_18, .ref a_19, .ref a_20, .ref a_21, .ref a_22, .ref a_23])), (a_14, .inl (cy 1, 9, .inl f_0)), (a_15, .inl (cy 1, 9, .inl f_1)), (a_18, .inl (cy 1, 6, .inl f_2)), (a_19, .inl (cy 1, 48, .inl f_3)), (a_20, .inl (cy 1, 30, .inl f_4)), (a_13, .inl (cy 5, 3, .inr (.inr (.inr (.inr (va_up (va_up (va_up (fun _ => none) 0 (some a_24)) 1 (some a_25)) 2 (some a_26))))))), (a_24, .inr (1, [.ref a_27, .ref a_28, .int i_10, .int i_11, .int i_12])), (a_27, .inl (cy 1, 2100, .inl f_5)), (a_25, .inr (1, [.ref a_29, .ref a_30, .int i_13, .int i_14, .int i_15])), (a_29, .inl (cy 1, 2100, .inl f_6)), (a_26, .inr (1, [.ref a_31, .ref a_32, .int i_16, .int i_17, .int i_18])), (a_31, .inl (cy 1, 2100, .inl f_7)), (a_6, .inl (cy 6, 4, .inr (.inr (.inr (.inr (va_up (va_up (va_up (va_up (fun _ => none) 0 (some a_33)) 1 (some a_34)) 2 (some a_35)) 3 (some a_36))))))), (a_33, .inr (6, [.int i_19, .int i_20, .int i_21, .ref a_37])), (a_37, .inl (cy 2, 60, .inr (.inl f_8))), (a_34, .inr (6, [.int i_22, .int i_23, .int i_24, .ref a_38])), (a_38, .inl (cy 2, 60, .inr (.inl f_9))), (a_35, .inr (6, [.int i_25, .int i_26, .int i_27, .ref a_39])), (a_39, .inl (cy 2, 60, .inr (.inl f_10))), (a_36, .inr (6, [.int i_28, .int i_29, .int i_30, .ref a_40])), (a_40, .inl (cy 2, 60, .inr (.inl f_11))), (a_7, .inr (8, [.ref a_41, .int i_31])), (a_41, .inl (cy 1, 210, .inl f_12)), (a_8, .inr (3, [.ref a_3, .ref a_7, .ref a_42, .int n24])), (a_42, .inl (cy 1, 210, .inl n25))]) hS
      obtain ⟨w27, w28, hw⟩ := hw
      have w29 := hw
      refine lv_pop hx hb dX11_ask_28 rfl ?_
      refine lv_aload_n hx hb dX11_ask_29 rfl (lv_at hl 1 rfl) ?_
      refine va_get (D := G) (ci := 11) (v := .ref a_8) (C := RX11) (T := TX11) (N := 11) hx hb hts (mm_i inlX11) hown hK.1 hP 0 rfl rfl 7 (by decide) (mm_h hts mm_w42) (fun _ h9 => h9) rfl dX11_ask_30 ?_
      refine lv_iload_n hx hb dX11_ask_33 rfl (lv_at hl 3 rfl) ?_
      refine mm_fini (va_runV (As := [.int i_1]) (rest := []) ⟨hx, hb, hml, hown, hts⟩ (K450_X3_question l G cy H.size a_8 i_1 a_3 a_12 a_13 i_2 i_3 i_4 i_5 i_6 i_7 i_8 i_9 a_14 a_15 a_16 a_17 a_18 a_19 a_20 a_21 a_22 a_23 f_0 f_1 f_2 f_3 f_4 a_24 a_25 a_26 a_27 a_28 i_10 i_11 i_12 f_5 a_29 a_30 i_13 i_14 i_15 f_6 a_31 a_32 i_16 i_17 i_18 f_7 a_7 a_41 i_31 f_12 a_42 n24 n25 w6 h0 h1 h3 h4 h5 h6 h7 h8 h9 h10 h11 h12 h13 h14 h23 w27 w28) (cwV 1 hts (mm_gV mm_w1297 mm_w1298 mm_w1299 mm_w41 mm_w1300) rfl rfl rfl hd_X3_question ⟨by rw [hRf]; exact Nat.le_of_ble_eq_true rfl, by rw [hRl]; exact Nat.le_of_ble_eq_true rfl⟩) (mm_preV hK hZ hS hA hP hD [1, 2, 3, 4, 5, 6, 7, 8, 9, 10, 11, 12, 13, 14, 24, 25, 26, 27] rfl rfl 26 rfl rfl rfl) rfl rfl hl.1 rfl (lv_room (Nat.le_of_ble_eq_true rfl)) dX11_ask_34 ⟨by rw [hRc]; exact Nat.le_of_ble_eq_true rfl, by rw [hRs]; exact Nat.le_of_ble_eq_true rfl⟩) hP hD hS hA (fun u : Int32 × (Nat → Int32) => [(a_0, .inr (11, [.ref a_1, .ref a_2, .ref a_3, .ref a_4, .ref a_5, .ref a_6, .ref a_7, .ref a_8, .ref a_9, .ref a_10, .ref a_11])), (a_3, .inr (10, [.ref a_12, .ref a_13])), (a_12, .inr (0, [.int i_2, .int i_3, .int i_4, .int i_5, .int i_6, .int i_7, .int i_8, .int i_9, .ref a_14, .ref a_15, .ref a_16, .ref a_17, .ref a_18, .ref a_19, .ref a_20, .ref a_21, .ref a_22, .ref a_23])), (a_14, .inl (cy 1, 9, .inl f_0)), (a_15, .inl (cy 1, 9, .inl f_1)), (a_18, .inl (cy 1, 6, .inl f_2)), (a_19, .inl (cy 1, 48, .inl f_3)), (a_20, .inl (cy 1, 30, .inl f_4)), (a_13, .inl (cy 5, 3, .inr (.inr (.inr (.inr (va_up (va_up (va_up (fun _ => none) 0 (some a_24)) 1 (some a_25)) 2 (some a_26))))))), (a_24, .inr (1, [.ref a_27, .ref a_28, .int i_10, .int i_11, .int i_12])), (a_27, .inl (cy 1, 2100, .inl f_5)), (a_25, .inr (1, [.ref a_29, .ref a_30, .int i_13, .int i_14, .int i_15])), (a_29, .inl (cy 1, 2100, .inl f_6)), (a_26, .inr (1, [.ref a_31, .ref a_32, .int i_16, .int i_17, .int i_18])), (a_31, .inl (cy 1, 2100, .inl f_7)), (a_6, .inl (cy 6, 4, .inr (.inr (.inr (.inr (va_up (va_up (va_up (va_up (fun _ => none) 0 (some a_33)) 1 (some a_34)) 2 (some a_35)) 3 (some a_36))))))), (a_33, .inr (6, [.int i_19, .int i_20, .int i_21, .ref a_37])), (a_37, .inl (cy 2, 60, .inr (.inl f_8))), (a_34, .inr (6, [.int i_22, .int i_23, .int i_24, .ref a_38])), (a_38, .inl (cy 2, 60, .inr (.inl f_9))), (a_35, .inr (6, [.int i_25, .int i_26, .int i_27, .ref a_39])), (a_39, .inl (cy 2, 60, .inr (.inl f_10))), (a_36, .inr (6, [.int i_28, .int i_29, .int i_30, .ref a_40])), (a_40, .inl (cy 2, 60, .inr (.inl f_11))), (a_7, .inr (8, [.ref a_41, .int u.1])), (a_41, .inl (cy 1, 210, .inl u.2)), (a_8, .inr (3, [.ref a_3, .ref a_7, .ref a_42, .int n24])), (a_42, .inl (cy 1, 210, .inl n25))]) [1, 2, 3, 4, 5, 6, 7, 8, 9, 10, 11, 12, 13, 14, 24, 25, 26, 27] [0, 15, 16, 17, 18, 19, 20, 21, 22, 23] (n := 28) (fun _ => rfl) (by decide +kernel) (by decide +kernel) rfl (fun _ => rfl) (wr := [(a_0, .inr (11, [.ref a_1, .ref a_2, .ref a_3, .ref a_4, .ref a_5, .ref a_6, .ref a_7, .ref a_8, .ref a_9, .ref a_10, .ref a_11])), (a_6, .inl (cy 6, 4, .inr (.inr (.inr (.inr (va_up (va_up (va_up (va_up (fun _ => none) 0 (some a_33)) 1 (some a_34)) 2 (some a_35)) 3 (some a_36))))))), (a_33, .inr (6, [.int i_19, .int i_20, .int i_21, .ref a_37])), (a_37, .inl (cy 2, 60, .inr (.inl f_8))), (a_34, .inr (6, [.int i_22, .int i_23, .int i_24, .ref a_38])), (a_38, .inl (cy 2, 60, .inr (.inl f_9))), (a_35, .inr (6, [.int i_25, .int i_26, .int i_27, .ref a_39])), (a_39, .inl (cy 2, 60, .inr (.inl f_10))), (a_36, .inr (6, [.int i_28, .int i_29, .int i_30, .ref a_40])), (a_40, .inl (cy 2, 60, .inr (.inl f_11)))]) rfl (fun _ => rfl) (fun _ => rfl) ?_
      clear hP hD hS
      clear H locs
      intro v32 u
      obtain ⟨n30, n31⟩ := u
      intro H locs hw (hP : va_P G vwCl [(a_0, .inr (11, [.ref a_1, .ref a_2, .ref a_3, .ref a_4, .ref a_5, .ref a_6, .ref a_7, .ref a_8, .ref a_9, .ref a_10, .ref a_11])), (a_3, .inr (10, [.ref a_12, .ref a_13])), (a_12, .inr (0, [.int i_2, .int i_3, .int i_4, .int i_5, .int i_6, .int i_7, .int i_8, .int i_9, .ref a_14, .ref a_15, .ref a_16, .ref a_17, .ref a_18, .ref a_19, .ref a_20, .ref a_21, .ref a_22, .ref a_23])), (a_14, .inl (cy 1, 9, .inl f_0)), (a_15, .inl (cy 1, 9, .inl f_1)), (a_18, .inl (cy 1, 6, .inl f_2)), (a_19, .inl (cy 1, 48, .inl f_3)), (a_20, .inl (cy 1, 30, .inl f_4)), (a_13, .inl (cy 5, 3, .inr (.inr (.inr (.inr (va_up (va_up (va_up (fun _ => none) 0 (some a_24)) 1 (some a_25)) 2 (some a_26))))))), (a_24, .inr (1, [.ref a_27, .ref a_28, .int i_10, .int i_11, .int i_12])), (a_27, .inl (cy 1, 2100, .inl f_5)), (a_25, .inr (1, [.ref a_29, .ref a_30, .int i_13, .int i_14, .int i_15])), (a_29, .inl (cy 1, 2100, .inl f_6)), (a_26, .inr (1, [.ref a_31, .ref a_32, .int i_16, .int i_17, .int i_18])), (a_31, .inl (cy 1, 2100, .inl f_7)), (a_6, .inl (cy 6, 4, .inr (.inr (.inr (.inr (va_up (va_up (va_up (va_up (fun _ => none) 0 (some a_33)) 1 (some a_34)) 2 (some a_35)) 3 (some a_36))))))), (a_33, .inr (6, [.int i_19, .int i_20, .int i_21, .ref a_37])), (a_37, .inl (cy 2, 60, .inr (.inl f_8))), (a_34, .inr (6, [.int i_22, .int i_23, .int i_24, .ref a_38])), (a_38, .inl (cy 2, 60, .inr (.inl f_9))), (a_35, .inr (6, [.int i_25, .int i_26, .int i_27, .ref a_39])), (a_39, .inl (cy 2, 60, .inr (.inl f_10))), (a_36, .inr (6, [.int i_28, .int i_29, .int i_30, .ref a_40])), (a_40, .inl (cy 2, 60, .inr (.inl f_11))), (a_7, .inr (8, [.ref a_41, .int n30])), (a_41, .inl (cy 1, 210, .inl n31)), (a_8, .inr (3, [.ref a_3, .ref a_7, .ref a_42, .int n24])), (a_42, .inl (cy 1, 210, .inl n25))] H) (hD : va_D A [(a_0, .inr (11, [.ref a_1, .ref a_2, .ref a_3, .ref a_4, .ref a_5, .ref a_6, .ref a_7, .ref a_8, .ref a_9, .ref a_10, .ref a_11])), (a_3, .inr (10, [.ref a_12, .ref a_13])), (a_12, .inr (0, [.int i_2, .int i_3, .int i_4, .int i_5, .int i_6, .int i_7, .int i_8, .int i_9, .ref a_14, .ref a_15, .ref a_16, .ref a_17, .ref a_18, .ref a_19, .ref a_20, .ref a_21, .ref a_22, .ref a_23])), (a_14, .inl (cy 1, 9, .inl f_0)), (a_15, .inl (cy 1, 9, .inl f_1)), (a_18, .inl (cy 1, 6, .inl f_2)), (a_19, .inl (cy 1, 48, .inl f_3)), (a_20, .inl (cy 1, 30, .inl f_4)), (a_13, .inl (cy 5, 3, .inr (.inr (.inr (.inr (va_up (va_up (va_up (fun _ => none) 0 (some a_24)) 1 (some a_25)) 2 (some a_26))))))), (a_24, .inr (1, [.ref a_27, .ref a_28, .int i_10, .int i_11, .int i_12])), (a_27, .inl (cy 1, 2100, .inl f_5)), (a_25, .inr (1, [.ref a_29, .ref a_30, .int i_13, .int i_14, .int i_15])), (a_29, .inl (cy 1, 2100, .inl f_6)), (a_26, .inr (1, [.ref a_31, .ref a_32, .int i_16, .int i_17, .int i_18])), (a_31, .inl (cy 1, 2100, .inl f_7)), (a_6, .inl (cy 6, 4, .inr (.inr (.inr (.inr (va_up (va_up (va_up (va_up (fun _ => none) 0 (some a_33)) 1 (some a_34)) 2 (some a_35)) 3 (some a_36))))))), (a_33, .inr (6, [.int i_19, .int i_20, .int i_21, .ref a_37])), (a_37, .inl (cy 2, 60, .inr (.inl f_8))), (a_34, .inr (6, [.int i_22, .int i_23, .int i_24, .ref a_38])), (a_38, .inl (cy 2, 60, .inr (.inl f_9))), (a_35, .inr (6, [.int i_25, .int i_26, .int i_27, .ref a_39])), (a_39, .inl (cy 2, 60, .inr (.inl f_10))), (a_36, .inr (6, [.int i_28, .int i_29, .int i_30, .ref a_40])), (a_40, .inl (cy 2, 60, .inr (.inl f_11))), (a_7, .inr (8, [.ref a_41, .int n30])), (a_41, .inl (cy 1, 210, .inl n31)), (a_8, .inr (3, [.ref a_3, .ref a_7, .ref a_42, .int n24])), (a_42, .inl (cy 1, 210, .inl n25))]) hS
      obtain ⟨w33, hw⟩ := hw
      have w34 := hw
      subst hAe
      rw [hQ]
      exact W.iret (v := v32) hx hb hr (fun t ht hW => ⟨⟨v32, (n30, n31, n24, n25), rfl, ⟨w33, w27, w28, (mm_wk w34 (by decide))⟩, by rw [ht]; exact hP, hK.warm hW, hD⟩, hS.F ht⟩) hS.2.2 dX11_ask_37
    · have q35 := mm_neL (lo := 1) (mm_ne c23) mm_k0 mm_k0 (by decide) (by decide)
      exact mm_no q35 (by decide)
  · refine lv_istore_n (lv' := [(3, .int 0), (0, .ref a_0), (1, .int i_0), (2, .int i_1)]) hx hb dX11_ask_7 rfl hl (by decide) rfl ?_
    clear hl
    clear ls
    intro ls hl
    refine lv_iload_n hx hb dX11_ask_8 rfl (lv_at hl 0 rfl) ?_
    refine lv_if_eq (tgt := 14) hx hb dX11_ask_9 (by decide) (fun c36 => ?_) (fun c36 => ?_)
    · refine lv_aload_n hx hb dX11_ask_14 rfl (lv_at hl 1 rfl) ?_
      refine va_get (D := G) (ci := 11) (v := .ref a_8) (C := RX11) (T := TX11) (N := 11) hx hb hts (mm_i inlX11) hown hK.1 hP 0 rfl rfl 7 (by decide) (mm_h hts mm_w42) (fun _ h9 => h9) rfl dX11_ask_15 ?_
      refine lv_aload_n hx hb dX11_ask_18 rfl (lv_at hl 1 rfl) ?_
      refine va_get (D := G) (ci := 11) (v := .ref a_6) (C := RX11) (T := TX11) (N := 11) hx hb hts (mm_i inlX11) hown hK.1 hP 0 rfl rfl 5 (by decide) (mm_h hts mm_w32) (fun _ h9 => h9) rfl dX11_ask_19 ?_
      refine lv_iload_n hx hb dX11_ask_22 rfl (lv_at hl 2 rfl) ?_
      obtain rfl : i_0 = 1 := mm_is w9 1 (by decide)
      refine va_aldq hx hb hK.1 hP 15 6 rfl rfl (mm_in mm_k1 (by decide)) dX11_ask_23 ?_
      refine W.eq (g2 := F0 m 24 ls [.ref a_34, .ref a_8]) rfl ?_
      refine lv_iload_n hx hb dX11_ask_24 rfl (lv_at hl 3 rfl) ?_
      refine mm_fini (va_runV (As := [.ref a_34, .int i_1]) (rest := []) ⟨hx, hb, hml, hown, hts⟩ (K443_X3_gather l G cy H.size a_8 a_34 i_1 a_3 a_12 a_13 i_2 i_3 i_4 i_5 i_6 i_7 i_8 i_9 a_14 a_15 a_16 a_17 a_18 a_19 a_20 a_21 a_22 a_23 f_0 f_1 f_2 f_3 f_4 a_24 a_25 a_26 a_27 a_28 i_10 i_11 i_12 f_5 a_29 a_30 i_13 i_14 i_15 f_6 a_31 a_32 i_16 i_17 i_18 f_7 i_22 i_23 i_24 a_38 f_9 a_7 a_42 i_32 f_13 w10 h0 h1 h3 h4 h5 h6 h7 h8 h9 h10 h11 h12 h13 h14 h18 h24 h25 w12) (cwV 2 hts (mm_gV mm_w1249 mm_w1250 mm_w1251 mm_w41 mm_w1252) rfl rfl rfl hd_X3_gather ⟨by rw [hRf]; exact Nat.le_of_ble_eq_true rfl, by rw [hRl]; exact Nat.le_of_ble_eq_true rfl⟩) (mm_preV hK hZ hS hA hP hD [1, 2, 3, 4, 5, 6, 7, 8, 9, 10, 11, 12, 13, 14, 18, 19, 26, 27] rfl rfl 26 rfl rfl rfl) rfl rfl hl.1 rfl (lv_room (Nat.le_of_ble_eq_true rfl)) dX11_ask_25 ⟨by rw [hRc]; exact Nat.le_of_ble_eq_true rfl, by rw [hRs]; exact Nat.le_of_ble_eq_true rfl⟩) hP hD hS hA (fun u : Int32 × (Nat → Int32) => [(a_0, .inr (11, [.ref a_1, .ref a_2, .ref a_3, .ref a_4, .ref a_5, .ref a_6, .ref a_7, .ref a_8, .ref a_9, .ref a_10, .ref a_11])), (a_3, .inr (10, [.ref a_12, .ref a_13])), (a_12, .inr (0, [.int i_2, .int i_3, .int i_4, .int i_5, .int i_6, .int i_7, .int i_8, .int i_9, .ref a_14, .ref a_15, .ref a_16, .ref a_17, .ref a_18, .ref a_19, .ref a_20, .ref a_21, .ref a_22, .ref a_23])), (a_14, .inl (cy 1, 9, .inl f_0)), (a_15, .inl (cy 1, 9, .inl f_1)), (a_18, .inl (cy 1, 6, .inl f_2)), (a_19, .inl (cy 1, 48, .inl f_3)), (a_20, .inl (cy 1, 30, .inl f_4)), (a_13, .inl (cy 5, 3, .inr (.inr (.inr (.inr (va_up (va_up (va_up (fun _ => none) 0 (some a_24)) 1 (some a_25)) 2 (some a_26))))))), (a_24, .inr (1, [.ref a_27, .ref a_28, .int i_10, .int i_11, .int i_12])), (a_27, .inl (cy 1, 2100, .inl f_5)), (a_25, .inr (1, [.ref a_29, .ref a_30, .int i_13, .int i_14, .int i_15])), (a_29, .inl (cy 1, 2100, .inl f_6)), (a_26, .inr (1, [.ref a_31, .ref a_32, .int i_16, .int i_17, .int i_18])), (a_31, .inl (cy 1, 2100, .inl f_7)), (a_6, .inl (cy 6, 4, .inr (.inr (.inr (.inr (va_up (va_up (va_up (va_up (fun _ => none) 0 (some a_33)) 1 (some a_34)) 2 (some a_35)) 3 (some a_36))))))), (a_33, .inr (6, [.int i_19, .int i_20, .int i_21, .ref a_37])), (a_37, .inl (cy 2, 60, .inr (.inl f_8))), (a_34, .inr (6, [.int i_22, .int i_23, .int i_24, .ref a_38])), (a_38, .inl (cy 2, 60, .inr (.inl f_9))), (a_35, .inr (6, [.int i_25, .int i_26, .int i_27, .ref a_39])), (a_39, .inl (cy 2, 60, .inr (.inl f_10))), (a_36, .inr (6, [.int i_28, .int i_29, .int i_30, .ref a_40])), (a_40, .inl (cy 2, 60, .inr (.inl f_11))), (a_7, .inr (8, [.ref a_41, .int i_31])), (a_41, .inl (cy 1, 210, .inl f_12)), (a_8, .inr (3, [.ref a_3, .ref a_7, .ref a_42, .int u.1])), (a_42, .inl (cy 1, 210, .inl u.2))]) [1, 2, 3, 4, 5, 6, 7, 8, 9, 10, 11, 12, 13, 14, 18, 19, 26, 27] [0, 15, 16, 17, 20, 21, 22, 23, 24, 25] (n := 28) (fun _ => rfl) (by decide +kernel) (by decide +kernel) rfl (fun _ => rfl) (wr := [(a_0, .inr (11, [.ref a_1, .ref a_2, .ref a_3, .ref a_4, .ref a_5, .ref a_6, .ref a_7, .ref a_8, .ref a_9, .ref a_10, .ref a_11])), (a_6, .inl (cy 6, 4, .inr (.inr (.inr (.inr (va_up (va_up (va_up (va_up (fun _ => none) 0 (some a_33)) 1 (some a_34)) 2 (some a_35)) 3 (some a_36))))))), (a_33, .inr (6, [.int i_19, .int i_20, .int i_21, .ref a_37])), (a_37, .inl (cy 2, 60, .inr (.inl f_8))), (a_35, .inr (6, [.int i_25, .int i_26, .int i_27, .ref a_39])), (a_39, .inl (cy 2, 60, .inr (.inl f_10))), (a_36, .inr (6, [.int i_28, .int i_29, .int i_30, .ref a_40])), (a_40, .inl (cy 2, 60, .inr (.inl f_11))), (a_7, .inr (8, [.ref a_41, .int i_31])), (a_41, .inl (cy 1, 210, .inl f_12))]) rfl (fun _ => rfl) (fun _ => rfl) ?_
      clear hP hD hS
      clear H locs
      intro v39 u
      obtain ⟨n37, n38⟩ := u
      intro H locs hw (hP : va_P G vwCl [(a_0, .inr (11, [.ref a_1, .ref a_2, .ref a_3, .ref a_4, .ref a_5, .ref a_6, .ref a_7, .ref a_8, .ref a_9, .ref a_10, .ref a_11])), (a_3, .inr (10, [.ref a_12, .ref a_13])), (a_12, .inr (0, [.int i_2, .int i_3, .int i_4, .int i_5, .int i_6, .int i_7, .int i_8, .int i_9, .ref a_14, .ref a_15, .ref a_16, .ref a_17, .ref a_18, .ref a_19, .ref a_20, .ref a_21, .ref a_22, .ref a_23])), (a_14, .inl (cy 1, 9, .inl f_0)), (a_15, .inl (cy 1, 9, .inl f_1)), (a_18, .inl (cy 1, 6, .inl f_2)), (a_19, .inl (cy 1, 48, .inl f_3)), (a_20, .inl (cy 1, 30, .inl f_4)), (a_13, .inl (cy 5, 3, .inr (.inr (.inr (.inr (va_up (va_up (va_up (fun _ => none) 0 (some a_24)) 1 (some a_25)) 2 (some a_26))))))), (a_24, .inr (1, [.ref a_27, .ref a_28, .int i_10, .int i_11, .int i_12])), (a_27, .inl (cy 1, 2100, .inl f_5)), (a_25, .inr (1, [.ref a_29, .ref a_30, .int i_13, .int i_14, .int i_15])), (a_29, .inl (cy 1, 2100, .inl f_6)), (a_26, .inr (1, [.ref a_31, .ref a_32, .int i_16, .int i_17, .int i_18])), (a_31, .inl (cy 1, 2100, .inl f_7)), (a_6, .inl (cy 6, 4, .inr (.inr (.inr (.inr (va_up (va_up (va_up (va_up (fun _ => none) 0 (some a_33)) 1 (some a_34)) 2 (some a_35)) 3 (some a_36))))))), (a_33, .inr (6, [.int i_19, .int i_20, .int i_21, .ref a_37])), (a_37, .inl (cy 2, 60, .inr (.inl f_8))), (a_34, .inr (6, [.int i_22, .int i_23, .int i_24, .ref a_38])), (a_38, .inl (cy 2, 60, .inr (.inl f_9))), (a_35, .inr (6, [.int i_25, .int i_26, .int i_27, .ref a_39])), (a_39, .inl (cy 2, 60, .inr (.inl f_10))), (a_36, .inr (6, [.int i_28, .int i_29, .int i_30, .ref a_40])), (a_40, .inl (cy 2, 60, .inr (.inl f_11))), (a_7, .inr (8, [.ref a_41, .int i_31])), (a_41, .inl (cy 1, 210, .inl f_12)), (a_8, .inr (3, [.ref a_3, .ref a_7, .ref a_42, .int n37])), (a_42, .inl (cy 1, 210, .inl n38))] H) (hD : va_D A [(a_0, .inr (11, [.ref a_1, .ref a_2, .ref a_3, .ref a_4, .ref a_5, .ref a_6, .ref a_7, .ref a_8, .ref a_9, .ref a_10, .ref a_11])), (a_3, .inr (10, [.ref a_12, .ref a_13])), (a_12, .inr (0, [.int i_2, .int i_3, .int i_4, .int i_5, .int i_6, .int i_7, .int i_8, .int i_9, .ref a_14, .ref a_15, .ref a_16, .ref a_17, .ref a_18, .ref a_19, .ref a_20, .ref a_21, .ref a_22, .ref a_23])), (a_14, .inl (cy 1, 9, .inl f_0)), (a_15, .inl (cy 1, 9, .inl f_1)), (a_18, .inl (cy 1, 6, .inl f_2)), (a_19, .inl (cy 1, 48, .inl f_3)), (a_20, .inl (cy 1, 30, .inl f_4)), (a_13, .inl (cy 5, 3, .inr (.inr (.inr (.inr (va_up (va_up (va_up (fun _ => none) 0 (some a_24)) 1 (some a_25)) 2 (some a_26))))))), (a_24, .inr (1, [.ref a_27, .ref a_28, .int i_10, .int i_11, .int i_12])), (a_27, .inl (cy 1, 2100, .inl f_5)), (a_25, .inr (1, [.ref a_29, .ref a_30, .int i_13, .int i_14, .int i_15])), (a_29, .inl (cy 1, 2100, .inl f_6)), (a_26, .inr (1, [.ref a_31, .ref a_32, .int i_16, .int i_17, .int i_18])), (a_31, .inl (cy 1, 2100, .inl f_7)), (a_6, .inl (cy 6, 4, .inr (.inr (.inr (.inr (va_up (va_up (va_up (va_up (fun _ => none) 0 (some a_33)) 1 (some a_34)) 2 (some a_35)) 3 (some a_36))))))), (a_33, .inr (6, [.int i_19, .int i_20, .int i_21, .ref a_37])), (a_37, .inl (cy 2, 60, .inr (.inl f_8))), (a_34, .inr (6, [.int i_22, .int i_23, .int i_24, .ref a_38])), (a_38, .inl (cy 2, 60, .inr (.inl f_9))), (a_35, .inr (6, [.int i_25, .int i_26, .int i_27, .ref a_39])), (a_39, .inl (cy 2, 60, .inr (.inl f_10))), (a_36, .inr (6, [.int i_28, .int i_29, .int i_30, .ref a_40])), (a_40, .inl (cy 2, 60, .inr (.inl f_11))), (a_7, .inr (8, [.ref a_41, .int i_31])), (a_41, .inl (cy 1, 210, .inl f_12)), (a_8, .inr (3, [.ref a_3, .ref a_7, .ref a_42, .int n37])), (a_42, .inl (cy 1, 210, .inl n38))]) hS
      obtain ⟨w40, w41, hw⟩ := hw
      have w42 := hw
      refine lv_pop hx hb dX11_ask_28 rfl ?_
      refine lv_aload_n hx hb dX11_ask_29 rfl (lv_at hl 1 rfl) ?_
      refine va_get (D := G) (ci := 11) (v := .ref a_8) (C := RX11) (T := TX11) (N := 11) hx hb hts (mm_i inlX11) hown hK.1 hP 0 rfl rfl 7 (by decide) (mm_h hts mm_w42) (fun _ h9 => h9) rfl dX11_ask_30 ?_
      refine lv_iload_n hx hb dX11_ask_33 rfl (lv_at hl 3 rfl) ?_
      refine mm_fini (va_runV (As := [.int i_1]) (rest := []) ⟨hx, hb, hml, hown, hts⟩ (K450_X3_question l G cy H.size a_8 i_1 a_3 a_12 a_13 i_2 i_3 i_4 i_5 i_6 i_7 i_8 i_9 a_14 a_15 a_16 a_17 a_18 a_19 a_20 a_21 a_22 a_23 f_0 f_1 f_2 f_3 f_4 a_24 a_25 a_26 a_27 a_28 i_10 i_11 i_12 f_5 a_29 a_30 i_13 i_14 i_15 f_6 a_31 a_32 i_16 i_17 i_18 f_7 a_7 a_41 i_31 f_12 a_42 n37 n38 w10 h0 h1 h3 h4 h5 h6 h7 h8 h9 h10 h11 h12 h13 h14 h23 w40 w41) (cwV 1 hts (mm_gV mm_w1297 mm_w1298 mm_w1299 mm_w41 mm_w1300) rfl rfl rfl hd_X3_question ⟨by rw [hRf]; exact Nat.le_of_ble_eq_true rfl, by rw [hRl]; exact Nat.le_of_ble_eq_true rfl⟩) (mm_preV hK hZ hS hA hP hD [1, 2, 3, 4, 5, 6, 7, 8, 9, 10, 11, 12, 13, 14, 24, 25, 26, 27] rfl rfl 26 rfl rfl rfl) rfl rfl hl.1 rfl (lv_room (Nat.le_of_ble_eq_true rfl)) dX11_ask_34 ⟨by rw [hRc]; exact Nat.le_of_ble_eq_true rfl, by rw [hRs]; exact Nat.le_of_ble_eq_true rfl⟩) hP hD hS hA (fun u : Int32 × (Nat → Int32) => [(a_0, .inr (11, [.ref a_1, .ref a_2, .ref a_3, .ref a_4, .ref a_5, .ref a_6, .ref a_7, .ref a_8, .ref a_9, .ref a_10, .ref a_11])), (a_3, .inr (10, [.ref a_12, .ref a_13])), (a_12, .inr (0, [.int i_2, .int i_3, .int i_4, .int i_5, .int i_6, .int i_7, .int i_8, .int i_9, .ref a_14, .ref a_15, .ref a_16, .ref a_17, .ref a_18, .ref a_19, .ref a_20, .ref a_21, .ref a_22, .ref a_23])), (a_14, .inl (cy 1, 9, .inl f_0)), (a_15, .inl (cy 1, 9, .inl f_1)), (a_18, .inl (cy 1, 6, .inl f_2)), (a_19, .inl (cy 1, 48, .inl f_3)), (a_20, .inl (cy 1, 30, .inl f_4)), (a_13, .inl (cy 5, 3, .inr (.inr (.inr (.inr (va_up (va_up (va_up (fun _ => none) 0 (some a_24)) 1 (some a_25)) 2 (some a_26))))))), (a_24, .inr (1, [.ref a_27, .ref a_28, .int i_10, .int i_11, .int i_12])), (a_27, .inl (cy 1, 2100, .inl f_5)), (a_25, .inr (1, [.ref a_29, .ref a_30, .int i_13, .int i_14, .int i_15])), (a_29, .inl (cy 1, 2100, .inl f_6)), (a_26, .inr (1, [.ref a_31, .ref a_32, .int i_16, .int i_17, .int i_18])), (a_31, .inl (cy 1, 2100, .inl f_7)), (a_6, .inl (cy 6, 4, .inr (.inr (.inr (.inr (va_up (va_up (va_up (va_up (fun _ => none) 0 (some a_33)) 1 (some a_34)) 2 (some a_35)) 3 (some a_36))))))), (a_33, .inr (6, [.int i_19, .int i_20, .int i_21, .ref a_37])), (a_37, .inl (cy 2, 60, .inr (.inl f_8))), (a_34, .inr (6, [.int i_22, .int i_23, .int i_24, .ref a_38])), (a_38, .inl (cy 2, 60, .inr (.inl f_9))), (a_35, .inr (6, [.int i_25, .int i_26, .int i_27, .ref a_39])), (a_39, .inl (cy 2, 60, .inr (.inl f_10))), (a_36, .inr (6, [.int i_28, .int i_29, .int i_30, .ref a_40])), (a_40, .inl (cy 2, 60, .inr (.inl f_11))), (a_7, .inr (8, [.ref a_41, .int u.1])), (a_41, .inl (cy 1, 210, .inl u.2)), (a_8, .inr (3, [.ref a_3, .ref a_7, .ref a_42, .int n37])), (a_42, .inl (cy 1, 210, .inl n38))]) [1, 2, 3, 4, 5, 6, 7, 8, 9, 10, 11, 12, 13, 14, 24, 25, 26, 27] [0, 15, 16, 17, 18, 19, 20, 21, 22, 23] (n := 28) (fun _ => rfl) (by decide +kernel) (by decide +kernel) rfl (fun _ => rfl) (wr := [(a_0, .inr (11, [.ref a_1, .ref a_2, .ref a_3, .ref a_4, .ref a_5, .ref a_6, .ref a_7, .ref a_8, .ref a_9, .ref a_10, .ref a_11])), (a_6, .inl (cy 6, 4, .inr (.inr (.inr (.inr (va_up (va_up (va_up (va_up (fun _ => none) 0 (some a_33)) 1 (some a_34)) 2 (some a_35)) 3 (some a_36))))))), (a_33, .inr (6, [.int i_19, .int i_20, .int i_21, .ref a_37])), (a_37, .inl (cy 2, 60, .inr (.inl f_8))), (a_34, .inr (6, [.int i_22, .int i_23, .int i_24, .ref a_38])), (a_38, .inl (cy 2, 60, .inr (.inl f_9))), (a_35, .inr (6, [.int i_25, .int i_26, .int i_27, .ref a_39])), (a_39, .inl (cy 2, 60, .inr (.inl f_10))), (a_36, .inr (6, [.int i_28, .int i_29, .int i_30, .ref a_40])), (a_40, .inl (cy 2, 60, .inr (.inl f_11)))]) rfl (fun _ => rfl) (fun _ => rfl) ?_
      clear hP hD hS
      clear H locs
      intro v45 u
      obtain ⟨n43, n44⟩ := u
      intro H locs hw (hP : va_P G vwCl [(a_0, .inr (11, [.ref a_1, .ref a_2, .ref a_3, .ref a_4, .ref a_5, .ref a_6, .ref a_7, .ref a_8, .ref a_9, .ref a_10, .ref a_11])), (a_3, .inr (10, [.ref a_12, .ref a_13])), (a_12, .inr (0, [.int i_2, .int i_3, .int i_4, .int i_5, .int i_6, .int i_7, .int i_8, .int i_9, .ref a_14, .ref a_15, .ref a_16, .ref a_17, .ref a_18, .ref a_19, .ref a_20, .ref a_21, .ref a_22, .ref a_23])), (a_14, .inl (cy 1, 9, .inl f_0)), (a_15, .inl (cy 1, 9, .inl f_1)), (a_18, .inl (cy 1, 6, .inl f_2)), (a_19, .inl (cy 1, 48, .inl f_3)), (a_20, .inl (cy 1, 30, .inl f_4)), (a_13, .inl (cy 5, 3, .inr (.inr (.inr (.inr (va_up (va_up (va_up (fun _ => none) 0 (some a_24)) 1 (some a_25)) 2 (some a_26))))))), (a_24, .inr (1, [.ref a_27, .ref a_28, .int i_10, .int i_11, .int i_12])), (a_27, .inl (cy 1, 2100, .inl f_5)), (a_25, .inr (1, [.ref a_29, .ref a_30, .int i_13, .int i_14, .int i_15])), (a_29, .inl (cy 1, 2100, .inl f_6)), (a_26, .inr (1, [.ref a_31, .ref a_32, .int i_16, .int i_17, .int i_18])), (a_31, .inl (cy 1, 2100, .inl f_7)), (a_6, .inl (cy 6, 4, .inr (.inr (.inr (.inr (va_up (va_up (va_up (va_up (fun _ => none) 0 (some a_33)) 1 (some a_34)) 2 (some a_35)) 3 (some a_36))))))), (a_33, .inr (6, [.int i_19, .int i_20, .int i_21, .ref a_37])), (a_37, .inl (cy 2, 60, .inr (.inl f_8))), (a_34, .inr (6, [.int i_22, .int i_23, .int i_24, .ref a_38])), (a_38, .inl (cy 2, 60, .inr (.inl f_9))), (a_35, .inr (6, [.int i_25, .int i_26, .int i_27, .ref a_39])), (a_39, .inl (cy 2, 60, .inr (.inl f_10))), (a_36, .inr (6, [.int i_28, .int i_29, .int i_30, .ref a_40])), (a_40, .inl (cy 2, 60, .inr (.inl f_11))), (a_7, .inr (8, [.ref a_41, .int n43])), (a_41, .inl (cy 1, 210, .inl n44)), (a_8, .inr (3, [.ref a_3, .ref a_7, .ref a_42, .int n37])), (a_42, .inl (cy 1, 210, .inl n38))] H) (hD : va_D A [(a_0, .inr (11, [.ref a_1, .ref a_2, .ref a_3, .ref a_4, .ref a_5, .ref a_6, .ref a_7, .ref a_8, .ref a_9, .ref a_10, .ref a_11])), (a_3, .inr (10, [.ref a_12, .ref a_13])), (a_12, .inr (0, [.int i_2, .int i_3, .int i_4, .int i_5, .int i_6, .int i_7, .int i_8, .int i_9, .ref a_14, .ref a_15, .ref a_16, .ref a_17, .ref a_18, .ref a_19, .ref a_20, .ref a_21, .ref a_22, .ref a_23])), (a_14, .inl (cy 1, 9, .inl f_0)), (a_15, .inl (cy 1, 9, .inl f_1)), (a_18, .inl (cy 1, 6, .inl f_2)), (a_19, .inl (cy 1, 48, .inl f_3)), (a_20, .inl (cy 1, 30, .inl f_4)), (a_13, .inl (cy 5, 3, .inr (.inr (.inr (.inr (va_up (va_up (va_up (fun _ => none) 0 (some a_24)) 1 (some a_25)) 2 (some a_26))))))), (a_24, .inr (1, [.ref a_27, .ref a_28, .int i_10, .int i_11, .int i_12])), (a_27, .inl (cy 1, 2100, .inl f_5)), (a_25, .inr (1, [.ref a_29, .ref a_30, .int i_13, .int i_14, .int i_15])), (a_29, .inl (cy 1, 2100, .inl f_6)), (a_26, .inr (1, [.ref a_31, .ref a_32, .int i_16, .int i_17, .int i_18])), (a_31, .inl (cy 1, 2100, .inl f_7)), (a_6, .inl (cy 6, 4, .inr (.inr (.inr (.inr (va_up (va_up (va_up (va_up (fun _ => none) 0 (some a_33)) 1 (some a_34)) 2 (some a_35)) 3 (some a_36))))))), (a_33, .inr (6, [.int i_19, .int i_20, .int i_21, .ref a_37])), (a_37, .inl (cy 2, 60, .inr (.inl f_8))), (a_34, .inr (6, [.int i_22, .int i_23, .int i_24, .ref a_38])), (a_38, .inl (cy 2, 60, .inr (.inl f_9))), (a_35, .inr (6, [.int i_25, .int i_26, .int i_27, .ref a_39])), (a_39, .inl (cy 2, 60, .inr (.inl f_10))), (a_36, .inr (6, [.int i_28, .int i_29, .int i_30, .ref a_40])), (a_40, .inl (cy 2, 60, .inr (.inl f_11))), (a_7, .inr (8, [.ref a_41, .int n43])), (a_41, .inl (cy 1, 210, .inl n44)), (a_8, .inr (3, [.ref a_3, .ref a_7, .ref a_42, .int n37])), (a_42, .inl (cy 1, 210, .inl n38))]) hS
      obtain ⟨w46, hw⟩ := hw
      have w47 := hw
      subst hAe
      rw [hQ]
      exact W.iret (v := v45) hx hb hr (fun t ht hW => ⟨⟨v45, (n43, n44, n37, n38), rfl, ⟨w46, w40, w41, (mm_wk w47 (by decide))⟩, by rw [ht]; exact hP, hK.warm hW, hD⟩, hS.F ht⟩) hS.2.2 dX11_ask_37
    · have q48 := mm_neL (lo := 1) (mm_ne c36) mm_k0 mm_k0 (by decide) (by decide)
      exact mm_no q48 (by decide)
  · refine lv_istore_n (lv' := [(3, .int 0), (0, .ref a_0), (1, .int i_0), (2, .int i_1)]) hx hb dX11_ask_7 rfl hl (by decide) rfl ?_
    clear hl
    clear ls
    intro ls hl
    refine lv_iload_n hx hb dX11_ask_8 rfl (lv_at hl 0 rfl) ?_
    refine lv_if_eq (tgt := 14) hx hb dX11_ask_9 (by decide) (fun c49 => ?_) (fun c49 => ?_)
    · refine lv_aload_n hx hb dX11_ask_14 rfl (lv_at hl 1 rfl) ?_
      refine va_get (D := G) (ci := 11) (v := .ref a_8) (C := RX11) (T := TX11) (N := 11) hx hb hts (mm_i inlX11) hown hK.1 hP 0 rfl rfl 7 (by decide) (mm_h hts mm_w42) (fun _ h9 => h9) rfl dX11_ask_15 ?_
      refine lv_aload_n hx hb dX11_ask_18 rfl (lv_at hl 1 rfl) ?_
      refine va_get (D := G) (ci := 11) (v := .ref a_6) (C := RX11) (T := TX11) (N := 11) hx hb hts (mm_i inlX11) hown hK.1 hP 0 rfl rfl 5 (by decide) (mm_h hts mm_w32) (fun _ h9 => h9) rfl dX11_ask_19 ?_
      refine lv_iload_n hx hb dX11_ask_22 rfl (lv_at hl 2 rfl) ?_
      obtain rfl : i_0 = 2 := mm_is w13 2 (by decide)
      refine va_aldq hx hb hK.1 hP 15 6 rfl rfl (mm_in mm_k2 (by decide)) dX11_ask_23 ?_
      refine W.eq (g2 := F0 m 24 ls [.ref a_35, .ref a_8]) rfl ?_
      refine lv_iload_n hx hb dX11_ask_24 rfl (lv_at hl 3 rfl) ?_
      refine mm_fini (va_runV (As := [.ref a_35, .int i_1]) (rest := []) ⟨hx, hb, hml, hown, hts⟩ (K443_X3_gather l G cy H.size a_8 a_35 i_1 a_3 a_12 a_13 i_2 i_3 i_4 i_5 i_6 i_7 i_8 i_9 a_14 a_15 a_16 a_17 a_18 a_19 a_20 a_21 a_22 a_23 f_0 f_1 f_2 f_3 f_4 a_24 a_25 a_26 a_27 a_28 i_10 i_11 i_12 f_5 a_29 a_30 i_13 i_14 i_15 f_6 a_31 a_32 i_16 i_17 i_18 f_7 i_25 i_26 i_27 a_39 f_10 a_7 a_42 i_32 f_13 w14 h0 h1 h3 h4 h5 h6 h7 h8 h9 h10 h11 h12 h13 h14 h20 h24 h25 w16) (cwV 2 hts (mm_gV mm_w1249 mm_w1250 mm_w1251 mm_w41 mm_w1252) rfl rfl rfl hd_X3_gather ⟨by rw [hRf]; exact Nat.le_of_ble_eq_true rfl, by rw [hRl]; exact Nat.le_of_ble_eq_true rfl⟩) (mm_preV hK hZ hS hA hP hD [1, 2, 3, 4, 5, 6, 7, 8, 9, 10, 11, 12, 13, 14, 20, 21, 26, 27] rfl rfl 26 rfl rfl rfl) rfl rfl hl.1 rfl (lv_room (Nat.le_of_ble_eq_true rfl)) dX11_ask_25 ⟨by rw [hRc]; exact Nat.le_of_ble_eq_true rfl, by rw [hRs]; exact Nat.le_of_ble_eq_true rfl⟩) hP hD hS hA (fun u : Int32 × (Nat → Int32) => [(a_0, .inr (11, [.ref a_1, .ref a_2, .ref a_3, .ref a_4, .ref a_5, .ref a_6, .ref a_7, .ref a_8, .ref a_9, .ref a_10, .ref a_11])), (a_3, .inr (10, [.ref a_12, .ref a_13])), (a_12, .inr (0, [.int i_2, .int i_3, .int i_4, .int i_5, .int i_6, .int i_7, .int i_8, .int i_9, .ref a_14, .ref a_15, .ref a_16, .ref a_17, .ref a_18, .ref a_19, .ref a_20, .ref a_21, .ref a_22, .ref a_23])), (a_14, .inl (cy 1, 9, .inl f_0)), (a_15, .inl (cy 1, 9, .inl f_1)), (a_18, .inl (cy 1, 6, .inl f_2)), (a_19, .inl (cy 1, 48, .inl f_3)), (a_20, .inl (cy 1, 30, .inl f_4)), (a_13, .inl (cy 5, 3, .inr (.inr (.inr (.inr (va_up (va_up (va_up (fun _ => none) 0 (some a_24)) 1 (some a_25)) 2 (some a_26))))))), (a_24, .inr (1, [.ref a_27, .ref a_28, .int i_10, .int i_11, .int i_12])), (a_27, .inl (cy 1, 2100, .inl f_5)), (a_25, .inr (1, [.ref a_29, .ref a_30, .int i_13, .int i_14, .int i_15])), (a_29, .inl (cy 1, 2100, .inl f_6)), (a_26, .inr (1, [.ref a_31, .ref a_32, .int i_16, .int i_17, .int i_18])), (a_31, .inl (cy 1, 2100, .inl f_7)), (a_6, .inl (cy 6, 4, .inr (.inr (.inr (.inr (va_up (va_up (va_up (va_up (fun _ => none) 0 (some a_33)) 1 (some a_34)) 2 (some a_35)) 3 (some a_36))))))), (a_33, .inr (6, [.int i_19, .int i_20, .int i_21, .ref a_37])), (a_37, .inl (cy 2, 60, .inr (.inl f_8))), (a_34, .inr (6, [.int i_22, .int i_23, .int i_24, .ref a_38])), (a_38, .inl (cy 2, 60, .inr (.inl f_9))), (a_35, .inr (6, [.int i_25, .int i_26, .int i_27, .ref a_39])), (a_39, .inl (cy 2, 60, .inr (.inl f_10))), (a_36, .inr (6, [.int i_28, .int i_29, .int i_30, .ref a_40])), (a_40, .inl (cy 2, 60, .inr (.inl f_11))), (a_7, .inr (8, [.ref a_41, .int i_31])), (a_41, .inl (cy 1, 210, .inl f_12)), (a_8, .inr (3, [.ref a_3, .ref a_7, .ref a_42, .int u.1])), (a_42, .inl (cy 1, 210, .inl u.2))]) [1, 2, 3, 4, 5, 6, 7, 8, 9, 10, 11, 12, 13, 14, 20, 21, 26, 27] [0, 15, 16, 17, 18, 19, 22, 23, 24, 25] (n := 28) (fun _ => rfl) (by decide +kernel) (by decide +kernel) rfl (fun _ => rfl) (wr := [(a_0, .inr (11, [.ref a_1, .ref a_2, .ref a_3, .ref a_4, .ref a_5, .ref a_6, .ref a_7, .ref a_8, .ref a_9, .ref a_10, .ref a_11])), (a_6, .inl (cy 6, 4, .inr (.inr (.inr (.inr (va_up (va_up (va_up (va_up (fun _ => none) 0 (some a_33)) 1 (some a_34)) 2 (some a_35)) 3 (some a_36))))))), (a_33, .inr (6, [.int i_19, .int i_20, .int i_21, .ref a_37])), (a_37, .inl (cy 2, 60, .inr (.inl f_8))), (a_34, .inr (6, [.int i_22, .int i_23, .int i_24, .ref a_38])), (a_38, .inl (cy 2, 60, .inr (.inl f_9))), (a_36, .inr (6, [.int i_28, .int i_29, .int i_30, .ref a_40])), (a_40, .inl (cy 2, 60, .inr (.inl f_11))), (a_7, .inr (8, [.ref a_41, .int i_31])), (a_41, .inl (cy 1, 210, .inl f_12))]) rfl (fun _ => rfl) (fun _ => rfl) ?_
      clear hP hD hS
      clear H locs
      intro v52 u
      obtain ⟨n50, n51⟩ := u
      intro H locs hw (hP : va_P G vwCl [(a_0, .inr (11, [.ref a_1, .ref a_2, .ref a_3, .ref a_4, .ref a_5, .ref a_6, .ref a_7, .ref a_8, .ref a_9, .ref a_10, .ref a_11])), (a_3, .inr (10, [.ref a_12, .ref a_13])), (a_12, .inr (0, [.int i_2, .int i_3, .int i_4, .int i_5, .int i_6, .int i_7, .int i_8, .int i_9, .ref a_14, .ref a_15, .ref a_16, .ref a_17, .ref a_18, .ref a_19, .ref a_20, .ref a_21, .ref a_22, .ref a_23])), (a_14, .inl (cy 1, 9, .inl f_0)), (a_15, .inl (cy 1, 9, .inl f_1)), (a_18, .inl (cy 1, 6, .inl f_2)), (a_19, .inl (cy 1, 48, .inl f_3)), (a_20, .inl (cy 1, 30, .inl f_4)), (a_13, .inl (cy 5, 3, .inr (.inr (.inr (.inr (va_up (va_up (va_up (fun _ => none) 0 (some a_24)) 1 (some a_25)) 2 (some a_26))))))), (a_24, .inr (1, [.ref a_27, .ref a_28, .int i_10, .int i_11, .int i_12])), (a_27, .inl (cy 1, 2100, .inl f_5)), (a_25, .inr (1, [.ref a_29, .ref a_30, .int i_13, .int i_14, .int i_15])), (a_29, .inl (cy 1, 2100, .inl f_6)), (a_26, .inr (1, [.ref a_31, .ref a_32, .int i_16, .int i_17, .int i_18])), (a_31, .inl (cy 1, 2100, .inl f_7)), (a_6, .inl (cy 6, 4, .inr (.inr (.inr (.inr (va_up (va_up (va_up (va_up (fun _ => none) 0 (some a_33)) 1 (some a_34)) 2 (some a_35)) 3 (some a_36))))))), (a_33, .inr (6, [.int i_19, .int i_20, .int i_21, .ref a_37])), (a_37, .inl (cy 2, 60, .inr (.inl f_8))), (a_34, .inr (6, [.int i_22, .int i_23, .int i_24, .ref a_38])), (a_38, .inl (cy 2, 60, .inr (.inl f_9))), (a_35, .inr (6, [.int i_25, .int i_26, .int i_27, .ref a_39])), (a_39, .inl (cy 2, 60, .inr (.inl f_10))), (a_36, .inr (6, [.int i_28, .int i_29, .int i_30, .ref a_40])), (a_40, .inl (cy 2, 60, .inr (.inl f_11))), (a_7, .inr (8, [.ref a_41, .int i_31])), (a_41, .inl (cy 1, 210, .inl f_12)), (a_8, .inr (3, [.ref a_3, .ref a_7, .ref a_42, .int n50])), (a_42, .inl (cy 1, 210, .inl n51))] H) (hD : va_D A [(a_0, .inr (11, [.ref a_1, .ref a_2, .ref a_3, .ref a_4, .ref a_5, .ref a_6, .ref a_7, .ref a_8, .ref a_9, .ref a_10, .ref a_11])), (a_3, .inr (10, [.ref a_12, .ref a_13])), (a_12, .inr (0, [.int i_2, .int i_3, .int i_4, .int i_5, .int i_6, .int i_7, .int i_8, .int i_9, .ref a_14, .ref a_15, .ref a_16, .ref a_17, .ref a_18, .ref a_19, .ref a_20, .ref a_21, .ref a_22, .ref a_23])), (a_14, .inl (cy 1, 9, .inl f_0)), (a_15, .inl (cy 1, 9, .inl f_1)), (a_18, .inl (cy 1, 6, .inl f_2)), (a_19, .inl (cy 1, 48, .inl f_3)), (a_20, .inl (cy 1, 30, .inl f_4)), (a_13, .inl (cy 5, 3, .inr (.inr (.inr (.inr (va_up (va_up (va_up (fun _ => none) 0 (some a_24)) 1 (some a_25)) 2 (some a_26))))))), (a_24, .inr (1, [.ref a_27, .ref a_28, .int i_10, .int i_11, .int i_12])), (a_27, .inl (cy 1, 2100, .inl f_5)), (a_25, .inr (1, [.ref a_29, .ref a_30, .int i_13, .int i_14, .int i_15])), (a_29, .inl (cy 1, 2100, .inl f_6)), (a_26, .inr (1, [.ref a_31, .ref a_32, .int i_16, .int i_17, .int i_18])), (a_31, .inl (cy 1, 2100, .inl f_7)), (a_6, .inl (cy 6, 4, .inr (.inr (.inr (.inr (va_up (va_up (va_up (va_up (fun _ => none) 0 (some a_33)) 1 (some a_34)) 2 (some a_35)) 3 (some a_36))))))), (a_33, .inr (6, [.int i_19, .int i_20, .int i_21, .ref a_37])), (a_37, .inl (cy 2, 60, .inr (.inl f_8))), (a_34, .inr (6, [.int i_22, .int i_23, .int i_24, .ref a_38])), (a_38, .inl (cy 2, 60, .inr (.inl f_9))), (a_35, .inr (6, [.int i_25, .int i_26, .int i_27, .ref a_39])), (a_39, .inl (cy 2, 60, .inr (.inl f_10))), (a_36, .inr (6, [.int i_28, .int i_29, .int i_30, .ref a_40])), (a_40, .inl (cy 2, 60, .inr (.inl f_11))), (a_7, .inr (8, [.ref a_41, .int i_31])), (a_41, .inl (cy 1, 210, .inl f_12)), (a_8, .inr (3, [.ref a_3, .ref a_7, .ref a_42, .int n50])), (a_42, .inl (cy 1, 210, .inl n51))]) hS
      obtain ⟨w53, w54, hw⟩ := hw
      have w55 := hw
      refine lv_pop hx hb dX11_ask_28 rfl ?_
      refine lv_aload_n hx hb dX11_ask_29 rfl (lv_at hl 1 rfl) ?_
      refine va_get (D := G) (ci := 11) (v := .ref a_8) (C := RX11) (T := TX11) (N := 11) hx hb hts (mm_i inlX11) hown hK.1 hP 0 rfl rfl 7 (by decide) (mm_h hts mm_w42) (fun _ h9 => h9) rfl dX11_ask_30 ?_
      refine lv_iload_n hx hb dX11_ask_33 rfl (lv_at hl 3 rfl) ?_
      refine mm_fini (va_runV (As := [.int i_1]) (rest := []) ⟨hx, hb, hml, hown, hts⟩ (K450_X3_question l G cy H.size a_8 i_1 a_3 a_12 a_13 i_2 i_3 i_4 i_5 i_6 i_7 i_8 i_9 a_14 a_15 a_16 a_17 a_18 a_19 a_20 a_21 a_22 a_23 f_0 f_1 f_2 f_3 f_4 a_24 a_25 a_26 a_27 a_28 i_10 i_11 i_12 f_5 a_29 a_30 i_13 i_14 i_15 f_6 a_31 a_32 i_16 i_17 i_18 f_7 a_7 a_41 i_31 f_12 a_42 n50 n51 w14 h0 h1 h3 h4 h5 h6 h7 h8 h9 h10 h11 h12 h13 h14 h23 w53 w54) (cwV 1 hts (mm_gV mm_w1297 mm_w1298 mm_w1299 mm_w41 mm_w1300) rfl rfl rfl hd_X3_question ⟨by rw [hRf]; exact Nat.le_of_ble_eq_true rfl, by rw [hRl]; exact Nat.le_of_ble_eq_true rfl⟩) (mm_preV hK hZ hS hA hP hD [1, 2, 3, 4, 5, 6, 7, 8, 9, 10, 11, 12, 13, 14, 24, 25, 26, 27] rfl rfl 26 rfl rfl rfl) rfl rfl hl.1 rfl (lv_room (Nat.le_of_ble_eq_true rfl)) dX11_ask_34 ⟨by rw [hRc]; exact Nat.le_of_ble_eq_true rfl, by rw [hRs]; exact Nat.le_of_ble_eq_true rfl⟩) hP hD hS hA (fun u : Int32 × (Nat → Int32) => [(a_0, .inr (11, [.ref a_1, .ref a_2, .ref a_3, .ref a_4, .ref a_5, .ref a_6, .ref a_7, .ref a_8, .ref a_9, .ref a_10, .ref a_11])), (a_3, .inr (10, [.ref a_12, .ref a_13])), (a_12, .inr (0, [.int i_2, .int i_3, .int i_4, .int i_5, .int i_6, .int i_7, .int i_8, .int i_9, .ref a_14, .ref a_15, .ref a_16, .ref a_17, .ref a_18, .ref a_19, .ref a_20, .ref a_21, .ref a_22, .ref a_23])), (a_14, .inl (cy 1, 9, .inl f_0)), (a_15, .inl (cy 1, 9, .inl f_1)), (a_18, .inl (cy 1, 6, .inl f_2)), (a_19, .inl (cy 1, 48, .inl f_3)), (a_20, .inl (cy 1, 30, .inl f_4)), (a_13, .inl (cy 5, 3, .inr (.inr (.inr (.inr (va_up (va_up (va_up (fun _ => none) 0 (some a_24)) 1 (some a_25)) 2 (some a_26))))))), (a_24, .inr (1, [.ref a_27, .ref a_28, .int i_10, .int i_11, .int i_12])), (a_27, .inl (cy 1, 2100, .inl f_5)), (a_25, .inr (1, [.ref a_29, .ref a_30, .int i_13, .int i_14, .int i_15])), (a_29, .inl (cy 1, 2100, .inl f_6)), (a_26, .inr (1, [.ref a_31, .ref a_32, .int i_16, .int i_17, .int i_18])), (a_31, .inl (cy 1, 2100, .inl f_7)), (a_6, .inl (cy 6, 4, .inr (.inr (.inr (.inr (va_up (va_up (va_up (va_up (fun _ => none) 0 (some a_33)) 1 (some a_34)) 2 (some a_35)) 3 (some a_36))))))), (a_33, .inr (6, [.int i_19, .int i_20, .int i_21, .ref a_37])), (a_37, .inl (cy 2, 60, .inr (.inl f_8))), (a_34, .inr (6, [.int i_22, .int i_23, .int i_24, .ref a_38])), (a_38, .inl (cy 2, 60, .inr (.inl f_9))), (a_35, .inr (6, [.int i_25, .int i_26, .int i_27, .ref a_39])), (a_39, .inl (cy 2, 60, .inr (.inl f_10))), (a_36, .inr (6, [.int i_28, .int i_29, .int i_30, .ref a_40])), (a_40, .inl (cy 2, 60, .inr (.inl f_11))), (a_7, .inr (8, [.ref a_41, .int u.1])), (a_41, .inl (cy 1, 210, .inl u.2)), (a_8, .inr (3, [.ref a_3, .ref a_7, .ref a_42, .int n50])), (a_42, .inl (cy 1, 210, .inl n51))]) [1, 2, 3, 4, 5, 6, 7, 8, 9, 10, 11, 12, 13, 14, 24, 25, 26, 27] [0, 15, 16, 17, 18, 19, 20, 21, 22, 23] (n := 28) (fun _ => rfl) (by decide +kernel) (by decide +kernel) rfl (fun _ => rfl) (wr := [(a_0, .inr (11, [.ref a_1, .ref a_2, .ref a_3, .ref a_4, .ref a_5, .ref a_6, .ref a_7, .ref a_8, .ref a_9, .ref a_10, .ref a_11])), (a_6, .inl (cy 6, 4, .inr (.inr (.inr (.inr (va_up (va_up (va_up (va_up (fun _ => none) 0 (some a_33)) 1 (some a_34)) 2 (some a_35)) 3 (some a_36))))))), (a_33, .inr (6, [.int i_19, .int i_20, .int i_21, .ref a_37])), (a_37, .inl (cy 2, 60, .inr (.inl f_8))), (a_34, .inr (6, [.int i_22, .int i_23, .int i_24, .ref a_38])), (a_38, .inl (cy 2, 60, .inr (.inl f_9))), (a_35, .inr (6, [.int i_25, .int i_26, .int i_27, .ref a_39])), (a_39, .inl (cy 2, 60, .inr (.inl f_10))), (a_36, .inr (6, [.int i_28, .int i_29, .int i_30, .ref a_40])), (a_40, .inl (cy 2, 60, .inr (.inl f_11)))]) rfl (fun _ => rfl) (fun _ => rfl) ?_
      clear hP hD hS
      clear H locs
      intro v58 u
      obtain ⟨n56, n57⟩ := u
      intro H locs hw (hP : va_P G vwCl [(a_0, .inr (11, [.ref a_1, .ref a_2, .ref a_3, .ref a_4, .ref a_5, .ref a_6, .ref a_7, .ref a_8, .ref a_9, .ref a_10, .ref a_11])), (a_3, .inr (10, [.ref a_12, .ref a_13])), (a_12, .inr (0, [.int i_2, .int i_3, .int i_4, .int i_5, .int i_6, .int i_7, .int i_8, .int i_9, .ref a_14, .ref a_15, .ref a_16, .ref a_17, .ref a_18, .ref a_19, .ref a_20, .ref a_21, .ref a_22, .ref a_23])), (a_14, .inl (cy 1, 9, .inl f_0)), (a_15, .inl (cy 1, 9, .inl f_1)), (a_18, .inl (cy 1, 6, .inl f_2)), (a_19, .inl (cy 1, 48, .inl f_3)), (a_20, .inl (cy 1, 30, .inl f_4)), (a_13, .inl (cy 5, 3, .inr (.inr (.inr (.inr (va_up (va_up (va_up (fun _ => none) 0 (some a_24)) 1 (some a_25)) 2 (some a_26))))))), (a_24, .inr (1, [.ref a_27, .ref a_28, .int i_10, .int i_11, .int i_12])), (a_27, .inl (cy 1, 2100, .inl f_5)), (a_25, .inr (1, [.ref a_29, .ref a_30, .int i_13, .int i_14, .int i_15])), (a_29, .inl (cy 1, 2100, .inl f_6)), (a_26, .inr (1, [.ref a_31, .ref a_32, .int i_16, .int i_17, .int i_18])), (a_31, .inl (cy 1, 2100, .inl f_7)), (a_6, .inl (cy 6, 4, .inr (.inr (.inr (.inr (va_up (va_up (va_up (va_up (fun _ => none) 0 (some a_33)) 1 (some a_34)) 2 (some a_35)) 3 (some a_36))))))), (a_33, .inr (6, [.int i_19, .int i_20, .int i_21, .ref a_37])), (a_37, .inl (cy 2, 60, .inr (.inl f_8))), (a_34, .inr (6, [.int i_22, .int i_23, .int i_24, .ref a_38])), (a_38, .inl (cy 2, 60, .inr (.inl f_9))), (a_35, .inr (6, [.int i_25, .int i_26, .int i_27, .ref a_39])), (a_39, .inl (cy 2, 60, .inr (.inl f_10))), (a_36, .inr (6, [.int i_28, .int i_29, .int i_30, .ref a_40])), (a_40, .inl (cy 2, 60, .inr (.inl f_11))), (a_7, .inr (8, [.ref a_41, .int n56])), (a_41, .inl (cy 1, 210, .inl n57)), (a_8, .inr (3, [.ref a_3, .ref a_7, .ref a_42, .int n50])), (a_42, .inl (cy 1, 210, .inl n51))] H) (hD : va_D A [(a_0, .inr (11, [.ref a_1, .ref a_2, .ref a_3, .ref a_4, .ref a_5, .ref a_6, .ref a_7, .ref a_8, .ref a_9, .ref a_10, .ref a_11])), (a_3, .inr (10, [.ref a_12, .ref a_13])), (a_12, .inr (0, [.int i_2, .int i_3, .int i_4, .int i_5, .int i_6, .int i_7, .int i_8, .int i_9, .ref a_14, .ref a_15, .ref a_16, .ref a_17, .ref a_18, .ref a_19, .ref a_20, .ref a_21, .ref a_22, .ref a_23])), (a_14, .inl (cy 1, 9, .inl f_0)), (a_15, .inl (cy 1, 9, .inl f_1)), (a_18, .inl (cy 1, 6, .inl f_2)), (a_19, .inl (cy 1, 48, .inl f_3)), (a_20, .inl (cy 1, 30, .inl f_4)), (a_13, .inl (cy 5, 3, .inr (.inr (.inr (.inr (va_up (va_up (va_up (fun _ => none) 0 (some a_24)) 1 (some a_25)) 2 (some a_26))))))), (a_24, .inr (1, [.ref a_27, .ref a_28, .int i_10, .int i_11, .int i_12])), (a_27, .inl (cy 1, 2100, .inl f_5)), (a_25, .inr (1, [.ref a_29, .ref a_30, .int i_13, .int i_14, .int i_15])), (a_29, .inl (cy 1, 2100, .inl f_6)), (a_26, .inr (1, [.ref a_31, .ref a_32, .int i_16, .int i_17, .int i_18])), (a_31, .inl (cy 1, 2100, .inl f_7)), (a_6, .inl (cy 6, 4, .inr (.inr (.inr (.inr (va_up (va_up (va_up (va_up (fun _ => none) 0 (some a_33)) 1 (some a_34)) 2 (some a_35)) 3 (some a_36))))))), (a_33, .inr (6, [.int i_19, .int i_20, .int i_21, .ref a_37])), (a_37, .inl (cy 2, 60, .inr (.inl f_8))), (a_34, .inr (6, [.int i_22, .int i_23, .int i_24, .ref a_38])), (a_38, .inl (cy 2, 60, .inr (.inl f_9))), (a_35, .inr (6, [.int i_25, .int i_26, .int i_27, .ref a_39])), (a_39, .inl (cy 2, 60, .inr (.inl f_10))), (a_36, .inr (6, [.int i_28, .int i_29, .int i_30, .ref a_40])), (a_40, .inl (cy 2, 60, .inr (.inl f_11))), (a_7, .inr (8, [.ref a_41, .int n56])), (a_41, .inl (cy 1, 210, .inl n57)), (a_8, .inr (3, [.ref a_3, .ref a_7, .ref a_42, .int n50])), (a_42, .inl (cy 1, 210, .inl n51))]) hS
      obtain ⟨w59, hw⟩ := hw
      have w60 := hw
      subst hAe
      rw [hQ]
      exact W.iret (v := v58) hx hb hr (fun t ht hW => ⟨⟨v58, (n56, n57, n50, n51), rfl, ⟨w59, w53, w54, (mm_wk w60 (by decide))⟩, by rw [ht]; exact hP, hK.warm hW, hD⟩, hS.F ht⟩) hS.2.2 dX11_ask_37
    · have q61 := mm_neL (lo := 1) (mm_ne c49) mm_k0 mm_k0 (by decide) (by decide)
      exact mm_no q61 (by decide)
  · refine lv_istore_n (lv' := [(3, .int 0), (0, .ref a_0), (1, .int i_0), (2, .int i_1)]) hx hb dX11_ask_7 rfl hl (by decide) rfl ?_
    clear hl
    clear ls
    intro ls hl
    refine lv_iload_n hx hb dX11_ask_8 rfl (lv_at hl 0 rfl) ?_
    refine lv_if_eq (tgt := 14) hx hb dX11_ask_9 (by decide) (fun c62 => ?_) (fun c62 => ?_)
    · refine lv_aload_n hx hb dX11_ask_14 rfl (lv_at hl 1 rfl) ?_
      refine va_get (D := G) (ci := 11) (v := .ref a_8) (C := RX11) (T := TX11) (N := 11) hx hb hts (mm_i inlX11) hown hK.1 hP 0 rfl rfl 7 (by decide) (mm_h hts mm_w42) (fun _ h9 => h9) rfl dX11_ask_15 ?_
      refine lv_aload_n hx hb dX11_ask_18 rfl (lv_at hl 1 rfl) ?_
      refine va_get (D := G) (ci := 11) (v := .ref a_6) (C := RX11) (T := TX11) (N := 11) hx hb hts (mm_i inlX11) hown hK.1 hP 0 rfl rfl 5 (by decide) (mm_h hts mm_w32) (fun _ h9 => h9) rfl dX11_ask_19 ?_
      refine lv_iload_n hx hb dX11_ask_22 rfl (lv_at hl 2 rfl) ?_
      obtain rfl : i_0 = 3 := mm_is w17 3 (by decide)
      refine va_aldq hx hb hK.1 hP 15 6 rfl rfl (mm_in mm_k3 (by decide)) dX11_ask_23 ?_
      refine W.eq (g2 := F0 m 24 ls [.ref a_36, .ref a_8]) rfl ?_
      refine lv_iload_n hx hb dX11_ask_24 rfl (lv_at hl 3 rfl) ?_
      refine mm_fini (va_runV (As := [.ref a_36, .int i_1]) (rest := []) ⟨hx, hb, hml, hown, hts⟩ (K443_X3_gather l G cy H.size a_8 a_36 i_1 a_3 a_12 a_13 i_2 i_3 i_4 i_5 i_6 i_7 i_8 i_9 a_14 a_15 a_16 a_17 a_18 a_19 a_20 a_21 a_22 a_23 f_0 f_1 f_2 f_3 f_4 a_24 a_25 a_26 a_27 a_28 i_10 i_11 i_12 f_5 a_29 a_30 i_13 i_14 i_15 f_6 a_31 a_32 i_16 i_17 i_18 f_7 i_28 i_29 i_30 a_40 f_11 a_7 a_42 i_32 f_13 w18 h0 h1 h3 h4 h5 h6 h7 h8 h9 h10 h11 h12 h13 h14 h22 h24 h25 w20) (cwV 2 hts (mm_gV mm_w1249 mm_w1250 mm_w1251 mm_w41 mm_w1252) rfl rfl rfl hd_X3_gather ⟨by rw [hRf]; exact Nat.le_of_ble_eq_true rfl, by rw [hRl]; exact Nat.le_of_ble_eq_true rfl⟩) (mm_preV hK hZ hS hA hP hD [1, 2, 3, 4, 5, 6, 7, 8, 9, 10, 11, 12, 13, 14, 22, 23, 26, 27] rfl rfl 26 rfl rfl rfl) rfl rfl hl.1 rfl (lv_room (Nat.le_of_ble_eq_true rfl)) dX11_ask_25 ⟨by rw [hRc]; exact Nat.le_of_ble_eq_true rfl, by rw [hRs]; exact Nat.le_of_ble_eq_true rfl⟩) hP hD hS hA (fun u : Int32 × (Nat → Int32) => [(a_0, .inr (11, [.ref a_1, .ref a_2, .ref a_3, .ref a_4, .ref a_5, .ref a_6, .ref a_7, .ref a_8, .ref a_9, .ref a_10, .ref a_11])), (a_3, .inr (10, [.ref a_12, .ref a_13])), (a_12, .inr (0, [.int i_2, .int i_3, .int i_4, .int i_5, .int i_6, .int i_7, .int i_8, .int i_9, .ref a_14, .ref a_15, .ref a_16, .ref a_17, .ref a_18, .ref a_19, .ref a_20, .ref a_21, .ref a_22, .ref a_23])), (a_14, .inl (cy 1, 9, .inl f_0)), (a_15, .inl (cy 1, 9, .inl f_1)), (a_18, .inl (cy 1, 6, .inl f_2)), (a_19, .inl (cy 1, 48, .inl f_3)), (a_20, .inl (cy 1, 30, .inl f_4)), (a_13, .inl (cy 5, 3, .inr (.inr (.inr (.inr (va_up (va_up (va_up (fun _ => none) 0 (some a_24)) 1 (some a_25)) 2 (some a_26))))))), (a_24, .inr (1, [.ref a_27, .ref a_28, .int i_10, .int i_11, .int i_12])), (a_27, .inl (cy 1, 2100, .inl f_5)), (a_25, .inr (1, [.ref a_29, .ref a_30, .int i_13, .int i_14, .int i_15])), (a_29, .inl (cy 1, 2100, .inl f_6)), (a_26, .inr (1, [.ref a_31, .ref a_32, .int i_16, .int i_17, .int i_18])), (a_31, .inl (cy 1, 2100, .inl f_7)), (a_6, .inl (cy 6, 4, .inr (.inr (.inr (.inr (va_up (va_up (va_up (va_up (fun _ => none) 0 (some a_33)) 1 (some a_34)) 2 (some a_35)) 3 (some a_36))))))), (a_33, .inr (6, [.int i_19, .int i_20, .int i_21, .ref a_37])), (a_37, .inl (cy 2, 60, .inr (.inl f_8))), (a_34, .inr (6, [.int i_22, .int i_23, .int i_24, .ref a_38])), (a_38, .inl (cy 2, 60, .inr (.inl f_9))), (a_35, .inr (6, [.int i_25, .int i_26, .int i_27, .ref a_39])), (a_39, .inl (cy 2, 60, .inr (.inl f_10))), (a_36, .inr (6, [.int i_28, .int i_29, .int i_30, .ref a_40])), (a_40, .inl (cy 2, 60, .inr (.inl f_11))), (a_7, .inr (8, [.ref a_41, .int i_31])), (a_41, .inl (cy 1, 210, .inl f_12)), (a_8, .inr (3, [.ref a_3, .ref a_7, .ref a_42, .int u.1])), (a_42, .inl (cy 1, 210, .inl u.2))]) [1, 2, 3, 4, 5, 6, 7, 8, 9, 10, 11, 12, 13, 14, 22, 23, 26, 27] [0, 15, 16, 17, 18, 19, 20, 21, 24, 25] (n := 28) (fun _ => rfl) (by decide +kernel) (by decide +kernel) rfl (fun _ => rfl) (wr := [(a_0, .inr (11, [.ref a_1, .ref a_2, .ref a_3, .ref a_4, .ref a_5, .ref a_6, .ref a_7, .ref a_8, .ref a_9, .ref a_10, .ref a_11])), (a_6, .inl (cy 6, 4, .inr (.inr (.inr (.inr (va_up (va_up (va_up (va_up (fun _ => none) 0 (some a_33)) 1 (some a_34)) 2 (some a_35)) 3 (some a_36))))))), (a_33, .inr (6, [.int i_19, .int i_20, .int i_21, .ref a_37])), (a_37, .inl (cy 2, 60, .inr (.inl f_8))), (a_34, .inr (6, [.int i_22, .int i_23, .int i_24, .ref a_38])), (a_38, .inl (cy 2, 60, .inr (.inl f_9))), (a_35, .inr (6, [.int i_25, .int i_26, .int i_27, .ref a_39])), (a_39, .inl (cy 2, 60, .inr (.inl f_10))), (a_7, .inr (8, [.ref a_41, .int i_31])), (a_41, .inl (cy 1, 210, .inl f_12))]) rfl (fun _ => rfl) (fun _ => rfl) ?_
      clear hP hD hS
      clear H locs
      intro v65 u
      obtain ⟨n63, n64⟩ := u
      intro H locs hw (hP : va_P G vwCl [(a_0, .inr (11, [.ref a_1, .ref a_2, .ref a_3, .ref a_4, .ref a_5, .ref a_6, .ref a_7, .ref a_8, .ref a_9, .ref a_10, .ref a_11])), (a_3, .inr (10, [.ref a_12, .ref a_13])), (a_12, .inr (0, [.int i_2, .int i_3, .int i_4, .int i_5, .int i_6, .int i_7, .int i_8, .int i_9, .ref a_14, .ref a_15, .ref a_16, .ref a_17, .ref a_18, .ref a_19, .ref a_20, .ref a_21, .ref a_22, .ref a_23])), (a_14, .inl (cy 1, 9, .inl f_0)), (a_15, .inl (cy 1, 9, .inl f_1)), (a_18, .inl (cy 1, 6, .inl f_2)), (a_19, .inl (cy 1, 48, .inl f_3)), (a_20, .inl (cy 1, 30, .inl f_4)), (a_13, .inl (cy 5, 3, .inr (.inr (.inr (.inr (va_up (va_up (va_up (fun _ => none) 0 (some a_24)) 1 (some a_25)) 2 (some a_26))))))), (a_24, .inr (1, [.ref a_27, .ref a_28, .int i_10, .int i_11, .int i_12])), (a_27, .inl (cy 1, 2100, .inl f_5)), (a_25, .inr (1, [.ref a_29, .ref a_30, .int i_13, .int i_14, .int i_15])), (a_29, .inl (cy 1, 2100, .inl f_6)), (a_26, .inr (1, [.ref a_31, .ref a_32, .int i_16, .int i_17, .int i_18])), (a_31, .inl (cy 1, 2100, .inl f_7)), (a_6, .inl (cy 6, 4, .inr (.inr (.inr (.inr (va_up (va_up (va_up (va_up (fun _ => none) 0 (some a_33)) 1 (some a_34)) 2 (some a_35)) 3 (some a_36))))))), (a_33, .inr (6, [.int i_19, .int i_20, .int i_21, .ref a_37])), (a_37, .inl (cy 2, 60, .inr (.inl f_8))), (a_34, .inr (6, [.int i_22, .int i_23, .int i_24, .ref a_38])), (a_38, .inl (cy 2, 60, .inr (.inl f_9))), (a_35, .inr (6, [.int i_25, .int i_26, .int i_27, .ref a_39])), (a_39, .inl (cy 2, 60, .inr (.inl f_10))), (a_36, .inr (6, [.int i_28, .int i_29, .int i_30, .ref a_40])), (a_40, .inl (cy 2, 60, .inr (.inl f_11))), (a_7, .inr (8, [.ref a_41, .int i_31])), (a_41, .inl (cy 1, 210, .inl f_12)), (a_8, .inr (3, [.ref a_3, .ref a_7, .ref a_42, .int n63])), (a_42, .inl (cy 1, 210, .inl n64))] H) (hD : va_D A [(a_0, .inr (11, [.ref a_1, .ref a_2, .ref a_3, .ref a_4, .ref a_5, .ref a_6, .ref a_7, .ref a_8, .ref a_9, .ref a_10, .ref a_11])), (a_3, .inr (10, [.ref a_12, .ref a_13])), (a_12, .inr (0, [.int i_2, .int i_3, .int i_4, .int i_5, .int i_6, .int i_7, .int i_8, .int i_9, .ref a_14, .ref a_15, .ref a_16, .ref a_17, .ref a_18, .ref a_19, .ref a_20, .ref a_21, .ref a_22, .ref a_23])), (a_14, .inl (cy 1, 9, .inl f_0)), (a_15, .inl (cy 1, 9, .inl f_1)), (a_18, .inl (cy 1, 6, .inl f_2)), (a_19, .inl (cy 1, 48, .inl f_3)), (a_20, .inl (cy 1, 30, .inl f_4)), (a_13, .inl (cy 5, 3, .inr (.inr (.inr (.inr (va_up (va_up (va_up (fun _ => none) 0 (some a_24)) 1 (some a_25)) 2 (some a_26))))))), (a_24, .inr (1, [.ref a_27, .ref a_28, .int i_10, .int i_11, .int i_12])), (a_27, .inl (cy 1, 2100, .inl f_5)), (a_25, .inr (1, [.ref a_29, .ref a_30, .int i_13, .int i_14, .int i_15])), (a_29, .inl (cy 1, 2100, .inl f_6)), (a_26, .inr (1, [.ref a_31, .ref a_32, .int i_16, .int i_17, .int i_18])), (a_31, .inl (cy 1, 2100, .inl f_7)), (a_6, .inl (cy 6, 4, .inr (.inr (.inr (.inr (va_up (va_up (va_up (va_up (fun _ => none) 0 (some a_33)) 1 (some a_34)) 2 (some a_35)) 3 (some a_36))))))), (a_33, .inr (6, [.int i_19, .int i_20, .int i_21, .ref a_37])), (a_37, .inl (cy 2, 60, .inr (.inl f_8))), (a_34, .inr (6, [.int i_22, .int i_23, .int i_24, .ref a_38])), (a_38, .inl (cy 2, 60, .inr (.inl f_9))), (a_35, .inr (6, [.int i_25, .int i_26, .int i_27, .ref a_39])), (a_39, .inl (cy 2, 60, .inr (.inl f_10))), (a_36, .inr (6, [.int i_28, .int i_29, .int i_30, .ref a_40])), (a_40, .inl (cy 2, 60, .inr (.inl f_11))), (a_7, .inr (8, [.ref a_41, .int i_31])), (a_41, .inl (cy 1, 210, .inl f_12)), (a_8, .inr (3, [.ref a_3, .ref a_7, .ref a_42, .int n63])), (a_42, .inl (cy 1, 210, .inl n64))]) hS
      obtain ⟨w66, w67, hw⟩ := hw
      have w68 := hw
      refine lv_pop hx hb dX11_ask_28 rfl ?_
      refine lv_aload_n hx hb dX11_ask_29 rfl (lv_at hl 1 rfl) ?_
      refine va_get (D := G) (ci := 11) (v := .ref a_8) (C := RX11) (T := TX11) (N := 11) hx hb hts (mm_i inlX11) hown hK.1 hP 0 rfl rfl 7 (by decide) (mm_h hts mm_w42) (fun _ h9 => h9) rfl dX11_ask_30 ?_
      refine lv_iload_n hx hb dX11_ask_33 rfl (lv_at hl 3 rfl) ?_
      refine mm_fini (va_runV (As := [.int i_1]) (rest := []) ⟨hx, hb, hml, hown, hts⟩ (K450_X3_question l G cy H.size a_8 i_1 a_3 a_12 a_13 i_2 i_3 i_4 i_5 i_6 i_7 i_8 i_9 a_14 a_15 a_16 a_17 a_18 a_19 a_20 a_21 a_22 a_23 f_0 f_1 f_2 f_3 f_4 a_24 a_25 a_26 a_27 a_28 i_10 i_11 i_12 f_5 a_29 a_30 i_13 i_14 i_15 f_6 a_31 a_32 i_16 i_17 i_18 f_7 a_7 a_41 i_31 f_12 a_42 n63 n64 w18 h0 h1 h3 h4 h5 h6 h7 h8 h9 h10 h11 h12 h13 h14 h23 w66 w67) (cwV 1 hts (mm_gV mm_w1297 mm_w1298 mm_w1299 mm_w41 mm_w1300) rfl rfl rfl hd_X3_question ⟨by rw [hRf]; exact Nat.le_of_ble_eq_true rfl, by rw [hRl]; exact Nat.le_of_ble_eq_true rfl⟩) (mm_preV hK hZ hS hA hP hD [1, 2, 3, 4, 5, 6, 7, 8, 9, 10, 11, 12, 13, 14, 24, 25, 26, 27] rfl rfl 26 rfl rfl rfl) rfl rfl hl.1 rfl (lv_room (Nat.le_of_ble_eq_true rfl)) dX11_ask_34 ⟨by rw [hRc]; exact Nat.le_of_ble_eq_true rfl, by rw [hRs]; exact Nat.le_of_ble_eq_true rfl⟩) hP hD hS hA (fun u : Int32 × (Nat → Int32) => [(a_0, .inr (11, [.ref a_1, .ref a_2, .ref a_3, .ref a_4, .ref a_5, .ref a_6, .ref a_7, .ref a_8, .ref a_9, .ref a_10, .ref a_11])), (a_3, .inr (10, [.ref a_12, .ref a_13])), (a_12, .inr (0, [.int i_2, .int i_3, .int i_4, .int i_5, .int i_6, .int i_7, .int i_8, .int i_9, .ref a_14, .ref a_15, .ref a_16, .ref a_17, .ref a_18, .ref a_19, .ref a_20, .ref a_21, .ref a_22, .ref a_23])), (a_14, .inl (cy 1, 9, .inl f_0)), (a_15, .inl (cy 1, 9, .inl f_1)), (a_18, .inl (cy 1, 6, .inl f_2)), (a_19, .inl (cy 1, 48, .inl f_3)), (a_20, .inl (cy 1, 30, .inl f_4)), (a_13, .inl (cy 5, 3, .inr (.inr (.inr (.inr (va_up (va_up (va_up (fun _ => none) 0 (some a_24)) 1 (some a_25)) 2 (some a_26))))))), (a_24, .inr (1, [.ref a_27, .ref a_28, .int i_10, .int i_11, .int i_12])), (a_27, .inl (cy 1, 2100, .inl f_5)), (a_25, .inr (1, [.ref a_29, .ref a_30, .int i_13, .int i_14, .int i_15])), (a_29, .inl (cy 1, 2100, .inl f_6)), (a_26, .inr (1, [.ref a_31, .ref a_32, .int i_16, .int i_17, .int i_18])), (a_31, .inl (cy 1, 2100, .inl f_7)), (a_6, .inl (cy 6, 4, .inr (.inr (.inr (.inr (va_up (va_up (va_up (va_up (fun _ => none) 0 (some a_33)) 1 (some a_34)) 2 (some a_35)) 3 (some a_36))))))), (a_33, .inr (6, [.int i_19, .int i_20, .int i_21, .ref a_37])), (a_37, .inl (cy 2, 60, .inr (.inl f_8))), (a_34, .inr (6, [.int i_22, .int i_23, .int i_24, .ref a_38])), (a_38, .inl (cy 2, 60, .inr (.inl f_9))), (a_35, .inr (6, [.int i_25, .int i_26, .int i_27, .ref a_39])), (a_39, .inl (cy 2, 60, .inr (.inl f_10))), (a_36, .inr (6, [.int i_28, .int i_29, .int i_30, .ref a_40])), (a_40, .inl (cy 2, 60, .inr (.inl f_11))), (a_7, .inr (8, [.ref a_41, .int u.1])), (a_41, .inl (cy 1, 210, .inl u.2)), (a_8, .inr (3, [.ref a_3, .ref a_7, .ref a_42, .int n63])), (a_42, .inl (cy 1, 210, .inl n64))]) [1, 2, 3, 4, 5, 6, 7, 8, 9, 10, 11, 12, 13, 14, 24, 25, 26, 27] [0, 15, 16, 17, 18, 19, 20, 21, 22, 23] (n := 28) (fun _ => rfl) (by decide +kernel) (by decide +kernel) rfl (fun _ => rfl) (wr := [(a_0, .inr (11, [.ref a_1, .ref a_2, .ref a_3, .ref a_4, .ref a_5, .ref a_6, .ref a_7, .ref a_8, .ref a_9, .ref a_10, .ref a_11])), (a_6, .inl (cy 6, 4, .inr (.inr (.inr (.inr (va_up (va_up (va_up (va_up (fun _ => none) 0 (some a_33)) 1 (some a_34)) 2 (some a_35)) 3 (some a_36))))))), (a_33, .inr (6, [.int i_19, .int i_20, .int i_21, .ref a_37])), (a_37, .inl (cy 2, 60, .inr (.inl f_8))), (a_34, .inr (6, [.int i_22, .int i_23, .int i_24, .ref a_38])), (a_38, .inl (cy 2, 60, .inr (.inl f_9))), (a_35, .inr (6, [.int i_25, .int i_26, .int i_27, .ref a_39])), (a_39, .inl (cy 2, 60, .inr (.inl f_10))), (a_36, .inr (6, [.int i_28, .int i_29, .int i_30, .ref a_40])), (a_40, .inl (cy 2, 60, .inr (.inl f_11)))]) rfl (fun _ => rfl) (fun _ => rfl) ?_
      clear hP hD hS
      clear H locs
      intro v71 u
      obtain ⟨n69, n70⟩ := u
      intro H locs hw (hP : va_P G vwCl [(a_0, .inr (11, [.ref a_1, .ref a_2, .ref a_3, .ref a_4, .ref a_5, .ref a_6, .ref a_7, .ref a_8, .ref a_9, .ref a_10, .ref a_11])), (a_3, .inr (10, [.ref a_12, .ref a_13])), (a_12, .inr (0, [.int i_2, .int i_3, .int i_4, .int i_5, .int i_6, .int i_7, .int i_8, .int i_9, .ref a_14, .ref a_15, .ref a_16, .ref a_17, .ref a_18, .ref a_19, .ref a_20, .ref a_21, .ref a_22, .ref a_23])), (a_14, .inl (cy 1, 9, .inl f_0)), (a_15, .inl (cy 1, 9, .inl f_1)), (a_18, .inl (cy 1, 6, .inl f_2)), (a_19, .inl (cy 1, 48, .inl f_3)), (a_20, .inl (cy 1, 30, .inl f_4)), (a_13, .inl (cy 5, 3, .inr (.inr (.inr (.inr (va_up (va_up (va_up (fun _ => none) 0 (some a_24)) 1 (some a_25)) 2 (some a_26))))))), (a_24, .inr (1, [.ref a_27, .ref a_28, .int i_10, .int i_11, .int i_12])), (a_27, .inl (cy 1, 2100, .inl f_5)), (a_25, .inr (1, [.ref a_29, .ref a_30, .int i_13, .int i_14, .int i_15])), (a_29, .inl (cy 1, 2100, .inl f_6)), (a_26, .inr (1, [.ref a_31, .ref a_32, .int i_16, .int i_17, .int i_18])), (a_31, .inl (cy 1, 2100, .inl f_7)), (a_6, .inl (cy 6, 4, .inr (.inr (.inr (.inr (va_up (va_up (va_up (va_up (fun _ => none) 0 (some a_33)) 1 (some a_34)) 2 (some a_35)) 3 (some a_36))))))), (a_33, .inr (6, [.int i_19, .int i_20, .int i_21, .ref a_37])), (a_37, .inl (cy 2, 60, .inr (.inl f_8))), (a_34, .inr (6, [.int i_22, .int i_23, .int i_24, .ref a_38])), (a_38, .inl (cy 2, 60, .inr (.inl f_9))), (a_35, .inr (6, [.int i_25, .int i_26, .int i_27, .ref a_39])), (a_39, .inl (cy 2, 60, .inr (.inl f_10))), (a_36, .inr (6, [.int i_28, .int i_29, .int i_30, .ref a_40])), (a_40, .inl (cy 2, 60, .inr (.inl f_11))), (a_7, .inr (8, [.ref a_41, .int n69])), (a_41, .inl (cy 1, 210, .inl n70)), (a_8, .inr (3, [.ref a_3, .ref a_7, .ref a_42, .int n63])), (a_42, .inl (cy 1, 210, .inl n64))] H) (hD : va_D A [(a_0, .inr (11, [.ref a_1, .ref a_2, .ref a_3, .ref a_4, .ref a_5, .ref a_6, .ref a_7, .ref a_8, .ref a_9, .ref a_10, .ref a_11])), (a_3, .inr (10, [.ref a_12, .ref a_13])), (a_12, .inr (0, [.int i_2, .int i_3, .int i_4, .int i_5, .int i_6, .int i_7, .int i_8, .int i_9, .ref a_14, .ref a_15, .ref a_16, .ref a_17, .ref a_18, .ref a_19, .ref a_20, .ref a_21, .ref a_22, .ref a_23])), (a_14, .inl (cy 1, 9, .inl f_0)), (a_15, .inl (cy 1, 9, .inl f_1)), (a_18, .inl (cy 1, 6, .inl f_2)), (a_19, .inl (cy 1, 48, .inl f_3)), (a_20, .inl (cy 1, 30, .inl f_4)), (a_13, .inl (cy 5, 3, .inr (.inr (.inr (.inr (va_up (va_up (va_up (fun _ => none) 0 (some a_24)) 1 (some a_25)) 2 (some a_26))))))), (a_24, .inr (1, [.ref a_27, .ref a_28, .int i_10, .int i_11, .int i_12])), (a_27, .inl (cy 1, 2100, .inl f_5)), (a_25, .inr (1, [.ref a_29, .ref a_30, .int i_13, .int i_14, .int i_15])), (a_29, .inl (cy 1, 2100, .inl f_6)), (a_26, .inr (1, [.ref a_31, .ref a_32, .int i_16, .int i_17, .int i_18])), (a_31, .inl (cy 1, 2100, .inl f_7)), (a_6, .inl (cy 6, 4, .inr (.inr (.inr (.inr (va_up (va_up (va_up (va_up (fun _ => none) 0 (some a_33)) 1 (some a_34)) 2 (some a_35)) 3 (some a_36))))))), (a_33, .inr (6, [.int i_19, .int i_20, .int i_21, .ref a_37])), (a_37, .inl (cy 2, 60, .inr (.inl f_8))), (a_34, .inr (6, [.int i_22, .int i_23, .int i_24, .ref a_38])), (a_38, .inl (cy 2, 60, .inr (.inl f_9))), (a_35, .inr (6, [.int i_25, .int i_26, .int i_27, .ref a_39])), (a_39, .inl (cy 2, 60, .inr (.inl f_10))), (a_36, .inr (6, [.int i_28, .int i_29, .int i_30, .ref a_40])), (a_40, .inl (cy 2, 60, .inr (.inl f_11))), (a_7, .inr (8, [.ref a_41, .int n69])), (a_41, .inl (cy 1, 210, .inl n70)), (a_8, .inr (3, [.ref a_3, .ref a_7, .ref a_42, .int n63])), (a_42, .inl (cy 1, 210, .inl n64))]) hS
      obtain ⟨w72, hw⟩ := hw
      have w73 := hw
      subst hAe
      rw [hQ]
      exact W.iret (v := v71) hx hb hr (fun t ht hW => ⟨⟨v71, (n69, n70, n63, n64), rfl, ⟨w72, w66, w67, (mm_wk w73 (by decide))⟩, by rw [ht]; exact hP, hK.warm hW, hD⟩, hS.F ht⟩) hS.2.2 dX11_ask_37
    · have q74 := mm_neL (lo := 1) (mm_ne c62) mm_k0 mm_k0 (by decide) (by decide)
      exact mm_no q74 (by decide)

set_option maxHeartbeats 4000000 in
set_option maxRecDepth 100000 in
theorem K452_X11_leaves (l : Launch) (G : va_G) (cy : Nat → ClassId) (sz : Nat) (a_0 : Nat) (i_0 : Int32) (i_1 : Int32) (a_1 : Nat) (a_2 : Nat) (a_3 : Nat) (a_4 : Nat) (a_5 : Nat) (a_6 : Nat) (a_7 : Nat) (a_8 : Nat) (a_9 : Nat) (a_10 : Nat) (a_11 : Nat) (a_12 : Nat) (a_13 : Nat) (i_2 : Int32) (i_3 : Int32) (i_4 : Int32) (i_5 : Int32) (i_6 : Int32) (i_7 : Int32) (i_8 : Int32) (i_9 : Int32) (a_14 : Nat) (a_15 : Nat) (a_16 : Nat) (a_17 : Nat) (a_18 : Nat) (a_19 : Nat) (a_20 : Nat) (a_21 : Nat) (a_22 : Nat) (a_23 : Nat) (f_0 : Nat → Int32) (f_1 : Nat → Int32) (f_2 : Nat → Int32) (f_3 : Nat → Int32) (f_4 : Nat → Int32) (a_24 : Nat) (a_25 : Nat) (a_26 : Nat) (a_27 : Nat) (a_28 : Nat) (i_10 : Int32) (i_11 : Int32) (i_12 : Int32) (f_5 : Nat → Int32) (a_29 : Nat) (a_30 : Nat) (i_13 : Int32) (i_14 : Int32) (i_15 : Int32) (f_6 : Nat → Int32) (a_31 : Nat) (a_32 : Nat) (i_16 : Int32) (i_17 : Int32) (i_18 : Int32) (f_7 : Nat → Int32) (a_33 : Nat) (a_34 : Nat) (a_35 : Nat) (a_36 : Nat) (i_19 : Int32) (i_20 : Int32) (i_21 : Int32) (a_37 : Nat) (f_8 : Nat → Int64) (i_22 : Int32) (i_23 : Int32) (i_24 : Int32) (a_38 : Nat) (f_9 : Nat → Int64) (i_25 : Int32) (i_26 : Int32) (i_27 : Int32) (a_39 : Nat) (f_10 : Nat → Int64) (i_28 : Int32) (i_29 : Int32) (i_30 : Int32) (a_40 : Nat) (f_11 : Nat → Int64) (a_41 : Nat) (i_31 : Int32) (f_12 : Nat → Int32) (a_42 : Nat) (i_32 : Int32) (f_13 : Nat → Int32) (h0 : mm_rg i_5 0 99) (h1 : mm_rg i_6 0 9) (h2 : mm_rg i_7 0 3) (h3 : mm_rg i_8 0 6) (h4 : mm_ar f_0 (-1) 4) (h5 : mm_ar f_1 0 99) (h6 : mm_ar f_2 0 8) (h7 : mm_ar f_3 0 9) (h8 : mm_ar f_4 0 9) (h9 : mm_rg i_12 (-2147483648) 210) (h10 : mm_ar f_5 0 9) (h11 : mm_rg i_15 (-2147483648) 210) (h12 : mm_ar f_6 0 9) (h13 : mm_rg i_18 (-2147483648) 210) (h14 : mm_ar f_7 0 9) (h15 : mm_rg i_19 0 1) (h16 : mm_rg i_21 0 60) (h17 : mm_rg i_22 0 1) (h18 : mm_rg i_24 0 60) (h19 : mm_rg i_25 0 1) (h20 : mm_rg i_27 0 60) (h21 : mm_rg i_28 0 1) (h22 : mm_rg i_30 0 60) (h23 : mm_rg i_31 0 210) (h24 : mm_rg i_32 0 210) (h25 : mm_ar f_13 0 209)  : mm_CI l yX11_leaves (mm_ws yX11_leaves cX11_leaves 6 (some .int)) ({ frames := 6, cells := 0, slots := 0, locals := 159 } : Room) G cy sz [(a_0, .inr (11, [.ref a_1, .ref a_2, .ref a_3, .ref a_4, .ref a_5, .ref a_6, .ref a_7, .ref a_8, .ref a_9, .ref a_10, .ref a_11])), (a_3, .inr (10, [.ref a_12, .ref a_13])), (a_12, .inr (0, [.int i_2, .int i_3, .int i_4, .int i_5, .int i_6, .int i_7, .int i_8, .int i_9, .ref a_14, .ref a_15, .ref a_16, .ref a_17, .ref a_18, .ref a_19, .ref a_20, .ref a_21, .ref a_22, .ref a_23])), (a_14, .inl (cy 1, 9, .inl f_0)), (a_15, .inl (cy 1, 9, .inl f_1)), (a_18, .inl (cy 1, 6, .inl f_2)), (a_19, .inl (cy 1, 48, .inl f_3)), (a_20, .inl (cy 1, 30, .inl f_4)), (a_13, .inl (cy 5, 3, .inr (.inr (.inr (.inr (va_up (va_up (va_up (fun _ => none) 0 (some a_24)) 1 (some a_25)) 2 (some a_26))))))), (a_24, .inr (1, [.ref a_27, .ref a_28, .int i_10, .int i_11, .int i_12])), (a_27, .inl (cy 1, 2100, .inl f_5)), (a_25, .inr (1, [.ref a_29, .ref a_30, .int i_13, .int i_14, .int i_15])), (a_29, .inl (cy 1, 2100, .inl f_6)), (a_26, .inr (1, [.ref a_31, .ref a_32, .int i_16, .int i_17, .int i_18])), (a_31, .inl (cy 1, 2100, .inl f_7)), (a_6, .inl (cy 6, 4, .inr (.inr (.inr (.inr (va_up (va_up (va_up (va_up (fun _ => none) 0 (some a_33)) 1 (some a_34)) 2 (some a_35)) 3 (some a_36))))))), (a_33, .inr (6, [.int i_19, .int i_20, .int i_21, .ref a_37])), (a_37, .inl (cy 2, 60, .inr (.inl f_8))), (a_34, .inr (6, [.int i_22, .int i_23, .int i_24, .ref a_38])), (a_38, .inl (cy 2, 60, .inr (.inl f_9))), (a_35, .inr (6, [.int i_25, .int i_26, .int i_27, .ref a_39])), (a_39, .inl (cy 2, 60, .inr (.inl f_10))), (a_36, .inr (6, [.int i_28, .int i_29, .int i_30, .ref a_40])), (a_40, .inl (cy 2, 60, .inr (.inl f_11))), (a_7, .inr (8, [.ref a_41, .int i_31])), (a_41, .inl (cy 1, 210, .inl f_12)), (a_8, .inr (3, [.ref a_3, .ref a_7, .ref a_42, .int i_32])), (a_42, .inl (cy 1, 210, .inl f_13))] [.ref a_0, .int i_0, .int i_1] (fun u : Int32 × (Nat → Int32) × Int32 × (Nat → Int32) => [(a_0, .inr (11, [.ref a_1, .ref a_2, .ref a_3, .ref a_4, .ref a_5, .ref a_6, .ref a_7, .ref a_8, .ref a_9, .ref a_10, .ref a_11])), (a_3, .inr (10, [.ref a_12, .ref a_13])), (a_12, .inr (0, [.int i_2, .int i_3, .int i_4, .int i_5, .int i_6, .int i_7, .int i_8, .int i_9, .ref a_14, .ref a_15, .ref a_16, .ref a_17, .ref a_18, .ref a_19, .ref a_20, .ref a_21, .ref a_22, .ref a_23])), (a_14, .inl (cy 1, 9, .inl f_0)), (a_15, .inl (cy 1, 9, .inl f_1)), (a_18, .inl (cy 1, 6, .inl f_2)), (a_19, .inl (cy 1, 48, .inl f_3)), (a_20, .inl (cy 1, 30, .inl f_4)), (a_13, .inl (cy 5, 3, .inr (.inr (.inr (.inr (va_up (va_up (va_up (fun _ => none) 0 (some a_24)) 1 (some a_25)) 2 (some a_26))))))), (a_24, .inr (1, [.ref a_27, .ref a_28, .int i_10, .int i_11, .int i_12])), (a_27, .inl (cy 1, 2100, .inl f_5)), (a_25, .inr (1, [.ref a_29, .ref a_30, .int i_13, .int i_14, .int i_15])), (a_29, .inl (cy 1, 2100, .inl f_6)), (a_26, .inr (1, [.ref a_31, .ref a_32, .int i_16, .int i_17, .int i_18])), (a_31, .inl (cy 1, 2100, .inl f_7)), (a_6, .inl (cy 6, 4, .inr (.inr (.inr (.inr (va_up (va_up (va_up (va_up (fun _ => none) 0 (some a_33)) 1 (some a_34)) 2 (some a_35)) 3 (some a_36))))))), (a_33, .inr (6, [.int i_19, .int i_20, .int i_21, .ref a_37])), (a_37, .inl (cy 2, 60, .inr (.inl f_8))), (a_34, .inr (6, [.int i_22, .int i_23, .int i_24, .ref a_38])), (a_38, .inl (cy 2, 60, .inr (.inl f_9))), (a_35, .inr (6, [.int i_25, .int i_26, .int i_27, .ref a_39])), (a_39, .inl (cy 2, 60, .inr (.inl f_10))), (a_36, .inr (6, [.int i_28, .int i_29, .int i_30, .ref a_40])), (a_40, .inl (cy 2, 60, .inr (.inl f_11))), (a_7, .inr (8, [.ref a_41, .int u.1])), (a_41, .inl (cy 1, 210, .inl u.2.1)), (a_8, .inr (3, [.ref a_3, .ref a_7, .ref a_42, .int u.2.2.1])), (a_42, .inl (cy 1, 210, .inl u.2.2.2))]) (fun (r : Int32) (u : Int32 × (Nat → Int32) × Int32 × (Nat → Int32)) => mm_rg u.1 0 210 ∧ mm_rg u.2.2.1 0 210 ∧ mm_ar u.2.2.2 0 209 ∧ mm_rg r (-6) 2147483647) 0 0 := by
  refine mm_begin (lv := [(0, .ref a_0), (1, .int i_0), (2, .int i_1)]) (by decide) (Nat.le_of_ble_eq_true rfl) rfl ?_
  intro p e s m below meth c A ls R args Q H locs hRe hQ hAe hx hb hr hlocks hml hown hnm hts hsz hA hS hP hK hD hZ hl
  have hRf : R.frames = 6 := by rw [hRe]
  have hRl : R.locals = 159 := by rw [hRe]
  have hRc : R.cells = 0 := by rw [hRe]
  have hRs : R.slots = 0 := by rw [hRe]
  refine lv_aload_n hx hb dX11_leaves_0 rfl (lv_at hl 0 rfl) ?_
  refine lv_iload_n hx hb dX11_leaves_1 rfl (lv_at hl 1 rfl) ?_
  refine lv_iload_n hx hb dX11_leaves_2 rfl (lv_at hl 2 rfl) ?_
  refine lv_iconst (v := 0) hx hb dX11_leaves_3 (by decide) ?_
  refine mm_finir (va_runV (As := [.int i_0, .int i_1, .int 0]) (rest := []) ⟨hx, hb, hml, hown, hts⟩ (K441_X11_letterTrouble l G cy H.size a_0 i_0 i_1 0 a_1 a_2 a_3 a_4 a_5 a_6 a_7 a_8 a_9 a_10 a_11 a_12 a_13 i_2 i_3 i_4 i_5 i_6 i_7 i_8 i_9 a_14 a_15 a_16 a_17 a_18 a_19 a_20 a_21 a_22 a_23 a_33 a_34 a_35 a_36 i_19 i_20 i_21 a_37 f_8 i_22 i_23 i_24 a_38 f_9 i_25 i_26 i_27 a_39 f_10 i_28 i_29 i_30 a_40 f_11 a_42 i_32 (mm_wk mm_k0 (by decide)) h2 h3 h15 h16 h17 h18 h19 h20 h21 h22) (cwV 3 hts (mm_gV mm_w1228 mm_w1229 mm_w1230 mm_w2 mm_w1231) rfl rfl rfl hd_X11_letterTrouble ⟨by rw [hRf]; exact Nat.le_of_ble_eq_true rfl, by rw [hRl]; exact Nat.le_of_ble_eq_true rfl⟩) (mm_preV hK hZ hS hA hP hD [0, 1, 2, 15, 16, 17, 18, 19, 20, 21, 22, 23, 26] rfl rfl 0 rfl rfl rfl) rfl rfl hl.1 rfl (lv_room (Nat.le_of_ble_eq_true rfl)) dX11_leaves_4 ⟨by rw [hRc]; exact Nat.le_of_ble_eq_true rfl, by rw [hRs]; exact Nat.le_of_ble_eq_true rfl⟩) hP hD hS hA [0, 1, 2, 15, 16, 17, 18, 19, 20, 21, 22, 23, 26] rfl (fun _ => rfl) ?_
  clear hP hD hS
  clear H locs
  intro v1 _u H locs hw hP hD hS
  rcases hw with rfl | ⟨rfl, w2, w3, w4⟩ | ⟨rfl, w5, w6, w7, w8⟩ | ⟨rfl, w9, w10, w11, w12⟩ | ⟨rfl, w13, w14, w15, w16⟩ | ⟨rfl, w17, w18, w19, w20⟩
  · refine lv_istore_n (lv' := [(3, .int (-2)), (0, .ref a_0), (1, .int i_0), (2, .int i_1)]) hx hb dX11_leaves_7 rfl hl (by decide) rfl ?_
    clear hl
    clear ls
    intro ls hl
    refine lv_iload_n hx hb dX11_leaves_8 rfl (lv_at hl 0 rfl) ?_
    refine lv_if_eq (tgt := 14) hx hb dX11_leaves_9 (by decide) (fun c21 => ?_) (fun c21 => ?_)
    · exact mm_eqN c21 mm_km2 mm_k0 (by decide)
    · refine lv_iload_n hx hb dX11_leaves_12 rfl (lv_at hl 0 rfl) ?_
      subst hAe
      rw [hQ]
      exact W.iret (v := (-2)) hx hb hr (fun t ht hW => ⟨⟨(-2), (i_31, f_12, i_32, f_13), rfl, ⟨h23, h24, h25, (mm_wk mm_km2 (by decide))⟩, by rw [ht]; exact hP, hK.warm hW, hD⟩, hS.F ht⟩) hS.2.2 dX11_leaves_13
  · refine lv_istore_n (lv' := [(3, .int (-6)), (0, .ref a_0), (1, .int i_0), (2, .int i_1)]) hx hb dX11_leaves_7 rfl hl (by decide) rfl ?_
    clear hl
    clear ls
    intro ls hl
    refine lv_iload_n hx hb dX11_leaves_8 rfl (lv_at hl 0 rfl) ?_
    refine lv_if_eq (tgt := 14) hx hb dX11_leaves_9 (by decide) (fun c22 => ?_) (fun c22 => ?_)
    · exact mm_eqN c22 mm_km6 mm_k0 (by decide)
    · refine lv_iload_n hx hb dX11_leaves_12 rfl (lv_at hl 0 rfl) ?_
      subst hAe
      rw [hQ]
      exact W.iret (v := (-6)) hx hb hr (fun t ht hW => ⟨⟨(-6), (i_31, f_12, i_32, f_13), rfl, ⟨h23, h24, h25, (mm_wk mm_km6 (by decide))⟩, by rw [ht]; exact hP, hK.warm hW, hD⟩, hS.F ht⟩) hS.2.2 dX11_leaves_13
  · refine lv_istore_n (lv' := [(3, .int 0), (0, .ref a_0), (1, .int i_0), (2, .int i_1)]) hx hb dX11_leaves_7 rfl hl (by decide) rfl ?_
    clear hl
    clear ls
    intro ls hl
    refine lv_iload_n hx hb dX11_leaves_8 rfl (lv_at hl 0 rfl) ?_
    refine lv_if_eq (tgt := 14) hx hb dX11_leaves_9 (by decide) (fun c23 => ?_) (fun c23 => ?_)
    · refine lv_aload_n hx hb dX11_leaves_14 rfl (lv_at hl 1 rfl) ?_
      refine va_get (D := G) (ci := 11) (v := .ref a_8) (C := RX11) (T := TX11) (N := 11) hx hb hts (mm_i inlX11) hown hK.1 hP 0 rfl rfl 7 (by decide) (mm_h hts mm_w42) (fun _ h9 => h9) rfl dX11_leaves_15 ?_
      refine lv_aload_n hx hb dX11_leaves_18 rfl (lv_at hl 1 rfl) ?_
      refine va_get (D := G) (ci := 11) (v := .ref a_6) (C := RX11) (T := TX11) (N := 11) hx hb hts (mm_i inlX11) hown hK.1 hP 0 rfl rfl 5 (by decide) (mm_h hts mm_w32) (fun _ h9 => h9) rfl dX11_leaves_19 ?_
      refine lv_iload_n hx hb dX11_leaves_22 rfl (lv_at hl 2 rfl) ?_
      obtain rfl : i_0 = 0 := mm_is w5 0 (by decide)
      refine va_aldq hx hb hK.1 hP 15 6 rfl rfl (mm_in mm_k0 (by decide)) dX11_leaves_23 ?_
      refine W.eq (g2 := F0 m 24 ls [.ref a_33, .ref a_8]) rfl ?_
      refine lv_iload_n hx hb dX11_leaves_24 rfl (lv_at hl 3 rfl) ?_
      refine mm_fini (va_runV (As := [.ref a_33, .int i_1]) (rest := []) ⟨hx, hb, hml, hown, hts⟩ (K443_X3_gather l G cy H.size a_8 a_33 i_1 a_3 a_12 a_13 i_2 i_3 i_4 i_5 i_6 i_7 i_8 i_9 a_14 a_15 a_16 a_17 a_18 a_19 a_20 a_21 a_22 a_23 f_0 f_1 f_2 f_3 f_4 a_24 a_25 a_26 a_27 a_28 i_10 i_11 i_12 f_5 a_29 a_30 i_13 i_14 i_15 f_6 a_31 a_32 i_16 i_17 i_18 f_7 i_19 i_20 i_21 a_37 f_8 a_7 a_42 i_32 f_13 w6 h0 h1 h3 h4 h5 h6 h7 h8 h9 h10 h11 h12 h13 h14 h16 h24 h25 w8) (cwV 2 hts (mm_gV mm_w1249 mm_w1250 mm_w1251 mm_w41 mm_w1252) rfl rfl rfl hd_X3_gather ⟨by rw [hRf]; exact Nat.le_of_ble_eq_true rfl, by rw [hRl]; exact Nat.le_of_ble_eq_true rfl⟩) (mm_preV hK hZ hS hA hP hD [1, 2, 3, 4, 5, 6, 7, 8, 9, 10, 11, 12, 13, 14, 16, 17, 26, 27] rfl rfl 26 rfl rfl rfl) rfl rfl hl.1 rfl (lv_room (Nat.le_of_ble_eq_true rfl)) dX11_leaves_25 ⟨by rw [hRc]; exact Nat.le_of_ble_eq_true rfl, by rw [hRs]; exact Nat.le_of_ble_eq_true rfl⟩) hP hD hS hA (fun u : Int32 × (Nat → Int32) => [(a_0, .inr (11, [.ref a_1, .ref a_2, .ref a_3, .ref a_4, .ref a_5, .ref a_6, .ref a_7, .ref a_8, .ref a_9, .ref a_10, .ref a_11])), (a_3, .inr (10, [.ref a_12, .ref a_13])), (a_12, .inr (0, [.int i_2, .int i_3, .int i_4, .int i_5, .int i_6, .int i_7, .int i_8, .int i_9, .ref a_14, .ref a_15, .ref a_16, .ref a_17, .ref a_18, .ref a_19, .ref a_20, .ref a_21, .ref a_22, .ref a_23])), (a_14, .inl (cy 1, 9, .inl f_0)), (a_15, .inl (cy 1, 9, .inl f_1)), (a_18, .inl (cy 1, 6, .inl f_2)), (a_19, .inl (cy 1, 48, .inl f_3)), (a_20, .inl (cy 1, 30, .inl f_4)), (a_13, .inl (cy 5, 3, .inr (.inr (.inr (.inr (va_up (va_up (va_up (fun _ => none) 0 (some a_24)) 1 (some a_25)) 2 (some a_26))))))), (a_24, .inr (1, [.ref a_27, .ref a_28, .int i_10, .int i_11, .int i_12])), (a_27, .inl (cy 1, 2100, .inl f_5)), (a_25, .inr (1, [.ref a_29, .ref a_30, .int i_13, .int i_14, .int i_15])), (a_29, .inl (cy 1, 2100, .inl f_6)), (a_26, .inr (1, [.ref a_31, .ref a_32, .int i_16, .int i_17, .int i_18])), (a_31, .inl (cy 1, 2100, .inl f_7)), (a_6, .inl (cy 6, 4, .inr (.inr (.inr (.inr (va_up (va_up (va_up (va_up (fun _ => none) 0 (some a_33)) 1 (some a_34)) 2 (some a_35)) 3 (some a_36))))))), (a_33, .inr (6, [.int i_19, .int i_20, .int i_21, .ref a_37])), (a_37, .inl (cy 2, 60, .inr (.inl f_8))), (a_34, .inr (6, [.int i_22, .int i_23, .int i_24, .ref a_38])), (a_38, .inl (cy 2, 60, .inr (.inl f_9))), (a_35, .inr (6, [.int i_25, .int i_26, .int i_27, .ref a_39])), (a_39, .inl (cy 2, 60, .inr (.inl f_10))), (a_36, .inr (6, [.int i_28, .int i_29, .int i_30, .ref a_40])), (a_40, .inl (cy 2, 60, .inr (.inl f_11))), (a_7, .inr (8, [.ref a_41, .int i_31])), (a_41, .inl (cy 1, 210, .inl f_12)), (a_8, .inr (3, [.ref a_3, .ref a_7, .ref a_42, .int u.1])), (a_42, .inl (cy 1, 210, .inl u.2))]) [1, 2, 3, 4, 5, 6, 7, 8, 9, 10, 11, 12, 13, 14, 16, 17, 26, 27] [0, 15, 18, 19, 20, 21, 22, 23, 24, 25] (n := 28) (fun _ => rfl) (by decide +kernel) (by decide +kernel) rfl (fun _ => rfl) (wr := [(a_0, .inr (11, [.ref a_1, .ref a_2, .ref a_3, .ref a_4, .ref a_5, .ref a_6, .ref a_7, .ref a_8, .ref a_9, .ref a_10, .ref a_11])), (a_6, .inl (cy 6, 4, .inr (.inr (.inr (.inr (va_up (va_up (va_up (va_up (fun _ => none) 0 (some a_33)) 1 (some a_34)) 2 (some a_35)) 3 (some a_36))))))), (a_34, .inr (6, [.int i_22, .int i_23, .int i_24, .ref a_38])), (a_38, .inl (cy 2, 60, .inr (.inl f_9))), (a_35, .inr (6, [.int i_25, .int i_26, .int i_27, .ref a_39])), (a_39, .inl (cy 2, 60, .inr (.inl f_10))), (a_36, .inr (6, [.int i_28, .int i_29, .int i_30, .ref a_40])), (a_40, .inl (cy 2, 60, .inr (.inl f_11))), (a_7, .inr (8, [.ref a_41, .int i_31])), (a_41, .inl (cy 1, 210, .inl f_12))]) rfl (fun _ => rfl) (fun _ => rfl) ?_
      clear hP hD hS
      clear H locs
      intro v26 u
      obtain ⟨n24, n25⟩ := u
      intro H locs hw (hP : va_P G vwCl [(a_0, .inr (11, [.ref a_1, .ref a_2, .ref a_3, .ref a_4, .ref a_5, .ref a_6, .ref a_7, .ref a_8, .ref a_9, .ref a_10, .ref a_11])), (a_3, .inr (10, [.ref a_12, .ref a_13])), (a_12, .inr (0, [.int i_2, .int i_3, .int i_4, .int i_5, .int i_6, .int i_7, .int i_8, .int i_9, .ref a_14, .ref a_15, .ref a_16, .ref a_17, .ref a_18, .ref a_19, .ref a_20, .ref a_21, .ref a_22, .ref a_23])), (a_14, .inl (cy 1, 9, .inl f_0)), (a_15, .inl (cy 1, 9, .inl f_1)), (a_18, .inl (cy 1, 6, .inl f_2)), (a_19, .inl (cy 1, 48, .inl f_3)), (a_20, .inl (cy 1, 30, .inl f_4)), (a_13, .inl (cy 5, 3, .inr (.inr (.inr (.inr (va_up (va_up (va_up (fun _ => none) 0 (some a_24)) 1 (some a_25)) 2 (some a_26))))))), (a_24, .inr (1, [.ref a_27, .ref a_28, .int i_10, .int i_11, .int i_12])), (a_27, .inl (cy 1, 2100, .inl f_5)), (a_25, .inr (1, [.ref a_29, .ref a_30, .int i_13, .int i_14, .int i_15])), (a_29, .inl (cy 1, 2100, .inl f_6)), (a_26, .inr (1, [.ref a_31, .ref a_32, .int i_16, .int i_17, .int i_18])), (a_31, .inl (cy 1, 2100, .inl f_7)), (a_6, .inl (cy 6, 4, .inr (.inr (.inr (.inr (va_up (va_up (va_up (va_up (fun _ => none) 0 (some a_33)) 1 (some a_34)) 2 (some a_35)) 3 (some a_36))))))), (a_33, .inr (6, [.int i_19, .int i_20, .int i_21, .ref a_37])), (a_37, .inl (cy 2, 60, .inr (.inl f_8))), (a_34, .inr (6, [.int i_22, .int i_23, .int i_24, .ref a_38])), (a_38, .inl (cy 2, 60, .inr (.inl f_9))), (a_35, .inr (6, [.int i_25, .int i_26, .int i_27, .ref a_39])), (a_39, .inl (cy 2, 60, .inr (.inl f_10))), (a_36, .inr (6, [.int i_28, .int i_29, .int i_30, .ref a_40])), (a_40, .inl (cy 2, 60, .inr (.inl f_11))), (a_7, .inr (8, [.ref a_41, .int i_31])), (a_41, .inl (cy 1, 210, .inl f_12)), (a_8, .inr (3, [.ref a_3, .ref a_7, .ref a_42, .int n24])), (a_42, .inl (cy 1, 210, .inl n25))] H) (hD : va_D A [(a_0, .inr (11, [.ref a_1, .ref a_2, .ref a_3, .ref a_4, .ref a_5, .ref a_6, .ref a_7, .ref a_8, .ref a_9, .ref a_10, .ref a_11])), (a_3, .inr (10, [.ref a_12, .ref a_13])), (a_12, .inr (0, [.int i_2, .int i_3, .int i_4, .int i_5, .int i_6, .int i_7, .int i_8, .int i_9, .ref a_14, .ref a_15, .ref a_16, .ref a_17, .ref a_18, .ref a_19, .ref a_20, .ref a_21, .ref a_22, .ref a_23])), (a_14, .inl (cy 1, 9, .inl f_0)), (a_15, .inl (cy 1, 9, .inl f_1)), (a_18, .inl (cy 1, 6, .inl f_2)), (a_19, .inl (cy 1, 48, .inl f_3)), (a_20, .inl (cy 1, 30, .inl f_4)), (a_13, .inl (cy 5, 3, .inr (.inr (.inr (.inr (va_up (va_up (va_up (fun _ => none) 0 (some a_24)) 1 (some a_25)) 2 (some a_26))))))), (a_24, .inr (1, [.ref a_27, .ref a_28, .int i_10, .int i_11, .int i_12])), (a_27, .inl (cy 1, 2100, .inl f_5)), (a_25, .inr (1, [.ref a_29, .ref a_30, .int i_13, .int i_14, .int i_15])), (a_29, .inl (cy 1, 2100, .inl f_6)), (a_26, .inr (1, [.ref a_31, .ref a_32, .int i_16, .int i_17, .int i_18])), (a_31, .inl (cy 1, 2100, .inl f_7)), (a_6, .inl (cy 6, 4, .inr (.inr (.inr (.inr (va_up (va_up (va_up (va_up (fun _ => none) 0 (some a_33)) 1 (some a_34)) 2 (some a_35)) 3 (some a_36))))))), (a_33, .inr (6, [.int i_19, .int i_20, .int i_21, .ref a_37])), (a_37, .inl (cy 2, 60, .inr (.inl f_8))), (a_34, .inr (6, [.int i_22, .int i_23, .int i_24, .ref a_38])), (a_38, .inl (cy 2, 60, .inr (.inl f_9))), (a_35, .inr (6, [.int i_25, .int i_26, .int i_27, .ref a_39])), (a_39, .inl (cy 2, 60, .inr (.inl f_10))), (a_36, .inr (6, [.int i_28, .int i_29, .int i_30, .ref a_40])), (a_40, .inl (cy 2, 60, .inr (.inl f_11))), (a_7, .inr (8, [.ref a_41, .int i_31])), (a_41, .inl (cy 1, 210, .inl f_12)), (a_8, .inr (3, [.ref a_3, .ref a_7, .ref a_42, .int n24])), (a_42, .inl (cy 1, 210, .inl n25))]) hS
      obtain ⟨w27, w28, hw⟩ := hw
      have w29 := hw
      refine lv_istore (lv' := [(4, .int v26), (3, .int 0), (0, .ref a_0), (1, .int 0), (2, .int i_1)]) hx hb dX11_leaves_28 hl (by decide) rfl ?_
      clear hl
      clear ls
      intro ls hl
      refine lv_aload_n hx hb dX11_leaves_30 rfl (lv_at hl 2 rfl) ?_
      refine va_get (D := G) (ci := 11) (v := .ref a_8) (C := RX11) (T := TX11) (N := 11) hx hb hts (mm_i inlX11) hown hK.1 hP 0 rfl rfl 7 (by decide) (mm_h hts mm_w42) (fun _ h9 => h9) rfl dX11_leaves_31 ?_
      refine lv_iload_n hx hb dX11_leaves_34 rfl (lv_at hl 4 rfl) ?_
      refine mm_fini (va_runV (As := [.int i_1]) (rest := []) ⟨hx, hb, hml, hown, hts⟩ (K450_X3_question l G cy H.size a_8 i_1 a_3 a_12 a_13 i_2 i_3 i_4 i_5 i_6 i_7 i_8 i_9 a_14 a_15 a_16 a_17 a_18 a_19 a_20 a_21 a_22 a_23 f_0 f_1 f_2 f_3 f_4 a_24 a_25 a_26 a_27 a_28 i_10 i_11 i_12 f_5 a_29 a_30 i_13 i_14 i_15 f_6 a_31 a_32 i_16 i_17 i_18 f_7 a_7 a_41 i_31 f_12 a_42 n24 n25 w6 h0 h1 h3 h4 h5 h6 h7 h8 h9 h10 h11 h12 h13 h14 h23 w27 w28) (cwV 1 hts (mm_gV mm_w1297 mm_w1298 mm_w1299 mm_w41 mm_w1300) rfl rfl rfl hd_X3_question ⟨by rw [hRf]; exact Nat.le_of_ble_eq_true rfl, by rw [hRl]; exact Nat.le_of_ble_eq_true rfl⟩) (mm_preV hK hZ hS hA hP hD [1, 2, 3, 4, 5, 6, 7, 8, 9, 10, 11, 12, 13, 14, 24, 25, 26, 27] rfl rfl 26 rfl rfl rfl) rfl rfl hl.1 rfl (lv_room (Nat.le_of_ble_eq_true rfl)) dX11_leaves_35 ⟨by rw [hRc]; exact Nat.le_of_ble_eq_true rfl, by rw [hRs]; exact Nat.le_of_ble_eq_true rfl⟩) hP hD hS hA (fun u : Int32 × (Nat → Int32) => [(a_0, .inr (11, [.ref a_1, .ref a_2, .ref a_3, .ref a_4, .ref a_5, .ref a_6, .ref a_7, .ref a_8, .ref a_9, .ref a_10, .ref a_11])), (a_3, .inr (10, [.ref a_12, .ref a_13])), (a_12, .inr (0, [.int i_2, .int i_3, .int i_4, .int i_5, .int i_6, .int i_7, .int i_8, .int i_9, .ref a_14, .ref a_15, .ref a_16, .ref a_17, .ref a_18, .ref a_19, .ref a_20, .ref a_21, .ref a_22, .ref a_23])), (a_14, .inl (cy 1, 9, .inl f_0)), (a_15, .inl (cy 1, 9, .inl f_1)), (a_18, .inl (cy 1, 6, .inl f_2)), (a_19, .inl (cy 1, 48, .inl f_3)), (a_20, .inl (cy 1, 30, .inl f_4)), (a_13, .inl (cy 5, 3, .inr (.inr (.inr (.inr (va_up (va_up (va_up (fun _ => none) 0 (some a_24)) 1 (some a_25)) 2 (some a_26))))))), (a_24, .inr (1, [.ref a_27, .ref a_28, .int i_10, .int i_11, .int i_12])), (a_27, .inl (cy 1, 2100, .inl f_5)), (a_25, .inr (1, [.ref a_29, .ref a_30, .int i_13, .int i_14, .int i_15])), (a_29, .inl (cy 1, 2100, .inl f_6)), (a_26, .inr (1, [.ref a_31, .ref a_32, .int i_16, .int i_17, .int i_18])), (a_31, .inl (cy 1, 2100, .inl f_7)), (a_6, .inl (cy 6, 4, .inr (.inr (.inr (.inr (va_up (va_up (va_up (va_up (fun _ => none) 0 (some a_33)) 1 (some a_34)) 2 (some a_35)) 3 (some a_36))))))), (a_33, .inr (6, [.int i_19, .int i_20, .int i_21, .ref a_37])), (a_37, .inl (cy 2, 60, .inr (.inl f_8))), (a_34, .inr (6, [.int i_22, .int i_23, .int i_24, .ref a_38])), (a_38, .inl (cy 2, 60, .inr (.inl f_9))), (a_35, .inr (6, [.int i_25, .int i_26, .int i_27, .ref a_39])), (a_39, .inl (cy 2, 60, .inr (.inl f_10))), (a_36, .inr (6, [.int i_28, .int i_29, .int i_30, .ref a_40])), (a_40, .inl (cy 2, 60, .inr (.inl f_11))), (a_7, .inr (8, [.ref a_41, .int u.1])), (a_41, .inl (cy 1, 210, .inl u.2)), (a_8, .inr (3, [.ref a_3, .ref a_7, .ref a_42, .int n24])), (a_42, .inl (cy 1, 210, .inl n25))]) [1, 2, 3, 4, 5, 6, 7, 8, 9, 10, 11, 12, 13, 14, 24, 25, 26, 27] [0, 15, 16, 17, 18, 19, 20, 21, 22, 23] (n := 28) (fun _ => rfl) (by decide +kernel) (by decide +kernel) rfl (fun _ => rfl) (wr := [(a_0, .inr (11, [.ref a_1, .ref a_2, .ref a_3, .ref a_4, .ref a_5, .ref a_6, .ref a_7, .ref a_8, .ref a_9, .ref a_10, .ref a_11])), (a_6, .inl (cy 6, 4, .inr (.inr (.inr (.inr (va_up (va_up (va_up (va_up (fun _ => none) 0 (some a_33)) 1 (some a_34)) 2 (some a_35)) 3 (some a_36))))))), (a_33, .inr (6, [.int i_19, .int i_20, .int i_21, .ref a_37])), (a_37, .inl (cy 2, 60, .inr (.inl f_8))), (a_34, .inr (6, [.int i_22, .int i_23, .int i_24, .ref a_38])), (a_38, .inl (cy 2, 60, .inr (.inl f_9))), (a_35, .inr (6, [.int i_25, .int i_26, .int i_27, .ref a_39])), (a_39, .inl (cy 2, 60, .inr (.inl f_10))), (a_36, .inr (6, [.int i_28, .int i_29, .int i_30, .ref a_40])), (a_40, .inl (cy 2, 60, .inr (.inl f_11)))]) rfl (fun _ => rfl) (fun _ => rfl) ?_
      clear hP hD hS
      clear H locs
      intro v32 u
      obtain ⟨n30, n31⟩ := u
      intro H locs hw (hP : va_P G vwCl [(a_0, .inr (11, [.ref a_1, .ref a_2, .ref a_3, .ref a_4, .ref a_5, .ref a_6, .ref a_7, .ref a_8, .ref a_9, .ref a_10, .ref a_11])), (a_3, .inr (10, [.ref a_12, .ref a_13])), (a_12, .inr (0, [.int i_2, .int i_3, .int i_4, .int i_5, .int i_6, .int i_7, .int i_8, .int i_9, .ref a_14, .ref a_15, .ref a_16, .ref a_17, .ref a_18, .ref a_19, .ref a_20, .ref a_21, .ref a_22, .ref a_23])), (a_14, .inl (cy 1, 9, .inl f_0)), (a_15, .inl (cy 1, 9, .inl f_1)), (a_18, .inl (cy 1, 6, .inl f_2)), (a_19, .inl (cy 1, 48, .inl f_3)), (a_20, .inl (cy 1, 30, .inl f_4)), (a_13, .inl (cy 5, 3, .inr (.inr (.inr (.inr (va_up (va_up (va_up (fun _ => none) 0 (some a_24)) 1 (some a_25)) 2 (some a_26))))))), (a_24, .inr (1, [.ref a_27, .ref a_28, .int i_10, .int i_11, .int i_12])), (a_27, .inl (cy 1, 2100, .inl f_5)), (a_25, .inr (1, [.ref a_29, .ref a_30, .int i_13, .int i_14, .int i_15])), (a_29, .inl (cy 1, 2100, .inl f_6)), (a_26, .inr (1, [.ref a_31, .ref a_32, .int i_16, .int i_17, .int i_18])), (a_31, .inl (cy 1, 2100, .inl f_7)), (a_6, .inl (cy 6, 4, .inr (.inr (.inr (.inr (va_up (va_up (va_up (va_up (fun _ => none) 0 (some a_33)) 1 (some a_34)) 2 (some a_35)) 3 (some a_36))))))), (a_33, .inr (6, [.int i_19, .int i_20, .int i_21, .ref a_37])), (a_37, .inl (cy 2, 60, .inr (.inl f_8))), (a_34, .inr (6, [.int i_22, .int i_23, .int i_24, .ref a_38])), (a_38, .inl (cy 2, 60, .inr (.inl f_9))), (a_35, .inr (6, [.int i_25, .int i_26, .int i_27, .ref a_39])), (a_39, .inl (cy 2, 60, .inr (.inl f_10))), (a_36, .inr (6, [.int i_28, .int i_29, .int i_30, .ref a_40])), (a_40, .inl (cy 2, 60, .inr (.inl f_11))), (a_7, .inr (8, [.ref a_41, .int n30])), (a_41, .inl (cy 1, 210, .inl n31)), (a_8, .inr (3, [.ref a_3, .ref a_7, .ref a_42, .int n24])), (a_42, .inl (cy 1, 210, .inl n25))] H) (hD : va_D A [(a_0, .inr (11, [.ref a_1, .ref a_2, .ref a_3, .ref a_4, .ref a_5, .ref a_6, .ref a_7, .ref a_8, .ref a_9, .ref a_10, .ref a_11])), (a_3, .inr (10, [.ref a_12, .ref a_13])), (a_12, .inr (0, [.int i_2, .int i_3, .int i_4, .int i_5, .int i_6, .int i_7, .int i_8, .int i_9, .ref a_14, .ref a_15, .ref a_16, .ref a_17, .ref a_18, .ref a_19, .ref a_20, .ref a_21, .ref a_22, .ref a_23])), (a_14, .inl (cy 1, 9, .inl f_0)), (a_15, .inl (cy 1, 9, .inl f_1)), (a_18, .inl (cy 1, 6, .inl f_2)), (a_19, .inl (cy 1, 48, .inl f_3)), (a_20, .inl (cy 1, 30, .inl f_4)), (a_13, .inl (cy 5, 3, .inr (.inr (.inr (.inr (va_up (va_up (va_up (fun _ => none) 0 (some a_24)) 1 (some a_25)) 2 (some a_26))))))), (a_24, .inr (1, [.ref a_27, .ref a_28, .int i_10, .int i_11, .int i_12])), (a_27, .inl (cy 1, 2100, .inl f_5)), (a_25, .inr (1, [.ref a_29, .ref a_30, .int i_13, .int i_14, .int i_15])), (a_29, .inl (cy 1, 2100, .inl f_6)), (a_26, .inr (1, [.ref a_31, .ref a_32, .int i_16, .int i_17, .int i_18])), (a_31, .inl (cy 1, 2100, .inl f_7)), (a_6, .inl (cy 6, 4, .inr (.inr (.inr (.inr (va_up (va_up (va_up (va_up (fun _ => none) 0 (some a_33)) 1 (some a_34)) 2 (some a_35)) 3 (some a_36))))))), (a_33, .inr (6, [.int i_19, .int i_20, .int i_21, .ref a_37])), (a_37, .inl (cy 2, 60, .inr (.inl f_8))), (a_34, .inr (6, [.int i_22, .int i_23, .int i_24, .ref a_38])), (a_38, .inl (cy 2, 60, .inr (.inl f_9))), (a_35, .inr (6, [.int i_25, .int i_26, .int i_27, .ref a_39])), (a_39, .inl (cy 2, 60, .inr (.inl f_10))), (a_36, .inr (6, [.int i_28, .int i_29, .int i_30, .ref a_40])), (a_40, .inl (cy 2, 60, .inr (.inl f_11))), (a_7, .inr (8, [.ref a_41, .int n30])), (a_41, .inl (cy 1, 210, .inl n31)), (a_8, .inr (3, [.ref a_3, .ref a_7, .ref a_42, .int n24])), (a_42, .inl (cy 1, 210, .inl n25))]) hS
      obtain ⟨w33, hw⟩ := hw
      have w34 := hw
      refine lv_istore (lv' := [(5, .int v32), (4, .int v26), (3, .int 0), (0, .ref a_0), (1, .int 0), (2, .int i_1)]) hx hb dX11_leaves_38 hl (by decide) rfl ?_
      clear hl
      clear ls
      intro ls hl
      refine lv_iload hx hb dX11_leaves_40 (lv_at hl 0 rfl) ?_
      refine lv_iconst (v := (-1)) hx hb dX11_leaves_42 (by decide) ?_
      refine lv_icmp_ne (tgt := 51) hx hb dX11_leaves_43 (by decide) (fun c35 => ?_) (fun c35 => ?_)
      · have q36 := mm_neL (lo := 0) (mm_ne c35) w34 mm_km1 (by decide) (by decide)
        refine lv_aload_n hx hb dX11_leaves_51 rfl (lv_at hl 3 rfl) ?_
        refine va_get (D := G) (ci := 11) (v := .ref a_8) (C := RX11) (T := TX11) (N := 11) hx hb hts (mm_i inlX11) hown hK.1 hP 0 rfl rfl 7 (by decide) (mm_h hts mm_w42) (fun _ h9 => h9) rfl dX11_leaves_52 ?_
        refine lv_iload_n hx hb dX11_leaves_55 rfl (lv_at hl 5 rfl) ?_
        refine lv_iload hx hb dX11_leaves_56 (lv_at hl 0 rfl) ?_
        refine mm_fini (va_runV (As := [.int i_1, .int v32]) (rest := []) ⟨hx, hb, hml, hown, hts⟩ (K449_X3_leftAtWorst l G cy H.size a_8 i_1 v32 a_3 a_12 a_13 i_2 i_3 i_4 i_5 i_6 i_7 i_8 i_9 a_14 a_15 a_16 a_17 a_18 a_19 a_20 a_21 a_22 a_23 f_0 f_1 f_2 f_3 f_4 a_24 a_25 a_26 a_27 a_28 i_10 i_11 i_12 f_5 a_29 a_30 i_13 i_14 i_15 f_6 a_31 a_32 i_16 i_17 i_18 f_7 a_7 a_41 n30 n31 a_42 n24 n25 w6 q36 h0 h1 h4 h5 h6 h7 h8 h9 h10 h11 h12 h13 h14 w33 w27 w28) (cwV 2 hts (mm_gV mm_w1330 mm_w1302 mm_w1303 mm_w41 mm_w1304) rfl rfl rfl hd_X3_leftAtWorst ⟨by rw [hRf]; exact Nat.le_of_ble_eq_true rfl, by rw [hRl]; exact Nat.le_of_ble_eq_true rfl⟩) (mm_preV hK hZ hS hA hP hD [1, 2, 3, 4, 5, 6, 7, 8, 9, 10, 11, 12, 13, 14, 24, 25, 26, 27] rfl rfl 26 rfl rfl rfl) rfl rfl hl.1 rfl (lv_room (Nat.le_of_ble_eq_true rfl)) dX11_leaves_58 ⟨by rw [hRc]; exact Nat.le_of_ble_eq_true rfl, by rw [hRs]; exact Nat.le_of_ble_eq_true rfl⟩) hP hD hS hA (fun u : Int32 × (Nat → Int32) => [(a_0, .inr (11, [.ref a_1, .ref a_2, .ref a_3, .ref a_4, .ref a_5, .ref a_6, .ref a_7, .ref a_8, .ref a_9, .ref a_10, .ref a_11])), (a_3, .inr (10, [.ref a_12, .ref a_13])), (a_12, .inr (0, [.int i_2, .int i_3, .int i_4, .int i_5, .int i_6, .int i_7, .int i_8, .int i_9, .ref a_14, .ref a_15, .ref a_16, .ref a_17, .ref a_18, .ref a_19, .ref a_20, .ref a_21, .ref a_22, .ref a_23])), (a_14, .inl (cy 1, 9, .inl f_0)), (a_15, .inl (cy 1, 9, .inl f_1)), (a_18, .inl (cy 1, 6, .inl f_2)), (a_19, .inl (cy 1, 48, .inl f_3)), (a_20, .inl (cy 1, 30, .inl f_4)), (a_13, .inl (cy 5, 3, .inr (.inr (.inr (.inr (va_up (va_up (va_up (fun _ => none) 0 (some a_24)) 1 (some a_25)) 2 (some a_26))))))), (a_24, .inr (1, [.ref a_27, .ref a_28, .int i_10, .int i_11, .int i_12])), (a_27, .inl (cy 1, 2100, .inl f_5)), (a_25, .inr (1, [.ref a_29, .ref a_30, .int i_13, .int i_14, .int i_15])), (a_29, .inl (cy 1, 2100, .inl f_6)), (a_26, .inr (1, [.ref a_31, .ref a_32, .int i_16, .int i_17, .int i_18])), (a_31, .inl (cy 1, 2100, .inl f_7)), (a_6, .inl (cy 6, 4, .inr (.inr (.inr (.inr (va_up (va_up (va_up (va_up (fun _ => none) 0 (some a_33)) 1 (some a_34)) 2 (some a_35)) 3 (some a_36))))))), (a_33, .inr (6, [.int i_19, .int i_20, .int i_21, .ref a_37])), (a_37, .inl (cy 2, 60, .inr (.inl f_8))), (a_34, .inr (6, [.int i_22, .int i_23, .int i_24, .ref a_38])), (a_38, .inl (cy 2, 60, .inr (.inl f_9))), (a_35, .inr (6, [.int i_25, .int i_26, .int i_27, .ref a_39])), (a_39, .inl (cy 2, 60, .inr (.inl f_10))), (a_36, .inr (6, [.int i_28, .int i_29, .int i_30, .ref a_40])), (a_40, .inl (cy 2, 60, .inr (.inl f_11))), (a_7, .inr (8, [.ref a_41, .int u.1])), (a_41, .inl (cy 1, 210, .inl u.2)), (a_8, .inr (3, [.ref a_3, .ref a_7, .ref a_42, .int n24])), (a_42, .inl (cy 1, 210, .inl n25))]) [1, 2, 3, 4, 5, 6, 7, 8, 9, 10, 11, 12, 13, 14, 24, 25, 26, 27] [0, 15, 16, 17, 18, 19, 20, 21, 22, 23] (n := 28) (fun _ => rfl) (by decide +kernel) (by decide +kernel) rfl (fun _ => rfl) (wr := [(a_0, .inr (11, [.ref a_1, .ref a_2, .ref a_3, .ref a_4, .ref a_5, .ref a_6, .ref a_7, .ref a_8, .ref a_9, .ref a_10, .ref a_11])), (a_6, .inl (cy 6, 4, .inr (.inr (.inr (.inr (va_up (va_up (va_up (va_up (fun _ => none) 0 (some a_33)) 1 (some a_34)) 2 (some a_35)) 3 (some a_36))))))), (a_33, .inr (6, [.int i_19, .int i_20, .int i_21, .ref a_37])), (a_37, .inl (cy 2, 60, .inr (.inl f_8))), (a_34, .inr (6, [.int i_22, .int i_23, .int i_24, .ref a_38])), (a_38, .inl (cy 2, 60, .inr (.inl f_9))), (a_35, .inr (6, [.int i_25, .int i_26, .int i_27, .ref a_39])), (a_39, .inl (cy 2, 60, .inr (.inl f_10))), (a_36, .inr (6, [.int i_28, .int i_29, .int i_30, .ref a_40])), (a_40, .inl (cy 2, 60, .inr (.inl f_11)))]) rfl (fun _ => rfl) (fun _ => rfl) ?_
        clear hP hD hS
        clear H locs
        intro v39 u
        obtain ⟨n37, n38⟩ := u
        intro H locs hw (hP : va_P G vwCl [(a_0, .inr (11, [.ref a_1, .ref a_2, .ref a_3, .ref a_4, .ref a_5, .ref a_6, .ref a_7, .ref a_8, .ref a_9, .ref a_10, .ref a_11])), (a_3, .inr (10, [.ref a_12, .ref a_13])), (a_12, .inr (0, [.int i_2, .int i_3, .int i_4, .int i_5, .int i_6, .int i_7, .int i_8, .int i_9, .ref a_14, .ref a_15, .ref a_16, .ref a_17, .ref a_18, .ref a_19, .ref a_20, .ref a_21, .ref a_22, .ref a_23])), (a_14, .inl (cy 1, 9, .inl f_0)), (a_15, .inl (cy 1, 9, .inl f_1)), (a_18, .inl (cy 1, 6, .inl f_2)), (a_19, .inl (cy 1, 48, .inl f_3)), (a_20, .inl (cy 1, 30, .inl f_4)), (a_13, .inl (cy 5, 3, .inr (.inr (.inr (.inr (va_up (va_up (va_up (fun _ => none) 0 (some a_24)) 1 (some a_25)) 2 (some a_26))))))), (a_24, .inr (1, [.ref a_27, .ref a_28, .int i_10, .int i_11, .int i_12])), (a_27, .inl (cy 1, 2100, .inl f_5)), (a_25, .inr (1, [.ref a_29, .ref a_30, .int i_13, .int i_14, .int i_15])), (a_29, .inl (cy 1, 2100, .inl f_6)), (a_26, .inr (1, [.ref a_31, .ref a_32, .int i_16, .int i_17, .int i_18])), (a_31, .inl (cy 1, 2100, .inl f_7)), (a_6, .inl (cy 6, 4, .inr (.inr (.inr (.inr (va_up (va_up (va_up (va_up (fun _ => none) 0 (some a_33)) 1 (some a_34)) 2 (some a_35)) 3 (some a_36))))))), (a_33, .inr (6, [.int i_19, .int i_20, .int i_21, .ref a_37])), (a_37, .inl (cy 2, 60, .inr (.inl f_8))), (a_34, .inr (6, [.int i_22, .int i_23, .int i_24, .ref a_38])), (a_38, .inl (cy 2, 60, .inr (.inl f_9))), (a_35, .inr (6, [.int i_25, .int i_26, .int i_27, .ref a_39])), (a_39, .inl (cy 2, 60, .inr (.inl f_10))), (a_36, .inr (6, [.int i_28, .int i_29, .int i_30, .ref a_40])), (a_40, .inl (cy 2, 60, .inr (.inl f_11))), (a_7, .inr (8, [.ref a_41, .int n37])), (a_41, .inl (cy 1, 210, .inl n38)), (a_8, .inr (3, [.ref a_3, .ref a_7, .ref a_42, .int n24])), (a_42, .inl (cy 1, 210, .inl n25))] H) (hD : va_D A [(a_0, .inr (11, [.ref a_1, .ref a_2, .ref a_3, .ref a_4, .ref a_5, .ref a_6, .ref a_7, .ref a_8, .ref a_9, .ref a_10, .ref a_11])), (a_3, .inr (10, [.ref a_12, .ref a_13])), (a_12, .inr (0, [.int i_2, .int i_3, .int i_4, .int i_5, .int i_6, .int i_7, .int i_8, .int i_9, .ref a_14, .ref a_15, .ref a_16, .ref a_17, .ref a_18, .ref a_19, .ref a_20, .ref a_21, .ref a_22, .ref a_23])), (a_14, .inl (cy 1, 9, .inl f_0)), (a_15, .inl (cy 1, 9, .inl f_1)), (a_18, .inl (cy 1, 6, .inl f_2)), (a_19, .inl (cy 1, 48, .inl f_3)), (a_20, .inl (cy 1, 30, .inl f_4)), (a_13, .inl (cy 5, 3, .inr (.inr (.inr (.inr (va_up (va_up (va_up (fun _ => none) 0 (some a_24)) 1 (some a_25)) 2 (some a_26))))))), (a_24, .inr (1, [.ref a_27, .ref a_28, .int i_10, .int i_11, .int i_12])), (a_27, .inl (cy 1, 2100, .inl f_5)), (a_25, .inr (1, [.ref a_29, .ref a_30, .int i_13, .int i_14, .int i_15])), (a_29, .inl (cy 1, 2100, .inl f_6)), (a_26, .inr (1, [.ref a_31, .ref a_32, .int i_16, .int i_17, .int i_18])), (a_31, .inl (cy 1, 2100, .inl f_7)), (a_6, .inl (cy 6, 4, .inr (.inr (.inr (.inr (va_up (va_up (va_up (va_up (fun _ => none) 0 (some a_33)) 1 (some a_34)) 2 (some a_35)) 3 (some a_36))))))), (a_33, .inr (6, [.int i_19, .int i_20, .int i_21, .ref a_37])), (a_37, .inl (cy 2, 60, .inr (.inl f_8))), (a_34, .inr (6, [.int i_22, .int i_23, .int i_24, .ref a_38])), (a_38, .inl (cy 2, 60, .inr (.inl f_9))), (a_35, .inr (6, [.int i_25, .int i_26, .int i_27, .ref a_39])), (a_39, .inl (cy 2, 60, .inr (.inl f_10))), (a_36, .inr (6, [.int i_28, .int i_29, .int i_30, .ref a_40])), (a_40, .inl (cy 2, 60, .inr (.inl f_11))), (a_7, .inr (8, [.ref a_41, .int n37])), (a_41, .inl (cy 1, 210, .inl n38)), (a_8, .inr (3, [.ref a_3, .ref a_7, .ref a_42, .int n24])), (a_42, .inl (cy 1, 210, .inl n25))]) hS
        obtain ⟨w40, hw⟩ := hw
        have w41 := hw
        subst hAe
        rw [hQ]
        exact W.iret (v := v39) hx hb hr (fun t ht hW => ⟨⟨v39, (n37, n38, n24, n25), rfl, ⟨w40, w27, w28, (mm_wk w41 (by decide))⟩, by rw [ht]; exact hP, hK.warm hW, hD⟩, hS.F ht⟩) hS.2.2 dX11_leaves_61
      · have q42 := mm_eqI (lo := (-1)) (hi := (-1)) c35 w34 mm_km1 (by decide)
        refine lv_iload hx hb dX11_leaves_46 (lv_at hl 1 rfl) ?_
        refine lv_goto (tgt := 61) hx hb dX11_leaves_48 (by decide) ?_
        subst hAe
        rw [hQ]
        exact W.iret (v := v26) hx hb hr (fun t ht hW => ⟨⟨v26, (n30, n31, n24, n25), rfl, ⟨w33, w27, w28, (mm_wk w29 (by decide))⟩, by rw [ht]; exact hP, hK.warm hW, hD⟩, hS.F ht⟩) hS.2.2 dX11_leaves_61
    · have q43 := mm_neL (lo := 1) (mm_ne c23) mm_k0 mm_k0 (by decide) (by decide)
      exact mm_no q43 (by decide)
  · refine lv_istore_n (lv' := [(3, .int 0), (0, .ref a_0), (1, .int i_0), (2, .int i_1)]) hx hb dX11_leaves_7 rfl hl (by decide) rfl ?_
    clear hl
    clear ls
    intro ls hl
    refine lv_iload_n hx hb dX11_leaves_8 rfl (lv_at hl 0 rfl) ?_
    refine lv_if_eq (tgt := 14) hx hb dX11_leaves_9 (by decide) (fun c44 => ?_) (fun c44 => ?_)
    · refine lv_aload_n hx hb dX11_leaves_14 rfl (lv_at hl 1 rfl) ?_
      refine va_get (D := G) (ci := 11) (v := .ref a_8) (C := RX11) (T := TX11) (N := 11) hx hb hts (mm_i inlX11) hown hK.1 hP 0 rfl rfl 7 (by decide) (mm_h hts mm_w42) (fun _ h9 => h9) rfl dX11_leaves_15 ?_
      refine lv_aload_n hx hb dX11_leaves_18 rfl (lv_at hl 1 rfl) ?_
      refine va_get (D := G) (ci := 11) (v := .ref a_6) (C := RX11) (T := TX11) (N := 11) hx hb hts (mm_i inlX11) hown hK.1 hP 0 rfl rfl 5 (by decide) (mm_h hts mm_w32) (fun _ h9 => h9) rfl dX11_leaves_19 ?_
      refine lv_iload_n hx hb dX11_leaves_22 rfl (lv_at hl 2 rfl) ?_
      obtain rfl : i_0 = 1 := mm_is w9 1 (by decide)
      refine va_aldq hx hb hK.1 hP 15 6 rfl rfl (mm_in mm_k1 (by decide)) dX11_leaves_23 ?_
      refine W.eq (g2 := F0 m 24 ls [.ref a_34, .ref a_8]) rfl ?_
      refine lv_iload_n hx hb dX11_leaves_24 rfl (lv_at hl 3 rfl) ?_
      refine mm_fini (va_runV (As := [.ref a_34, .int i_1]) (rest := []) ⟨hx, hb, hml, hown, hts⟩ (K443_X3_gather l G cy H.size a_8 a_34 i_1 a_3 a_12 a_13 i_2 i_3 i_4 i_5 i_6 i_7 i_8 i_9 a_14 a_15 a_16 a_17 a_18 a_19 a_20 a_21 a_22 a_23 f_0 f_1 f_2 f_3 f_4 a_24 a_25 a_26 a_27 a_28 i_10 i_11 i_12 f_5 a_29 a_30 i_13 i_14 i_15 f_6 a_31 a_32 i_16 i_17 i_18 f_7 i_22 i_23 i_24 a_38 f_9 a_7 a_42 i_32 f_13 w10 h0 h1 h3 h4 h5 h6 h7 h8 h9 h10 h11 h12 h13 h14 h18 h24 h25 w12) (cwV 2 hts (mm_gV mm_w1249 mm_w1250 mm_w1251 mm_w41 mm_w1252) rfl rfl rfl hd_X3_gather ⟨by rw [hRf]; exact Nat.le_of_ble_eq_true rfl, by rw [hRl]; exact Nat.le_of_ble_eq_true rfl⟩) (mm_preV hK hZ hS hA hP hD [1, 2, 3, 4, 5, 6, 7, 8, 9, 10, 11, 12, 13, 14, 18, 19, 26, 27] rfl rfl 26 rfl rfl rfl) rfl rfl hl.1 rfl (lv_room (Nat.le_of_ble_eq_true rfl)) dX11_leaves_25 ⟨by rw [hRc]; exact Nat.le_of_ble_eq_true rfl, by rw [hRs]; exact Nat.le_of_ble_eq_true rfl⟩) hP hD hS hA (fun u : Int32 × (Nat → Int32) => [(a_0, .inr (11, [.ref a_1, .ref a_2, .ref a_3, .ref a_4, .ref a_5, .ref a_6, .ref a_7, .ref a_8, .ref a_9, .ref a_10, .ref a_11])), (a_3, .inr (10, [.ref a_12, .ref a_13])), (a_12, .inr (0, [.int i_2, .int i_3, .int i_4, .int i_5, .int i_6, .int i_7, .int i_8, .int i_9, .ref a_14, .ref a_15, .ref a_16, .ref a_17, .ref a_18, .ref a_19, .ref a_20, .ref a_21, .ref a_22, .ref a_23])), (a_14, .inl (cy 1, 9, .inl f_0)), (a_15, .inl (cy 1, 9, .inl f_1)), (a_18, .inl (cy 1, 6, .inl f_2)), (a_19, .inl (cy 1, 48, .inl f_3)), (a_20, .inl (cy 1, 30, .inl f_4)), (a_13, .inl (cy 5, 3, .inr (.inr (.inr (.inr (va_up (va_up (va_up (fun _ => none) 0 (some a_24)) 1 (some a_25)) 2 (some a_26))))))), (a_24, .inr (1, [.ref a_27, .ref a_28, .int i_10, .int i_11, .int i_12])), (a_27, .inl (cy 1, 2100, .inl f_5)), (a_25, .inr (1, [.ref a_29, .ref a_30, .int i_13, .int i_14, .int i_15])), (a_29, .inl (cy 1, 2100, .inl f_6)), (a_26, .inr (1, [.ref a_31, .ref a_32, .int i_16, .int i_17, .int i_18])), (a_31, .inl (cy 1, 2100, .inl f_7)), (a_6, .inl (cy 6, 4, .inr (.inr (.inr (.inr (va_up (va_up (va_up (va_up (fun _ => none) 0 (some a_33)) 1 (some a_34)) 2 (some a_35)) 3 (some a_36))))))), (a_33, .inr (6, [.int i_19, .int i_20, .int i_21, .ref a_37])), (a_37, .inl (cy 2, 60, .inr (.inl f_8))), (a_34, .inr (6, [.int i_22, .int i_23, .int i_24, .ref a_38])), (a_38, .inl (cy 2, 60, .inr (.inl f_9))), (a_35, .inr (6, [.int i_25, .int i_26, .int i_27, .ref a_39])), (a_39, .inl (cy 2, 60, .inr (.inl f_10))), (a_36, .inr (6, [.int i_28, .int i_29, .int i_30, .ref a_40])), (a_40, .inl (cy 2, 60, .inr (.inl f_11))), (a_7, .inr (8, [.ref a_41, .int i_31])), (a_41, .inl (cy 1, 210, .inl f_12)), (a_8, .inr (3, [.ref a_3, .ref a_7, .ref a_42, .int u.1])), (a_42, .inl (cy 1, 210, .inl u.2))]) [1, 2, 3, 4, 5, 6, 7, 8, 9, 10, 11, 12, 13, 14, 18, 19, 26, 27] [0, 15, 16, 17, 20, 21, 22, 23, 24, 25] (n := 28) (fun _ => rfl) (by decide +kernel) (by decide +kernel) rfl (fun _ => rfl) (wr := [(a_0, .inr (11, [.ref a_1, .ref a_2, .ref a_3, .ref a_4, .ref a_5, .ref a_6, .ref a_7, .ref a_8, .ref a_9, .ref a_10, .ref a_11])), (a_6, .inl (cy 6, 4, .inr (.inr (.inr (.inr (va_up (va_up (va_up (va_up (fun _ => none) 0 (some a_33)) 1 (some a_34)) 2 (some a_35)) 3 (some a_36))))))), (a_33, .inr (6, [.int i_19, .int i_20, .int i_21, .ref a_37])), (a_37, .inl (cy 2, 60, .inr (.inl f_8))), (a_35, .inr (6, [.int i_25, .int i_26, .int i_27, .ref a_39])), (a_39, .inl (cy 2, 60, .inr (.inl f_10))), (a_36, .inr (6, [.int i_28, .int i_29, .int i_30, .ref a_40])), (a_40, .inl (cy 2, 60, .inr (.inl f_11))), (a_7, .inr (8, [.ref a_41, .int i_31])), (a_41, .inl (cy 1, 210, .inl f_12))]) rfl (fun _ => rfl) (fun _ => rfl) ?_
      clear hP hD hS
      clear H locs
      intro v47 u
      obtain ⟨n45, n46⟩ := u
      intro H locs hw (hP : va_P G vwCl [(a_0, .inr (11, [.ref a_1, .ref a_2, .ref a_3, .ref a_4, .ref a_5, .ref a_6, .ref a_7, .ref a_8, .ref a_9, .ref a_10, .ref a_11])), (a_3, .inr (10, [.ref a_12, .ref a_13])), (a_12, .inr (0, [.int i_2, .int i_3, .int i_4, .int i_5, .int i_6, .int i_7, .int i_8, .int i_9, .ref a_14, .ref a_15, .ref a_16, .ref a_17, .ref a_18, .ref a_19, .ref a_20, .ref a_21, .ref a_22, .ref a_23])), (a_14, .inl (cy 1, 9, .inl f_0)), (a_15, .inl (cy 1, 9, .inl f_1)), (a_18, .inl (cy 1, 6, .inl f_2)), (a_19, .inl (cy 1, 48, .inl f_3)), (a_20, .inl (cy 1, 30, .inl f_4)), (a_13, .inl (cy 5, 3, .inr (.inr (.inr (.inr (va_up (va_up (va_up (fun _ => none) 0 (some a_24)) 1 (some a_25)) 2 (some a_26))))))), (a_24, .inr (1, [.ref a_27, .ref a_28, .int i_10, .int i_11, .int i_12])), (a_27, .inl (cy 1, 2100, .inl f_5)), (a_25, .inr (1, [.ref a_29, .ref a_30, .int i_13, .int i_14, .int i_15])), (a_29, .inl (cy 1, 2100, .inl f_6)), (a_26, .inr (1, [.ref a_31, .ref a_32, .int i_16, .int i_17, .int i_18])), (a_31, .inl (cy 1, 2100, .inl f_7)), (a_6, .inl (cy 6, 4, .inr (.inr (.inr (.inr (va_up (va_up (va_up (va_up (fun _ => none) 0 (some a_33)) 1 (some a_34)) 2 (some a_35)) 3 (some a_36))))))), (a_33, .inr (6, [.int i_19, .int i_20, .int i_21, .ref a_37])), (a_37, .inl (cy 2, 60, .inr (.inl f_8))), (a_34, .inr (6, [.int i_22, .int i_23, .int i_24, .ref a_38])), (a_38, .inl (cy 2, 60, .inr (.inl f_9))), (a_35, .inr (6, [.int i_25, .int i_26, .int i_27, .ref a_39])), (a_39, .inl (cy 2, 60, .inr (.inl f_10))), (a_36, .inr (6, [.int i_28, .int i_29, .int i_30, .ref a_40])), (a_40, .inl (cy 2, 60, .inr (.inl f_11))), (a_7, .inr (8, [.ref a_41, .int i_31])), (a_41, .inl (cy 1, 210, .inl f_12)), (a_8, .inr (3, [.ref a_3, .ref a_7, .ref a_42, .int n45])), (a_42, .inl (cy 1, 210, .inl n46))] H) (hD : va_D A [(a_0, .inr (11, [.ref a_1, .ref a_2, .ref a_3, .ref a_4, .ref a_5, .ref a_6, .ref a_7, .ref a_8, .ref a_9, .ref a_10, .ref a_11])), (a_3, .inr (10, [.ref a_12, .ref a_13])), (a_12, .inr (0, [.int i_2, .int i_3, .int i_4, .int i_5, .int i_6, .int i_7, .int i_8, .int i_9, .ref a_14, .ref a_15, .ref a_16, .ref a_17, .ref a_18, .ref a_19, .ref a_20, .ref a_21, .ref a_22, .ref a_23])), (a_14, .inl (cy 1, 9, .inl f_0)), (a_15, .inl (cy 1, 9, .inl f_1)), (a_18, .inl (cy 1, 6, .inl f_2)), (a_19, .inl (cy 1, 48, .inl f_3)), (a_20, .inl (cy 1, 30, .inl f_4)), (a_13, .inl (cy 5, 3, .inr (.inr (.inr (.inr (va_up (va_up (va_up (fun _ => none) 0 (some a_24)) 1 (some a_25)) 2 (some a_26))))))), (a_24, .inr (1, [.ref a_27, .ref a_28, .int i_10, .int i_11, .int i_12])), (a_27, .inl (cy 1, 2100, .inl f_5)), (a_25, .inr (1, [.ref a_29, .ref a_30, .int i_13, .int i_14, .int i_15])), (a_29, .inl (cy 1, 2100, .inl f_6)), (a_26, .inr (1, [.ref a_31, .ref a_32, .int i_16, .int i_17, .int i_18])), (a_31, .inl (cy 1, 2100, .inl f_7)), (a_6, .inl (cy 6, 4, .inr (.inr (.inr (.inr (va_up (va_up (va_up (va_up (fun _ => none) 0 (some a_33)) 1 (some a_34)) 2 (some a_35)) 3 (some a_36))))))), (a_33, .inr (6, [.int i_19, .int i_20, .int i_21, .ref a_37])), (a_37, .inl (cy 2, 60, .inr (.inl f_8))), (a_34, .inr (6, [.int i_22, .int i_23, .int i_24, .ref a_38])), (a_38, .inl (cy 2, 60, .inr (.inl f_9))), (a_35, .inr (6, [.int i_25, .int i_26, .int i_27, .ref a_39])), (a_39, .inl (cy 2, 60, .inr (.inl f_10))), (a_36, .inr (6, [.int i_28, .int i_29, .int i_30, .ref a_40])), (a_40, .inl (cy 2, 60, .inr (.inl f_11))), (a_7, .inr (8, [.ref a_41, .int i_31])), (a_41, .inl (cy 1, 210, .inl f_12)), (a_8, .inr (3, [.ref a_3, .ref a_7, .ref a_42, .int n45])), (a_42, .inl (cy 1, 210, .inl n46))]) hS
      obtain ⟨w48, w49, hw⟩ := hw
      have w50 := hw
      refine lv_istore (lv' := [(4, .int v47), (3, .int 0), (0, .ref a_0), (1, .int 1), (2, .int i_1)]) hx hb dX11_leaves_28 hl (by decide) rfl ?_
      clear hl
      clear ls
      intro ls hl
      refine lv_aload_n hx hb dX11_leaves_30 rfl (lv_at hl 2 rfl) ?_
      refine va_get (D := G) (ci := 11) (v := .ref a_8) (C := RX11) (T := TX11) (N := 11) hx hb hts (mm_i inlX11) hown hK.1 hP 0 rfl rfl 7 (by decide) (mm_h hts mm_w42) (fun _ h9 => h9) rfl dX11_leaves_31 ?_
      refine lv_iload_n hx hb dX11_leaves_34 rfl (lv_at hl 4 rfl) ?_
      refine mm_fini (va_runV (As := [.int i_1]) (rest := []) ⟨hx, hb, hml, hown, hts⟩ (K450_X3_question l G cy H.size a_8 i_1 a_3 a_12 a_13 i_2 i_3 i_4 i_5 i_6 i_7 i_8 i_9 a_14 a_15 a_16 a_17 a_18 a_19 a_20 a_21 a_22 a_23 f_0 f_1 f_2 f_3 f_4 a_24 a_25 a_26 a_27 a_28 i_10 i_11 i_12 f_5 a_29 a_30 i_13 i_14 i_15 f_6 a_31 a_32 i_16 i_17 i_18 f_7 a_7 a_41 i_31 f_12 a_42 n45 n46 w10 h0 h1 h3 h4 h5 h6 h7 h8 h9 h10 h11 h12 h13 h14 h23 w48 w49) (cwV 1 hts (mm_gV mm_w1297 mm_w1298 mm_w1299 mm_w41 mm_w1300) rfl rfl rfl hd_X3_question ⟨by rw [hRf]; exact Nat.le_of_ble_eq_true rfl, by rw [hRl]; exact Nat.le_of_ble_eq_true rfl⟩) (mm_preV hK hZ hS hA hP hD [1, 2, 3, 4, 5, 6, 7, 8, 9, 10, 11, 12, 13, 14, 24, 25, 26, 27] rfl rfl 26 rfl rfl rfl) rfl rfl hl.1 rfl (lv_room (Nat.le_of_ble_eq_true rfl)) dX11_leaves_35 ⟨by rw [hRc]; exact Nat.le_of_ble_eq_true rfl, by rw [hRs]; exact Nat.le_of_ble_eq_true rfl⟩) hP hD hS hA (fun u : Int32 × (Nat → Int32) => [(a_0, .inr (11, [.ref a_1, .ref a_2, .ref a_3, .ref a_4, .ref a_5, .ref a_6, .ref a_7, .ref a_8, .ref a_9, .ref a_10, .ref a_11])), (a_3, .inr (10, [.ref a_12, .ref a_13])), (a_12, .inr (0, [.int i_2, .int i_3, .int i_4, .int i_5, .int i_6, .int i_7, .int i_8, .int i_9, .ref a_14, .ref a_15, .ref a_16, .ref a_17, .ref a_18, .ref a_19, .ref a_20, .ref a_21, .ref a_22, .ref a_23])), (a_14, .inl (cy 1, 9, .inl f_0)), (a_15, .inl (cy 1, 9, .inl f_1)), (a_18, .inl (cy 1, 6, .inl f_2)), (a_19, .inl (cy 1, 48, .inl f_3)), (a_20, .inl (cy 1, 30, .inl f_4)), (a_13, .inl (cy 5, 3, .inr (.inr (.inr (.inr (va_up (va_up (va_up (fun _ => none) 0 (some a_24)) 1 (some a_25)) 2 (some a_26))))))), (a_24, .inr (1, [.ref a_27, .ref a_28, .int i_10, .int i_11, .int i_12])), (a_27, .inl (cy 1, 2100, .inl f_5)), (a_25, .inr (1, [.ref a_29, .ref a_30, .int i_13, .int i_14, .int i_15])), (a_29, .inl (cy 1, 2100, .inl f_6)), (a_26, .inr (1, [.ref a_31, .ref a_32, .int i_16, .int i_17, .int i_18])), (a_31, .inl (cy 1, 2100, .inl f_7)), (a_6, .inl (cy 6, 4, .inr (.inr (.inr (.inr (va_up (va_up (va_up (va_up (fun _ => none) 0 (some a_33)) 1 (some a_34)) 2 (some a_35)) 3 (some a_36))))))), (a_33, .inr (6, [.int i_19, .int i_20, .int i_21, .ref a_37])), (a_37, .inl (cy 2, 60, .inr (.inl f_8))), (a_34, .inr (6, [.int i_22, .int i_23, .int i_24, .ref a_38])), (a_38, .inl (cy 2, 60, .inr (.inl f_9))), (a_35, .inr (6, [.int i_25, .int i_26, .int i_27, .ref a_39])), (a_39, .inl (cy 2, 60, .inr (.inl f_10))), (a_36, .inr (6, [.int i_28, .int i_29, .int i_30, .ref a_40])), (a_40, .inl (cy 2, 60, .inr (.inl f_11))), (a_7, .inr (8, [.ref a_41, .int u.1])), (a_41, .inl (cy 1, 210, .inl u.2)), (a_8, .inr (3, [.ref a_3, .ref a_7, .ref a_42, .int n45])), (a_42, .inl (cy 1, 210, .inl n46))]) [1, 2, 3, 4, 5, 6, 7, 8, 9, 10, 11, 12, 13, 14, 24, 25, 26, 27] [0, 15, 16, 17, 18, 19, 20, 21, 22, 23] (n := 28) (fun _ => rfl) (by decide +kernel) (by decide +kernel) rfl (fun _ => rfl) (wr := [(a_0, .inr (11, [.ref a_1, .ref a_2, .ref a_3, .ref a_4, .ref a_5, .ref a_6, .ref a_7, .ref a_8, .ref a_9, .ref a_10, .ref a_11])), (a_6, .inl (cy 6, 4, .inr (.inr (.inr (.inr (va_up (va_up (va_up (va_up (fun _ => none) 0 (some a_33)) 1 (some a_34)) 2 (some a_35)) 3 (some a_36))))))), (a_33, .inr (6, [.int i_19, .int i_20, .int i_21, .ref a_37])), (a_37, .inl (cy 2, 60, .inr (.inl f_8))), (a_34, .inr (6, [.int i_22, .int i_23, .int i_24, .ref a_38])), (a_38, .inl (cy 2, 60, .inr (.inl f_9))), (a_35, .inr (6, [.int i_25, .int i_26, .int i_27, .ref a_39])), (a_39, .inl (cy 2, 60, .inr (.inl f_10))), (a_36, .inr (6, [.int i_28, .int i_29, .int i_30, .ref a_40])), (a_40, .inl (cy 2, 60, .inr (.inl f_11)))]) rfl (fun _ => rfl) (fun _ => rfl) ?_
      clear hP hD hS
      clear H locs
      intro v53 u
      obtain ⟨n51, n52⟩ := u
      intro H locs hw (hP : va_P G vwCl [(a_0, .inr (11, [.ref a_1, .ref a_2, .ref a_3, .ref a_4, .ref a_5, .ref a_6, .ref a_7, .ref a_8, .ref a_9, .ref a_10, .ref a_11])), (a_3, .inr (10, [.ref a_12, .ref a_13])), (a_12, .inr (0, [.int i_2, .int i_3, .int i_4, .int i_5, .int i_6, .int i_7, .int i_8, .int i_9, .ref a_14, .ref a_15, .ref a_16, .ref a_17, .ref a_18, .ref a_19, .ref a_20, .ref a_21, .ref a_22, .ref a_23])), (a_14, .inl (cy 1, 9, .inl f_0)), (a_15, .inl (cy 1, 9, .inl f_1)), (a_18, .inl (cy 1, 6, .inl f_2)), (a_19, .inl (cy 1, 48, .inl f_3)), (a_20, .inl (cy 1, 30, .inl f_4)), (a_13, .inl (cy 5, 3, .inr (.inr (.inr (.inr (va_up (va_up (va_up (fun _ => none) 0 (some a_24)) 1 (some a_25)) 2 (some a_26))))))), (a_24, .inr (1, [.ref a_27, .ref a_28, .int i_10, .int i_11, .int i_12])), (a_27, .inl (cy 1, 2100, .inl f_5)), (a_25, .inr (1, [.ref a_29, .ref a_30, .int i_13, .int i_14, .int i_15])), (a_29, .inl (cy 1, 2100, .inl f_6)), (a_26, .inr (1, [.ref a_31, .ref a_32, .int i_16, .int i_17, .int i_18])), (a_31, .inl (cy 1, 2100, .inl f_7)), (a_6, .inl (cy 6, 4, .inr (.inr (.inr (.inr (va_up (va_up (va_up (va_up (fun _ => none) 0 (some a_33)) 1 (some a_34)) 2 (some a_35)) 3 (some a_36))))))), (a_33, .inr (6, [.int i_19, .int i_20, .int i_21, .ref a_37])), (a_37, .inl (cy 2, 60, .inr (.inl f_8))), (a_34, .inr (6, [.int i_22, .int i_23, .int i_24, .ref a_38])), (a_38, .inl (cy 2, 60, .inr (.inl f_9))), (a_35, .inr (6, [.int i_25, .int i_26, .int i_27, .ref a_39])), (a_39, .inl (cy 2, 60, .inr (.inl f_10))), (a_36, .inr (6, [.int i_28, .int i_29, .int i_30, .ref a_40])), (a_40, .inl (cy 2, 60, .inr (.inl f_11))), (a_7, .inr (8, [.ref a_41, .int n51])), (a_41, .inl (cy 1, 210, .inl n52)), (a_8, .inr (3, [.ref a_3, .ref a_7, .ref a_42, .int n45])), (a_42, .inl (cy 1, 210, .inl n46))] H) (hD : va_D A [(a_0, .inr (11, [.ref a_1, .ref a_2, .ref a_3, .ref a_4, .ref a_5, .ref a_6, .ref a_7, .ref a_8, .ref a_9, .ref a_10, .ref a_11])), (a_3, .inr (10, [.ref a_12, .ref a_13])), (a_12, .inr (0, [.int i_2, .int i_3, .int i_4, .int i_5, .int i_6, .int i_7, .int i_8, .int i_9, .ref a_14, .ref a_15, .ref a_16, .ref a_17, .ref a_18, .ref a_19, .ref a_20, .ref a_21, .ref a_22, .ref a_23])), (a_14, .inl (cy 1, 9, .inl f_0)), (a_15, .inl (cy 1, 9, .inl f_1)), (a_18, .inl (cy 1, 6, .inl f_2)), (a_19, .inl (cy 1, 48, .inl f_3)), (a_20, .inl (cy 1, 30, .inl f_4)), (a_13, .inl (cy 5, 3, .inr (.inr (.inr (.inr (va_up (va_up (va_up (fun _ => none) 0 (some a_24)) 1 (some a_25)) 2 (some a_26))))))), (a_24, .inr (1, [.ref a_27, .ref a_28, .int i_10, .int i_11, .int i_12])), (a_27, .inl (cy 1, 2100, .inl f_5)), (a_25, .inr (1, [.ref a_29, .ref a_30, .int i_13, .int i_14, .int i_15])), (a_29, .inl (cy 1, 2100, .inl f_6)), (a_26, .inr (1, [.ref a_31, .ref a_32, .int i_16, .int i_17, .int i_18])), (a_31, .inl (cy 1, 2100, .inl f_7)), (a_6, .inl (cy 6, 4, .inr (.inr (.inr (.inr (va_up (va_up (va_up (va_up (fun _ => none) 0 (some a_33)) 1 (some a_34)) 2 (some a_35)) 3 (some a_36))))))), (a_33, .inr (6, [.int i_19, .int i_20, .int i_21, .ref a_37])), (a_37, .inl (cy 2, 60, .inr (.inl f_8))), (a_34, .inr (6, [.int i_22, .int i_23, .int i_24, .ref a_38])), (a_38, .inl (cy 2, 60, .inr (.inl f_9))), (a_35, .inr (6, [.int i_25, .int i_26, .int i_27, .ref a_39])), (a_39, .inl (cy 2, 60, .inr (.inl f_10))), (a_36, .inr (6, [.int i_28, .int i_29, .int i_30, .ref a_40])), (a_40, .inl (cy 2, 60, .inr (.inl f_11))), (a_7, .inr (8, [.ref a_41, .int n51])), (a_41, .inl (cy 1, 210, .inl n52)), (a_8, .inr (3, [.ref a_3, .ref a_7, .ref a_42, .int n45])), (a_42, .inl (cy 1, 210, .inl n46))]) hS
      obtain ⟨w54, hw⟩ := hw
      have w55 := hw
      refine lv_istore (lv' := [(5, .int v53), (4, .int v47), (3, .int 0), (0, .ref a_0), (1, .int 1), (2, .int i_1)]) hx hb dX11_leaves_38 hl (by decide) rfl ?_
      clear hl
      clear ls
      intro ls hl
      refine lv_iload hx hb dX11_leaves_40 (lv_at hl 0 rfl) ?_
      refine lv_iconst (v := (-1)) hx hb dX11_leaves_42 (by decide) ?_
      refine lv_icmp_ne (tgt := 51) hx hb dX11_leaves_43 (by decide) (fun c56 => ?_) (fun c56 => ?_)
      · have q57 := mm_neL (lo := 0) (mm_ne c56) w55 mm_km1 (by decide) (by decide)
        refine lv_aload_n hx hb dX11_leaves_51 rfl (lv_at hl 3 rfl) ?_
        refine va_get (D := G) (ci := 11) (v := .ref a_8) (C := RX11) (T := TX11) (N := 11) hx hb hts (mm_i inlX11) hown hK.1 hP 0 rfl rfl 7 (by decide) (mm_h hts mm_w42) (fun _ h9 => h9) rfl dX11_leaves_52 ?_
        refine lv_iload_n hx hb dX11_leaves_55 rfl (lv_at hl 5 rfl) ?_
        refine lv_iload hx hb dX11_leaves_56 (lv_at hl 0 rfl) ?_
        refine mm_fini (va_runV (As := [.int i_1, .int v53]) (rest := []) ⟨hx, hb, hml, hown, hts⟩ (K449_X3_leftAtWorst l G cy H.size a_8 i_1 v53 a_3 a_12 a_13 i_2 i_3 i_4 i_5 i_6 i_7 i_8 i_9 a_14 a_15 a_16 a_17 a_18 a_19 a_20 a_21 a_22 a_23 f_0 f_1 f_2 f_3 f_4 a_24 a_25 a_26 a_27 a_28 i_10 i_11 i_12 f_5 a_29 a_30 i_13 i_14 i_15 f_6 a_31 a_32 i_16 i_17 i_18 f_7 a_7 a_41 n51 n52 a_42 n45 n46 w10 q57 h0 h1 h4 h5 h6 h7 h8 h9 h10 h11 h12 h13 h14 w54 w48 w49) (cwV 2 hts (mm_gV mm_w1330 mm_w1302 mm_w1303 mm_w41 mm_w1304) rfl rfl rfl hd_X3_leftAtWorst ⟨by rw [hRf]; exact Nat.le_of_ble_eq_true rfl, by rw [hRl]; exact Nat.le_of_ble_eq_true rfl⟩) (mm_preV hK hZ hS hA hP hD [1, 2, 3, 4, 5, 6, 7, 8, 9, 10, 11, 12, 13, 14, 24, 25, 26, 27] rfl rfl 26 rfl rfl rfl) rfl rfl hl.1 rfl (lv_room (Nat.le_of_ble_eq_true rfl)) dX11_leaves_58 ⟨by rw [hRc]; exact Nat.le_of_ble_eq_true rfl, by rw [hRs]; exact Nat.le_of_ble_eq_true rfl⟩) hP hD hS hA (fun u : Int32 × (Nat → Int32) => [(a_0, .inr (11, [.ref a_1, .ref a_2, .ref a_3, .ref a_4, .ref a_5, .ref a_6, .ref a_7, .ref a_8, .ref a_9, .ref a_10, .ref a_11])), (a_3, .inr (10, [.ref a_12, .ref a_13])), (a_12, .inr (0, [.int i_2, .int i_3, .int i_4, .int i_5, .int i_6, .int i_7, .int i_8, .int i_9, .ref a_14, .ref a_15, .ref a_16, .ref a_17, .ref a_18, .ref a_19, .ref a_20, .ref a_21, .ref a_22, .ref a_23])), (a_14, .inl (cy 1, 9, .inl f_0)), (a_15, .inl (cy 1, 9, .inl f_1)), (a_18, .inl (cy 1, 6, .inl f_2)), (a_19, .inl (cy 1, 48, .inl f_3)), (a_20, .inl (cy 1, 30, .inl f_4)), (a_13, .inl (cy 5, 3, .inr (.inr (.inr (.inr (va_up (va_up (va_up (fun _ => none) 0 (some a_24)) 1 (some a_25)) 2 (some a_26))))))), (a_24, .inr (1, [.ref a_27, .ref a_28, .int i_10, .int i_11, .int i_12])), (a_27, .inl (cy 1, 2100, .inl f_5)), (a_25, .inr (1, [.ref a_29, .ref a_30, .int i_13, .int i_14, .int i_15])), (a_29, .inl (cy 1, 2100, .inl f_6)), (a_26, .inr (1, [.ref a_31, .ref a_32, .int i_16, .int i_17, .int i_18])), (a_31, .inl (cy 1, 2100, .inl f_7)), (a_6, .inl (cy 6, 4, .inr (.inr (.inr (.inr (va_up (va_up (va_up (va_up (fun _ => none) 0 (some a_33)) 1 (some a_34)) 2 (some a_35)) 3 (some a_36))))))), (a_33, .inr (6, [.int i_19, .int i_20, .int i_21, .ref a_37])), (a_37, .inl (cy 2, 60, .inr (.inl f_8))), (a_34, .inr (6, [.int i_22, .int i_23, .int i_24, .ref a_38])), (a_38, .inl (cy 2, 60, .inr (.inl f_9))), (a_35, .inr (6, [.int i_25, .int i_26, .int i_27, .ref a_39])), (a_39, .inl (cy 2, 60, .inr (.inl f_10))), (a_36, .inr (6, [.int i_28, .int i_29, .int i_30, .ref a_40])), (a_40, .inl (cy 2, 60, .inr (.inl f_11))), (a_7, .inr (8, [.ref a_41, .int u.1])), (a_41, .inl (cy 1, 210, .inl u.2)), (a_8, .inr (3, [.ref a_3, .ref a_7, .ref a_42, .int n45])), (a_42, .inl (cy 1, 210, .inl n46))]) [1, 2, 3, 4, 5, 6, 7, 8, 9, 10, 11, 12, 13, 14, 24, 25, 26, 27] [0, 15, 16, 17, 18, 19, 20, 21, 22, 23] (n := 28) (fun _ => rfl) (by decide +kernel) (by decide +kernel) rfl (fun _ => rfl) (wr := [(a_0, .inr (11, [.ref a_1, .ref a_2, .ref a_3, .ref a_4, .ref a_5, .ref a_6, .ref a_7, .ref a_8, .ref a_9, .ref a_10, .ref a_11])), (a_6, .inl (cy 6, 4, .inr (.inr (.inr (.inr (va_up (va_up (va_up (va_up (fun _ => none) 0 (some a_33)) 1 (some a_34)) 2 (some a_35)) 3 (some a_36))))))), (a_33, .inr (6, [.int i_19, .int i_20, .int i_21, .ref a_37])), (a_37, .inl (cy 2, 60, .inr (.inl f_8))), (a_34, .inr (6, [.int i_22, .int i_23, .int i_24, .ref a_38])), (a_38, .inl (cy 2, 60, .inr (.inl f_9))), (a_35, .inr (6, [.int i_25, .int i_26, .int i_27, .ref a_39])), (a_39, .inl (cy 2, 60, .inr (.inl f_10))), (a_36, .inr (6, [.int i_28, .int i_29, .int i_30, .ref a_40])), (a_40, .inl (cy 2, 60, .inr (.inl f_11)))]) rfl (fun _ => rfl) (fun _ => rfl) ?_
        clear hP hD hS
        clear H locs
        intro v60 u
        obtain ⟨n58, n59⟩ := u
        intro H locs hw (hP : va_P G vwCl [(a_0, .inr (11, [.ref a_1, .ref a_2, .ref a_3, .ref a_4, .ref a_5, .ref a_6, .ref a_7, .ref a_8, .ref a_9, .ref a_10, .ref a_11])), (a_3, .inr (10, [.ref a_12, .ref a_13])), (a_12, .inr (0, [.int i_2, .int i_3, .int i_4, .int i_5, .int i_6, .int i_7, .int i_8, .int i_9, .ref a_14, .ref a_15, .ref a_16, .ref a_17, .ref a_18, .ref a_19, .ref a_20, .ref a_21, .ref a_22, .ref a_23])), (a_14, .inl (cy 1, 9, .inl f_0)), (a_15, .inl (cy 1, 9, .inl f_1)), (a_18, .inl (cy 1, 6, .inl f_2)), (a_19, .inl (cy 1, 48, .inl f_3)), (a_20, .inl (cy 1, 30, .inl f_4)), (a_13, .inl (cy 5, 3, .inr (.inr (.inr (.inr (va_up (va_up (va_up (fun _ => none) 0 (some a_24)) 1 (some a_25)) 2 (some a_26))))))), (a_24, .inr (1, [.ref a_27, .ref a_28, .int i_10, .int i_11, .int i_12])), (a_27, .inl (cy 1, 2100, .inl f_5)), (a_25, .inr (1, [.ref a_29, .ref a_30, .int i_13, .int i_14, .int i_15])), (a_29, .inl (cy 1, 2100, .inl f_6)), (a_26, .inr (1, [.ref a_31, .ref a_32, .int i_16, .int i_17, .int i_18])), (a_31, .inl (cy 1, 2100, .inl f_7)), (a_6, .inl (cy 6, 4, .inr (.inr (.inr (.inr (va_up (va_up (va_up (va_up (fun _ => none) 0 (some a_33)) 1 (some a_34)) 2 (some a_35)) 3 (some a_36))))))), (a_33, .inr (6, [.int i_19, .int i_20, .int i_21, .ref a_37])), (a_37, .inl (cy 2, 60, .inr (.inl f_8))), (a_34, .inr (6, [.int i_22, .int i_23, .int i_24, .ref a_38])), (a_38, .inl (cy 2, 60, .inr (.inl f_9))), (a_35, .inr (6, [.int i_25, .int i_26, .int i_27, .ref a_39])), (a_39, .inl (cy 2, 60, .inr (.inl f_10))), (a_36, .inr (6, [.int i_28, .int i_29, .int i_30, .ref a_40])), (a_40, .inl (cy 2, 60, .inr (.inl f_11))), (a_7, .inr (8, [.ref a_41, .int n58])), (a_41, .inl (cy 1, 210, .inl n59)), (a_8, .inr (3, [.ref a_3, .ref a_7, .ref a_42, .int n45])), (a_42, .inl (cy 1, 210, .inl n46))] H) (hD : va_D A [(a_0, .inr (11, [.ref a_1, .ref a_2, .ref a_3, .ref a_4, .ref a_5, .ref a_6, .ref a_7, .ref a_8, .ref a_9, .ref a_10, .ref a_11])), (a_3, .inr (10, [.ref a_12, .ref a_13])), (a_12, .inr (0, [.int i_2, .int i_3, .int i_4, .int i_5, .int i_6, .int i_7, .int i_8, .int i_9, .ref a_14, .ref a_15, .ref a_16, .ref a_17, .ref a_18, .ref a_19, .ref a_20, .ref a_21, .ref a_22, .ref a_23])), (a_14, .inl (cy 1, 9, .inl f_0)), (a_15, .inl (cy 1, 9, .inl f_1)), (a_18, .inl (cy 1, 6, .inl f_2)), (a_19, .inl (cy 1, 48, .inl f_3)), (a_20, .inl (cy 1, 30, .inl f_4)), (a_13, .inl (cy 5, 3, .inr (.inr (.inr (.inr (va_up (va_up (va_up (fun _ => none) 0 (some a_24)) 1 (some a_25)) 2 (some a_26))))))), (a_24, .inr (1, [.ref a_27, .ref a_28, .int i_10, .int i_11, .int i_12])), (a_27, .inl (cy 1, 2100, .inl f_5)), (a_25, .inr (1, [.ref a_29, .ref a_30, .int i_13, .int i_14, .int i_15])), (a_29, .inl (cy 1, 2100, .inl f_6)), (a_26, .inr (1, [.ref a_31, .ref a_32, .int i_16, .int i_17, .int i_18])), (a_31, .inl (cy 1, 2100, .inl f_7)), (a_6, .inl (cy 6, 4, .inr (.inr (.inr (.inr (va_up (va_up (va_up (va_up (fun _ => none) 0 (some a_33)) 1 (some a_34)) 2 (some a_35)) 3 (some a_36))))))), (a_33, .inr (6, [.int i_19, .int i_20, .int i_21, .ref a_37])), (a_37, .inl (cy 2, 60, .inr (.inl f_8))), (a_34, .inr (6, [.int i_22, .int i_23, .int i_24, .ref a_38])), (a_38, .inl (cy 2, 60, .inr (.inl f_9))), (a_35, .inr (6, [.int i_25, .int i_26, .int i_27, .ref a_39])), (a_39, .inl (cy 2, 60, .inr (.inl f_10))), (a_36, .inr (6, [.int i_28, .int i_29, .int i_30, .ref a_40])), (a_40, .inl (cy 2, 60, .inr (.inl f_11))), (a_7, .inr (8, [.ref a_41, .int n58])), (a_41, .inl (cy 1, 210, .inl n59)), (a_8, .inr (3, [.ref a_3, .ref a_7, .ref a_42, .int n45])), (a_42, .inl (cy 1, 210, .inl n46))]) hS
        obtain ⟨w61, hw⟩ := hw
        have w62 := hw
        subst hAe
        rw [hQ]
        exact W.iret (v := v60) hx hb hr (fun t ht hW => ⟨⟨v60, (n58, n59, n45, n46), rfl, ⟨w61, w48, w49, (mm_wk w62 (by decide))⟩, by rw [ht]; exact hP, hK.warm hW, hD⟩, hS.F ht⟩) hS.2.2 dX11_leaves_61
      · have q63 := mm_eqI (lo := (-1)) (hi := (-1)) c56 w55 mm_km1 (by decide)
        refine lv_iload hx hb dX11_leaves_46 (lv_at hl 1 rfl) ?_
        refine lv_goto (tgt := 61) hx hb dX11_leaves_48 (by decide) ?_
        subst hAe
        rw [hQ]
        exact W.iret (v := v47) hx hb hr (fun t ht hW => ⟨⟨v47, (n51, n52, n45, n46), rfl, ⟨w54, w48, w49, (mm_wk w50 (by decide))⟩, by rw [ht]; exact hP, hK.warm hW, hD⟩, hS.F ht⟩) hS.2.2 dX11_leaves_61
    · have q64 := mm_neL (lo := 1) (mm_ne c44) mm_k0 mm_k0 (by decide) (by decide)
      exact mm_no q64 (by decide)
  · refine lv_istore_n (lv' := [(3, .int 0), (0, .ref a_0), (1, .int i_0), (2, .int i_1)]) hx hb dX11_leaves_7 rfl hl (by decide) rfl ?_
    clear hl
    clear ls
    intro ls hl
    refine lv_iload_n hx hb dX11_leaves_8 rfl (lv_at hl 0 rfl) ?_
    refine lv_if_eq (tgt := 14) hx hb dX11_leaves_9 (by decide) (fun c65 => ?_) (fun c65 => ?_)
    · refine lv_aload_n hx hb dX11_leaves_14 rfl (lv_at hl 1 rfl) ?_
      refine va_get (D := G) (ci := 11) (v := .ref a_8) (C := RX11) (T := TX11) (N := 11) hx hb hts (mm_i inlX11) hown hK.1 hP 0 rfl rfl 7 (by decide) (mm_h hts mm_w42) (fun _ h9 => h9) rfl dX11_leaves_15 ?_
      refine lv_aload_n hx hb dX11_leaves_18 rfl (lv_at hl 1 rfl) ?_
      refine va_get (D := G) (ci := 11) (v := .ref a_6) (C := RX11) (T := TX11) (N := 11) hx hb hts (mm_i inlX11) hown hK.1 hP 0 rfl rfl 5 (by decide) (mm_h hts mm_w32) (fun _ h9 => h9) rfl dX11_leaves_19 ?_
      refine lv_iload_n hx hb dX11_leaves_22 rfl (lv_at hl 2 rfl) ?_
      obtain rfl : i_0 = 2 := mm_is w13 2 (by decide)
      refine va_aldq hx hb hK.1 hP 15 6 rfl rfl (mm_in mm_k2 (by decide)) dX11_leaves_23 ?_
      refine W.eq (g2 := F0 m 24 ls [.ref a_35, .ref a_8]) rfl ?_
      refine lv_iload_n hx hb dX11_leaves_24 rfl (lv_at hl 3 rfl) ?_
      refine mm_fini (va_runV (As := [.ref a_35, .int i_1]) (rest := []) ⟨hx, hb, hml, hown, hts⟩ (K443_X3_gather l G cy H.size a_8 a_35 i_1 a_3 a_12 a_13 i_2 i_3 i_4 i_5 i_6 i_7 i_8 i_9 a_14 a_15 a_16 a_17 a_18 a_19 a_20 a_21 a_22 a_23 f_0 f_1 f_2 f_3 f_4 a_24 a_25 a_26 a_27 a_28 i_10 i_11 i_12 f_5 a_29 a_30 i_13 i_14 i_15 f_6 a_31 a_32 i_16 i_17 i_18 f_7 i_25 i_26 i_27 a_39 f_10 a_7 a_42 i_32 f_13 w14 h0 h1 h3 h4 h5 h6 h7 h8 h9 h10 h11 h12 h13 h14 h20 h24 h25 w16) (cwV 2 hts (mm_gV mm_w1249 mm_w1250 mm_w1251 mm_w41 mm_w1252) rfl rfl rfl hd_X3_gather ⟨by rw [hRf]; exact Nat.le_of_ble_eq_true rfl, by rw [hRl]; exact Nat.le_of_ble_eq_true rfl⟩) (mm_preV hK hZ hS hA hP hD [1, 2, 3, 4, 5, 6, 7, 8, 9, 10, 11, 12, 13, 14, 20, 21, 26, 27] rfl rfl 26 rfl rfl rfl) rfl rfl hl.1 rfl (lv_room (Nat.le_of_ble_eq_true rfl)) dX11_leaves_25 ⟨by rw [hRc]; exact Nat.le_of_ble_eq_true rfl, by rw [hRs]; exact Nat.le_of_ble_eq_true rfl⟩) hP hD hS hA (fun u : Int32 × (Nat → Int32) => [(a_0, .inr (11, [.ref a_1, .ref a_2, .ref a_3, .ref a_4, .ref a_5, .ref a_6, .ref a_7, .ref a_8, .ref a_9, .ref a_10, .ref a_11])), (a_3, .inr (10, [.ref a_12, .ref a_13])), (a_12, .inr (0, [.int i_2, .int i_3, .int i_4, .int i_5, .int i_6, .int i_7, .int i_8, .int i_9, .ref a_14, .ref a_15, .ref a_16, .ref a_17, .ref a_18, .ref a_19, .ref a_20, .ref a_21, .ref a_22, .ref a_23])), (a_14, .inl (cy 1, 9, .inl f_0)), (a_15, .inl (cy 1, 9, .inl f_1)), (a_18, .inl (cy 1, 6, .inl f_2)), (a_19, .inl (cy 1, 48, .inl f_3)), (a_20, .inl (cy 1, 30, .inl f_4)), (a_13, .inl (cy 5, 3, .inr (.inr (.inr (.inr (va_up (va_up (va_up (fun _ => none) 0 (some a_24)) 1 (some a_25)) 2 (some a_26))))))), (a_24, .inr (1, [.ref a_27, .ref a_28, .int i_10, .int i_11, .int i_12])), (a_27, .inl (cy 1, 2100, .inl f_5)), (a_25, .inr (1, [.ref a_29, .ref a_30, .int i_13, .int i_14, .int i_15])), (a_29, .inl (cy 1, 2100, .inl f_6)), (a_26, .inr (1, [.ref a_31, .ref a_32, .int i_16, .int i_17, .int i_18])), (a_31, .inl (cy 1, 2100, .inl f_7)), (a_6, .inl (cy 6, 4, .inr (.inr (.inr (.inr (va_up (va_up (va_up (va_up (fun _ => none) 0 (some a_33)) 1 (some a_34)) 2 (some a_35)) 3 (some a_36))))))), (a_33, .inr (6, [.int i_19, .int i_20, .int i_21, .ref a_37])), (a_37, .inl (cy 2, 60, .inr (.inl f_8))), (a_34, .inr (6, [.int i_22, .int i_23, .int i_24, .ref a_38])), (a_38, .inl (cy 2, 60, .inr (.inl f_9))), (a_35, .inr (6, [.int i_25, .int i_26, .int i_27, .ref a_39])), (a_39, .inl (cy 2, 60, .inr (.inl f_10))), (a_36, .inr (6, [.int i_28, .int i_29, .int i_30, .ref a_40])), (a_40, .inl (cy 2, 60, .inr (.inl f_11))), (a_7, .inr (8, [.ref a_41, .int i_31])), (a_41, .inl (cy 1, 210, .inl f_12)), (a_8, .inr (3, [.ref a_3, .ref a_7, .ref a_42, .int u.1])), (a_42, .inl (cy 1, 210, .inl u.2))]) [1, 2, 3, 4, 5, 6, 7, 8, 9, 10, 11, 12, 13, 14, 20, 21, 26, 27] [0, 15, 16, 17, 18, 19, 22, 23, 24, 25] (n := 28) (fun _ => rfl) (by decide +kernel) (by decide +kernel) rfl (fun _ => rfl) (wr := [(a_0, .inr (11, [.ref a_1, .ref a_2, .ref a_3, .ref a_4, .ref a_5, .ref a_6, .ref a_7, .ref a_8, .ref a_9, .ref a_10, .ref a_11])), (a_6, .inl (cy 6, 4, .inr (.inr (.inr (.inr (va_up (va_up (va_up (va_up (fun _ => none) 0 (some a_33)) 1 (some a_34)) 2 (some a_35)) 3 (some a_36))))))), (a_33, .inr (6, [.int i_19, .int i_20, .int i_21, .ref a_37])), (a_37, .inl (cy 2, 60, .inr (.inl f_8))), (a_34, .inr (6, [.int i_22, .int i_23, .int i_24, .ref a_38])), (a_38, .inl (cy 2, 60, .inr (.inl f_9))), (a_36, .inr (6, [.int i_28, .int i_29, .int i_30, .ref a_40])), (a_40, .inl (cy 2, 60, .inr (.inl f_11))), (a_7, .inr (8, [.ref a_41, .int i_31])), (a_41, .inl (cy 1, 210, .inl f_12))]) rfl (fun _ => rfl) (fun _ => rfl) ?_
      clear hP hD hS
      clear H locs
      intro v68 u
      obtain ⟨n66, n67⟩ := u
      intro H locs hw (hP : va_P G vwCl [(a_0, .inr (11, [.ref a_1, .ref a_2, .ref a_3, .ref a_4, .ref a_5, .ref a_6, .ref a_7, .ref a_8, .ref a_9, .ref a_10, .ref a_11])), (a_3, .inr (10, [.ref a_12, .ref a_13])), (a_12, .inr (0, [.int i_2, .int i_3, .int i_4, .int i_5, .int i_6, .int i_7, .int i_8, .int i_9, .ref a_14, .ref a_15, .ref a_16, .ref a_17, .ref a_18, .ref a_19, .ref a_20, .ref a_21, .ref a_22, .ref a_23])), (a_14, .inl (cy 1, 9, .inl f_0)), (a_15, .inl (cy 1, 9, .inl f_1)), (a_18, .inl (cy 1, 6, .inl f_2)), (a_19, .inl (cy 1, 48, .inl f_3)), (a_20, .inl (cy 1, 30, .inl f_4)), (a_13, .inl (cy 5, 3, .inr (.inr (.inr (.inr (va_up (va_up (va_up (fun _ => none) 0 (some a_24)) 1 (some a_25)) 2 (some a_26))))))), (a_24, .inr (1, [.ref a_27, .ref a_28, .int i_10, .int i_11, .int i_12])), (a_27, .inl (cy 1, 2100, .inl f_5)), (a_25, .inr (1, [.ref a_29, .ref a_30, .int i_13, .int i_14, .int i_15])), (a_29, .inl (cy 1, 2100, .inl f_6)), (a_26, .inr (1, [.ref a_31, .ref a_32, .int i_16, .int i_17, .int i_18])), (a_31, .inl (cy 1, 2100, .inl f_7)), (a_6, .inl (cy 6, 4, .inr (.inr (.inr (.inr (va_up (va_up (va_up (va_up (fun _ => none) 0 (some a_33)) 1 (some a_34)) 2 (some a_35)) 3 (some a_36))))))), (a_33, .inr (6, [.int i_19, .int i_20, .int i_21, .ref a_37])), (a_37, .inl (cy 2, 60, .inr (.inl f_8))), (a_34, .inr (6, [.int i_22, .int i_23, .int i_24, .ref a_38])), (a_38, .inl (cy 2, 60, .inr (.inl f_9))), (a_35, .inr (6, [.int i_25, .int i_26, .int i_27, .ref a_39])), (a_39, .inl (cy 2, 60, .inr (.inl f_10))), (a_36, .inr (6, [.int i_28, .int i_29, .int i_30, .ref a_40])), (a_40, .inl (cy 2, 60, .inr (.inl f_11))), (a_7, .inr (8, [.ref a_41, .int i_31])), (a_41, .inl (cy 1, 210, .inl f_12)), (a_8, .inr (3, [.ref a_3, .ref a_7, .ref a_42, .int n66])), (a_42, .inl (cy 1, 210, .inl n67))] H) (hD : va_D A [(a_0, .inr (11, [.ref a_1, .ref a_2, .ref a_3, .ref a_4, .ref a_5, .ref a_6, .ref a_7, .ref a_8, .ref a_9, .ref a_10, .ref a_11])), (a_3, .inr (10, [.ref a_12, .ref a_13])), (a_12, .inr (0, [.int i_2, .int i_3, .int i_4, .int i_5, .int i_6, .int i_7, .int i_8, .int i_9, .ref a_14, .ref a_15, .ref a_16, .ref a_17, .ref a_18, .ref a_19, .ref a_20, .ref a_21, .ref a_22, .ref a_23])), (a_14, .inl (cy 1, 9, .inl f_0)), (a_15, .inl (cy 1, 9, .inl f_1)), (a_18, .inl (cy 1, 6, .inl f_2)), (a_19, .inl (cy 1, 48, .inl f_3)), (a_20, .inl (cy 1, 30, .inl f_4)), (a_13, .inl (cy 5, 3, .inr (.inr (.inr (.inr (va_up (va_up (va_up (fun _ => none) 0 (some a_24)) 1 (some a_25)) 2 (some a_26))))))), (a_24, .inr (1, [.ref a_27, .ref a_28, .int i_10, .int i_11, .int i_12])), (a_27, .inl (cy 1, 2100, .inl f_5)), (a_25, .inr (1, [.ref a_29, .ref a_30, .int i_13, .int i_14, .int i_15])), (a_29, .inl (cy 1, 2100, .inl f_6)), (a_26, .inr (1, [.ref a_31, .ref a_32, .int i_16, .int i_17, .int i_18])), (a_31, .inl (cy 1, 2100, .inl f_7)), (a_6, .inl (cy 6, 4, .inr (.inr (.inr (.inr (va_up (va_up (va_up (va_up (fun _ => none) 0 (some a_33)) 1 (some a_34)) 2 (some a_35)) 3 (some a_36))))))), (a_33, .inr (6, [.int i_19, .int i_20, .int i_21, .ref a_37])), (a_37, .inl (cy 2, 60, .inr (.inl f_8))), (a_34, .inr (6, [.int i_22, .int i_23, .int i_24, .ref a_38])), (a_38, .inl (cy 2, 60, .inr (.inl f_9))), (a_35, .inr (6, [.int i_25, .int i_26, .int i_27, .ref a_39])), (a_39, .inl (cy 2, 60, .inr (.inl f_10))), (a_36, .inr (6, [.int i_28, .int i_29, .int i_30, .ref a_40])), (a_40, .inl (cy 2, 60, .inr (.inl f_11))), (a_7, .inr (8, [.ref a_41, .int i_31])), (a_41, .inl (cy 1, 210, .inl f_12)), (a_8, .inr (3, [.ref a_3, .ref a_7, .ref a_42, .int n66])), (a_42, .inl (cy 1, 210, .inl n67))]) hS
      obtain ⟨w69, w70, hw⟩ := hw
      have w71 := hw
      refine lv_istore (lv' := [(4, .int v68), (3, .int 0), (0, .ref a_0), (1, .int 2), (2, .int i_1)]) hx hb dX11_leaves_28 hl (by decide) rfl ?_
      clear hl
      clear ls
      intro ls hl
      refine lv_aload_n hx hb dX11_leaves_30 rfl (lv_at hl 2 rfl) ?_
      refine va_get (D := G) (ci := 11) (v := .ref a_8) (C := RX11) (T := TX11) (N := 11) hx hb hts (mm_i inlX11) hown hK.1 hP 0 rfl rfl 7 (by decide) (mm_h hts mm_w42) (fun _ h9 => h9) rfl dX11_leaves_31 ?_
      refine lv_iload_n hx hb dX11_leaves_34 rfl (lv_at hl 4 rfl) ?_
      refine mm_fini (va_runV (As := [.int i_1]) (rest := []) ⟨hx, hb, hml, hown, hts⟩ (K450_X3_question l G cy H.size a_8 i_1 a_3 a_12 a_13 i_2 i_3 i_4 i_5 i_6 i_7 i_8 i_9 a_14 a_15 a_16 a_17 a_18 a_19 a_20 a_21 a_22 a_23 f_0 f_1 f_2 f_3 f_4 a_24 a_25 a_26 a_27 a_28 i_10 i_11 i_12 f_5 a_29 a_30 i_13 i_14 i_15 f_6 a_31 a_32 i_16 i_17 i_18 f_7 a_7 a_41 i_31 f_12 a_42 n66 n67 w14 h0 h1 h3 h4 h5 h6 h7 h8 h9 h10 h11 h12 h13 h14 h23 w69 w70) (cwV 1 hts (mm_gV mm_w1297 mm_w1298 mm_w1299 mm_w41 mm_w1300) rfl rfl rfl hd_X3_question ⟨by rw [hRf]; exact Nat.le_of_ble_eq_true rfl, by rw [hRl]; exact Nat.le_of_ble_eq_true rfl⟩) (mm_preV hK hZ hS hA hP hD [1, 2, 3, 4, 5, 6, 7, 8, 9, 10, 11, 12, 13, 14, 24, 25, 26, 27] rfl rfl 26 rfl rfl rfl) rfl rfl hl.1 rfl (lv_room (Nat.le_of_ble_eq_true rfl)) dX11_leaves_35 ⟨by rw [hRc]; exact Nat.le_of_ble_eq_true rfl, by rw [hRs]; exact Nat.le_of_ble_eq_true rfl⟩) hP hD hS hA (fun u : Int32 × (Nat → Int32) => [(a_0, .inr (11, [.ref a_1, .ref a_2, .ref a_3, .ref a_4, .ref a_5, .ref a_6, .ref a_7, .ref a_8, .ref a_9, .ref a_10, .ref a_11])), (a_3, .inr (10, [.ref a_12, .ref a_13])), (a_12, .inr (0, [.int i_2, .int i_3, .int i_4, .int i_5, .int i_6, .int i_7, .int i_8, .int i_9, .ref a_14, .ref a_15, .ref a_16, .ref a_17, .ref a_18, .ref a_19, .ref a_20, .ref a_21, .ref a_22, .ref a_23])), (a_14, .inl (cy 1, 9, .inl f_0)), (a_15, .inl (cy 1, 9, .inl f_1)), (a_18, .inl (cy 1, 6, .inl f_2)), (a_19, .inl (cy 1, 48, .inl f_3)), (a_20, .inl (cy 1, 30, .inl f_4)), (a_13, .inl (cy 5, 3, .inr (.inr (.inr (.inr (va_up (va_up (va_up (fun _ => none) 0 (some a_24)) 1 (some a_25)) 2 (some a_26))))))), (a_24, .inr (1, [.ref a_27, .ref a_28, .int i_10, .int i_11, .int i_12])), (a_27, .inl (cy 1, 2100, .inl f_5)), (a_25, .inr (1, [.ref a_29, .ref a_30, .int i_13, .int i_14, .int i_15])), (a_29, .inl (cy 1, 2100, .inl f_6)), (a_26, .inr (1, [.ref a_31, .ref a_32, .int i_16, .int i_17, .int i_18])), (a_31, .inl (cy 1, 2100, .inl f_7)), (a_6, .inl (cy 6, 4, .inr (.inr (.inr (.inr (va_up (va_up (va_up (va_up (fun _ => none) 0 (some a_33)) 1 (some a_34)) 2 (some a_35)) 3 (some a_36))))))), (a_33, .inr (6, [.int i_19, .int i_20, .int i_21, .ref a_37])), (a_37, .inl (cy 2, 60, .inr (.inl f_8))), (a_34, .inr (6, [.int i_22, .int i_23, .int i_24, .ref a_38])), (a_38, .inl (cy 2, 60, .inr (.inl f_9))), (a_35, .inr (6, [.int i_25, .int i_26, .int i_27, .ref a_39])), (a_39, .inl (cy 2, 60, .inr (.inl f_10))), (a_36, .inr (6, [.int i_28, .int i_29, .int i_30, .ref a_40])), (a_40, .inl (cy 2, 60, .inr (.inl f_11))), (a_7, .inr (8, [.ref a_41, .int u.1])), (a_41, .inl (cy 1, 210, .inl u.2)), (a_8, .inr (3, [.ref a_3, .ref a_7, .ref a_42, .int n66])), (a_42, .inl (cy 1, 210, .inl n67))]) [1, 2, 3, 4, 5, 6, 7, 8, 9, 10, 11, 12, 13, 14, 24, 25, 26, 27] [0, 15, 16, 17, 18, 19, 20, 21, 22, 23] (n := 28) (fun _ => rfl) (by decide +kernel) (by decide +kernel) rfl (fun _ => rfl) (wr := [(a_0, .inr (11, [.ref a_1, .ref a_2, .ref a_3, .ref a_4, .ref a_5, .ref a_6, .ref a_7, .ref a_8, .ref a_9, .ref a_10, .ref a_11])), (a_6, .inl (cy 6, 4, .inr (.inr (.inr (.inr (va_up (va_up (va_up (va_up (fun _ => none) 0 (some a_33)) 1 (some a_34)) 2 (some a_35)) 3 (some a_36))))))), (a_33, .inr (6, [.int i_19, .int i_20, .int i_21, .ref a_37])), (a_37, .inl (cy 2, 60, .inr (.inl f_8))), (a_34, .inr (6, [.int i_22, .int i_23, .int i_24, .ref a_38])), (a_38, .inl (cy 2, 60, .inr (.inl f_9))), (a_35, .inr (6, [.int i_25, .int i_26, .int i_27, .ref a_39])), (a_39, .inl (cy 2, 60, .inr (.inl f_10))), (a_36, .inr (6, [.int i_28, .int i_29, .int i_30, .ref a_40])), (a_40, .inl (cy 2, 60, .inr (.inl f_11)))]) rfl (fun _ => rfl) (fun _ => rfl) ?_
      clear hP hD hS
      clear H locs
      intro v74 u
      obtain ⟨n72, n73⟩ := u
      intro H locs hw (hP : va_P G vwCl [(a_0, .inr (11, [.ref a_1, .ref a_2, .ref a_3, .ref a_4, .ref a_5, .ref a_6, .ref a_7, .ref a_8, .ref a_9, .ref a_10, .ref a_11])), (a_3, .inr (10, [.ref a_12, .ref a_13])), (a_12, .inr (0, [.int i_2, .int i_3, .int i_4, .int i_5, .int i_6, .int i_7, .int i_8, .int i_9, .ref a_14, .ref a_15, .ref a_16, .ref a_17, .ref a_18, .ref a_19, .ref a_20, .ref a_21, .ref a_22, .ref a_23])), (a_14, .inl (cy 1, 9, .inl f_0)), (a_15, .inl (cy 1, 9, .inl f_1)), (a_18, .inl (cy 1, 6, .inl f_2)), (a_19, .inl (cy 1, 48, .inl f_3)), (a_20, .inl (cy 1, 30, .inl f_4)), (a_13, .inl (cy 5, 3, .inr (.inr (.inr (.inr (va_up (va_up (va_up (fun _ => none) 0 (some a_24)) 1 (some a_25)) 2 (some a_26))))))), (a_24, .inr (1, [.ref a_27, .ref a_28, .int i_10, .int i_11, .int i_12])), (a_27, .inl (cy 1, 2100, .inl f_5)), (a_25, .inr (1, [.ref a_29, .ref a_30, .int i_13, .int i_14, .int i_15])), (a_29, .inl (cy 1, 2100, .inl f_6)), (a_26, .inr (1, [.ref a_31, .ref a_32, .int i_16, .int i_17, .int i_18])), (a_31, .inl (cy 1, 2100, .inl f_7)), (a_6, .inl (cy 6, 4, .inr (.inr (.inr (.inr (va_up (va_up (va_up (va_up (fun _ => none) 0 (some a_33)) 1 (some a_34)) 2 (some a_35)) 3 (some a_36))))))), (a_33, .inr (6, [.int i_19, .int i_20, .int i_21, .ref a_37])), (a_37, .inl (cy 2, 60, .inr (.inl f_8))), (a_34, .inr (6, [.int i_22, .int i_23, .int i_24, .ref a_38])), (a_38, .inl (cy 2, 60, .inr (.inl f_9))), (a_35, .inr (6, [.int i_25, .int i_26, .int i_27, .ref a_39])), (a_39, .inl (cy 2, 60, .inr (.inl f_10))), (a_36, .inr (6, [.int i_28, .int i_29, .int i_30, .ref a_40])), (a_40, .inl (cy 2, 60, .inr (.inl f_11))), (a_7, .inr (8, [.ref a_41, .int n72])), (a_41, .inl (cy 1, 210, .inl n73)), (a_8, .inr (3, [.ref a_3, .ref a_7, .ref a_42, .int n66])), (a_42, .inl (cy 1, 210, .inl n67))] H) (hD : va_D A [(a_0, .inr (11, [.ref a_1, .ref a_2, .ref a_3, .ref a_4, .ref a_5, .ref a_6, .ref a_7, .ref a_8, .ref a_9, .ref a_10, .ref a_11])), (a_3, .inr (10, [.ref a_12, .ref a_13])), (a_12, .inr (0, [.int i_2, .int i_3, .int i_4, .int i_5, .int i_6, .int i_7, .int i_8, .int i_9, .ref a_14, .ref a_15, .ref a_16, .ref a_17, .ref a_18, .ref a_19, .ref a_20, .ref a_21, .ref a_22, .ref a_23])), (a_14, .inl (cy 1, 9, .inl f_0)), (a_15, .inl (cy 1, 9, .inl f_1)), (a_18, .inl (cy 1, 6, .inl f_2)), (a_19, .inl (cy 1, 48, .inl f_3)), (a_20, .inl (cy 1, 30, .inl f_4)), (a_13, .inl (cy 5, 3, .inr (.inr (.inr (.inr (va_up (va_up (va_up (fun _ => none) 0 (some a_24)) 1 (some a_25)) 2 (some a_26))))))), (a_24, .inr (1, [.ref a_27, .ref a_28, .int i_10, .int i_11, .int i_12])), (a_27, .inl (cy 1, 2100, .inl f_5)), (a_25, .inr (1, [.ref a_29, .ref a_30, .int i_13, .int i_14, .int i_15])), (a_29, .inl (cy 1, 2100, .inl f_6)), (a_26, .inr (1, [.ref a_31, .ref a_32, .int i_16, .int i_17, .int i_18])), (a_31, .inl (cy 1, 2100, .inl f_7)), (a_6, .inl (cy 6, 4, .inr (.inr (.inr (.inr (va_up (va_up (va_up (va_up (fun _ => none) 0 (some a_33)) 1 (some a_34)) 2 (some a_35)) 3 (some a_36))))))), (a_33, .inr (6, [.int i_19, .int i_20, .int i_21, .ref a_37])), (a_37, .inl (cy 2, 60, .inr (.inl f_8))), (a_34, .inr (6, [.int i_22, .int i_23, .int i_24, .ref a_38])), (a_38, .inl (cy 2, 60, .inr (.inl f_9))), (a_35, .inr (6, [.int i_25, .int i_26, .int i_27, .ref a_39])), (a_39, .inl (cy 2, 60, .inr (.inl f_10))), (a_36, .inr (6, [.int i_28, .int i_29, .int i_30, .ref a_40])), (a_40, .inl (cy 2, 60, .inr (.inl f_11))), (a_7, .inr (8, [.ref a_41, .int n72])), (a_41, .inl (cy 1, 210, .inl n73)), (a_8, .inr (3, [.ref a_3, .ref a_7, .ref a_42, .int n66])), (a_42, .inl (cy 1, 210, .inl n67))]) hS
      obtain ⟨w75, hw⟩ := hw
      have w76 := hw
      refine lv_istore (lv' := [(5, .int v74), (4, .int v68), (3, .int 0), (0, .ref a_0), (1, .int 2), (2, .int i_1)]) hx hb dX11_leaves_38 hl (by decide) rfl ?_
      clear hl
      clear ls
      intro ls hl
      refine lv_iload hx hb dX11_leaves_40 (lv_at hl 0 rfl) ?_
      refine lv_iconst (v := (-1)) hx hb dX11_leaves_42 (by decide) ?_
      refine lv_icmp_ne (tgt := 51) hx hb dX11_leaves_43 (by decide) (fun c77 => ?_) (fun c77 => ?_)
      · have q78 := mm_neL (lo := 0) (mm_ne c77) w76 mm_km1 (by decide) (by decide)
        refine lv_aload_n hx hb dX11_leaves_51 rfl (lv_at hl 3 rfl) ?_
        refine va_get (D := G) (ci := 11) (v := .ref a_8) (C := RX11) (T := TX11) (N := 11) hx hb hts (mm_i inlX11) hown hK.1 hP 0 rfl rfl 7 (by decide) (mm_h hts mm_w42) (fun _ h9 => h9) rfl dX11_leaves_52 ?_
        refine lv_iload_n hx hb dX11_leaves_55 rfl (lv_at hl 5 rfl) ?_
        refine lv_iload hx hb dX11_leaves_56 (lv_at hl 0 rfl) ?_
        refine mm_fini (va_runV (As := [.int i_1, .int v74]) (rest := []) ⟨hx, hb, hml, hown, hts⟩ (K449_X3_leftAtWorst l G cy H.size a_8 i_1 v74 a_3 a_12 a_13 i_2 i_3 i_4 i_5 i_6 i_7 i_8 i_9 a_14 a_15 a_16 a_17 a_18 a_19 a_20 a_21 a_22 a_23 f_0 f_1 f_2 f_3 f_4 a_24 a_25 a_26 a_27 a_28 i_10 i_11 i_12 f_5 a_29 a_30 i_13 i_14 i_15 f_6 a_31 a_32 i_16 i_17 i_18 f_7 a_7 a_41 n72 n73 a_42 n66 n67 w14 q78 h0 h1 h4 h5 h6 h7 h8 h9 h10 h11 h12 h13 h14 w75 w69 w70) (cwV 2 hts (mm_gV mm_w1330 mm_w1302 mm_w1303 mm_w41 mm_w1304) rfl rfl rfl hd_X3_leftAtWorst ⟨by rw [hRf]; exact Nat.le_of_ble_eq_true rfl, by rw [hRl]; exact Nat.le_of_ble_eq_true rfl⟩) (mm_preV hK hZ hS hA hP hD [1, 2, 3, 4, 5, 6, 7, 8, 9, 10, 11, 12, 13, 14, 24, 25, 26, 27] rfl rfl 26 rfl rfl rfl) rfl rfl hl.1 rfl (lv_room (Nat.le_of_ble_eq_true rfl)) dX11_leaves_58 ⟨by rw [hRc]; exact Nat.le_of_ble_eq_true rfl, by rw [hRs]; exact Nat.le_of_ble_eq_true rfl⟩) hP hD hS hA (fun u : Int32 × (Nat → Int32) => [(a_0, .inr (11, [.ref a_1, .ref a_2, .ref a_3, .ref a_4, .ref a_5, .ref a_6, .ref a_7, .ref a_8, .ref a_9, .ref a_10, .ref a_11])), (a_3, .inr (10, [.ref a_12, .ref a_13])), (a_12, .inr (0, [.int i_2, .int i_3, .int i_4, .int i_5, .int i_6, .int i_7, .int i_8, .int i_9, .ref a_14, .ref a_15, .ref a_16, .ref a_17, .ref a_18, .ref a_19, .ref a_20, .ref a_21, .ref a_22, .ref a_23])), (a_14, .inl (cy 1, 9, .inl f_0)), (a_15, .inl (cy 1, 9, .inl f_1)), (a_18, .inl (cy 1, 6, .inl f_2)), (a_19, .inl (cy 1, 48, .inl f_3)), (a_20, .inl (cy 1, 30, .inl f_4)), (a_13, .inl (cy 5, 3, .inr (.inr (.inr (.inr (va_up (va_up (va_up (fun _ => none) 0 (some a_24)) 1 (some a_25)) 2 (some a_26))))))), (a_24, .inr (1, [.ref a_27, .ref a_28, .int i_10, .int i_11, .int i_12])), (a_27, .inl (cy 1, 2100, .inl f_5)), (a_25, .inr (1, [.ref a_29, .ref a_30, .int i_13, .int i_14, .int i_15])), (a_29, .inl (cy 1, 2100, .inl f_6)), (a_26, .inr (1, [.ref a_31, .ref a_32, .int i_16, .int i_17, .int i_18])), (a_31, .inl (cy 1, 2100, .inl f_7)), (a_6, .inl (cy 6, 4, .inr (.inr (.inr (.inr (va_up (va_up (va_up (va_up (fun _ => none) 0 (some a_33)) 1 (some a_34)) 2 (some a_35)) 3 (some a_36))))))), (a_33, .inr (6, [.int i_19, .int i_20, .int i_21, .ref a_37])), (a_37, .inl (cy 2, 60, .inr (.inl f_8))), (a_34, .inr (6, [.int i_22, .int i_23, .int i_24, .ref a_38])), (a_38, .inl (cy 2, 60, .inr (.inl f_9))), (a_35, .inr (6, [.int i_25, .int i_26, .int i_27, .ref a_39])), (a_39, .inl (cy 2, 60, .inr (.inl f_10))), (a_36, .inr (6, [.int i_28, .int i_29, .int i_30, .ref a_40])), (a_40, .inl (cy 2, 60, .inr (.inl f_11))), (a_7, .inr (8, [.ref a_41, .int u.1])), (a_41, .inl (cy 1, 210, .inl u.2)), (a_8, .inr (3, [.ref a_3, .ref a_7, .ref a_42, .int n66])), (a_42, .inl (cy 1, 210, .inl n67))]) [1, 2, 3, 4, 5, 6, 7, 8, 9, 10, 11, 12, 13, 14, 24, 25, 26, 27] [0, 15, 16, 17, 18, 19, 20, 21, 22, 23] (n := 28) (fun _ => rfl) (by decide +kernel) (by decide +kernel) rfl (fun _ => rfl) (wr := [(a_0, .inr (11, [.ref a_1, .ref a_2, .ref a_3, .ref a_4, .ref a_5, .ref a_6, .ref a_7, .ref a_8, .ref a_9, .ref a_10, .ref a_11])), (a_6, .inl (cy 6, 4, .inr (.inr (.inr (.inr (va_up (va_up (va_up (va_up (fun _ => none) 0 (some a_33)) 1 (some a_34)) 2 (some a_35)) 3 (some a_36))))))), (a_33, .inr (6, [.int i_19, .int i_20, .int i_21, .ref a_37])), (a_37, .inl (cy 2, 60, .inr (.inl f_8))), (a_34, .inr (6, [.int i_22, .int i_23, .int i_24, .ref a_38])), (a_38, .inl (cy 2, 60, .inr (.inl f_9))), (a_35, .inr (6, [.int i_25, .int i_26, .int i_27, .ref a_39])), (a_39, .inl (cy 2, 60, .inr (.inl f_10))), (a_36, .inr (6, [.int i_28, .int i_29, .int i_30, .ref a_40])), (a_40, .inl (cy 2, 60, .inr (.inl f_11)))]) rfl (fun _ => rfl) (fun _ => rfl) ?_
        clear hP hD hS
        clear H locs
        intro v81 u
        obtain ⟨n79, n80⟩ := u
        intro H locs hw (hP : va_P G vwCl [(a_0, .inr (11, [.ref a_1, .ref a_2, .ref a_3, .ref a_4, .ref a_5, .ref a_6, .ref a_7, .ref a_8, .ref a_9, .ref a_10, .ref a_11])), (a_3, .inr (10, [.ref a_12, .ref a_13])), (a_12, .inr (0, [.int i_2, .int i_3, .int i_4, .int i_5, .int i_6, .int i_7, .int i_8, .int i_9, .ref a_14, .ref a_15, .ref a_16, .ref a_17, .ref a_18, .ref a_19, .ref a_20, .ref a_21, .ref a_22, .ref a_23])), (a_14, .inl (cy 1, 9, .inl f_0)), (a_15, .inl (cy 1, 9, .inl f_1)), (a_18, .inl (cy 1, 6, .inl f_2)), (a_19, .inl (cy 1, 48, .inl f_3)), (a_20, .inl (cy 1, 30, .inl f_4)), (a_13, .inl (cy 5, 3, .inr (.inr (.inr (.inr (va_up (va_up (va_up (fun _ => none) 0 (some a_24)) 1 (some a_25)) 2 (some a_26))))))), (a_24, .inr (1, [.ref a_27, .ref a_28, .int i_10, .int i_11, .int i_12])), (a_27, .inl (cy 1, 2100, .inl f_5)), (a_25, .inr (1, [.ref a_29, .ref a_30, .int i_13, .int i_14, .int i_15])), (a_29, .inl (cy 1, 2100, .inl f_6)), (a_26, .inr (1, [.ref a_31, .ref a_32, .int i_16, .int i_17, .int i_18])), (a_31, .inl (cy 1, 2100, .inl f_7)), (a_6, .inl (cy 6, 4, .inr (.inr (.inr (.inr (va_up (va_up (va_up (va_up (fun _ => none) 0 (some a_33)) 1 (some a_34)) 2 (some a_35)) 3 (some a_36))))))), (a_33, .inr (6, [.int i_19, .int i_20, .int i_21, .ref a_37])), (a_37, .inl (cy 2, 60, .inr (.inl f_8))), (a_34, .inr (6, [.int i_22, .int i_23, .int i_24, .ref a_38])), (a_38, .inl (cy 2, 60, .inr (.inl f_9))), (a_35, .inr (6, [.int i_25, .int i_26, .int i_27, .ref a_39])), (a_39, .inl (cy 2, 60, .inr (.inl f_10))), (a_36, .inr (6, [.int i_28, .int i_29, .int i_30, .ref a_40])), (a_40, .inl (cy 2, 60, .inr (.inl f_11))), (a_7, .inr (8, [.ref a_41, .int n79])), (a_41, .inl (cy 1, 210, .inl n80)), (a_8, .inr (3, [.ref a_3, .ref a_7, .ref a_42, .int n66])), (a_42, .inl (cy 1, 210, .inl n67))] H) (hD : va_D A [(a_0, .inr (11, [.ref a_1, .ref a_2, .ref a_3, .ref a_4, .ref a_5, .ref a_6, .ref a_7, .ref a_8, .ref a_9, .ref a_10, .ref a_11])), (a_3, .inr (10, [.ref a_12, .ref a_13])), (a_12, .inr (0, [.int i_2, .int i_3, .int i_4, .int i_5, .int i_6, .int i_7, .int i_8, .int i_9, .ref a_14, .ref a_15, .ref a_16, .ref a_17, .ref a_18, .ref a_19, .ref a_20, .ref a_21, .ref a_22, .ref a_23])), (a_14, .inl (cy 1, 9, .inl f_0)), (a_15, .inl (cy 1, 9, .inl f_1)), (a_18, .inl (cy 1, 6, .inl f_2)), (a_19, .inl (cy 1, 48, .inl f_3)), (a_20, .inl (cy 1, 30, .inl f_4)), (a_13, .inl (cy 5, 3, .inr (.inr (.inr (.inr (va_up (va_up (va_up (fun _ => none) 0 (some a_24)) 1 (some a_25)) 2 (some a_26))))))), (a_24, .inr (1, [.ref a_27, .ref a_28, .int i_10, .int i_11, .int i_12])), (a_27, .inl (cy 1, 2100, .inl f_5)), (a_25, .inr (1, [.ref a_29, .ref a_30, .int i_13, .int i_14, .int i_15])), (a_29, .inl (cy 1, 2100, .inl f_6)), (a_26, .inr (1, [.ref a_31, .ref a_32, .int i_16, .int i_17, .int i_18])), (a_31, .inl (cy 1, 2100, .inl f_7)), (a_6, .inl (cy 6, 4, .inr (.inr (.inr (.inr (va_up (va_up (va_up (va_up (fun _ => none) 0 (some a_33)) 1 (some a_34)) 2 (some a_35)) 3 (some a_36))))))), (a_33, .inr (6, [.int i_19, .int i_20, .int i_21, .ref a_37])), (a_37, .inl (cy 2, 60, .inr (.inl f_8))), (a_34, .inr (6, [.int i_22, .int i_23, .int i_24, .ref a_38])), (a_38, .inl (cy 2, 60, .inr (.inl f_9))), (a_35, .inr (6, [.int i_25, .int i_26, .int i_27, .ref a_39])), (a_39, .inl (cy 2, 60, .inr (.inl f_10))), (a_36, .inr (6, [.int i_28, .int i_29, .int i_30, .ref a_40])), (a_40, .inl (cy 2, 60, .inr (.inl f_11))), (a_7, .inr (8, [.ref a_41, .int n79])), (a_41, .inl (cy 1, 210, .inl n80)), (a_8, .inr (3, [.ref a_3, .ref a_7, .ref a_42, .int n66])), (a_42, .inl (cy 1, 210, .inl n67))]) hS
        obtain ⟨w82, hw⟩ := hw
        have w83 := hw
        subst hAe
        rw [hQ]
        exact W.iret (v := v81) hx hb hr (fun t ht hW => ⟨⟨v81, (n79, n80, n66, n67), rfl, ⟨w82, w69, w70, (mm_wk w83 (by decide))⟩, by rw [ht]; exact hP, hK.warm hW, hD⟩, hS.F ht⟩) hS.2.2 dX11_leaves_61
      · have q84 := mm_eqI (lo := (-1)) (hi := (-1)) c77 w76 mm_km1 (by decide)
        refine lv_iload hx hb dX11_leaves_46 (lv_at hl 1 rfl) ?_
        refine lv_goto (tgt := 61) hx hb dX11_leaves_48 (by decide) ?_
        subst hAe
        rw [hQ]
        exact W.iret (v := v68) hx hb hr (fun t ht hW => ⟨⟨v68, (n72, n73, n66, n67), rfl, ⟨w75, w69, w70, (mm_wk w71 (by decide))⟩, by rw [ht]; exact hP, hK.warm hW, hD⟩, hS.F ht⟩) hS.2.2 dX11_leaves_61
    · have q85 := mm_neL (lo := 1) (mm_ne c65) mm_k0 mm_k0 (by decide) (by decide)
      exact mm_no q85 (by decide)
  · refine lv_istore_n (lv' := [(3, .int 0), (0, .ref a_0), (1, .int i_0), (2, .int i_1)]) hx hb dX11_leaves_7 rfl hl (by decide) rfl ?_
    clear hl
    clear ls
    intro ls hl
    refine lv_iload_n hx hb dX11_leaves_8 rfl (lv_at hl 0 rfl) ?_
    refine lv_if_eq (tgt := 14) hx hb dX11_leaves_9 (by decide) (fun c86 => ?_) (fun c86 => ?_)
    · refine lv_aload_n hx hb dX11_leaves_14 rfl (lv_at hl 1 rfl) ?_
      refine va_get (D := G) (ci := 11) (v := .ref a_8) (C := RX11) (T := TX11) (N := 11) hx hb hts (mm_i inlX11) hown hK.1 hP 0 rfl rfl 7 (by decide) (mm_h hts mm_w42) (fun _ h9 => h9) rfl dX11_leaves_15 ?_
      refine lv_aload_n hx hb dX11_leaves_18 rfl (lv_at hl 1 rfl) ?_
      refine va_get (D := G) (ci := 11) (v := .ref a_6) (C := RX11) (T := TX11) (N := 11) hx hb hts (mm_i inlX11) hown hK.1 hP 0 rfl rfl 5 (by decide) (mm_h hts mm_w32) (fun _ h9 => h9) rfl dX11_leaves_19 ?_
      refine lv_iload_n hx hb dX11_leaves_22 rfl (lv_at hl 2 rfl) ?_
      obtain rfl : i_0 = 3 := mm_is w17 3 (by decide)
      refine va_aldq hx hb hK.1 hP 15 6 rfl rfl (mm_in mm_k3 (by decide)) dX11_leaves_23 ?_
      refine W.eq (g2 := F0 m 24 ls [.ref a_36, .ref a_8]) rfl ?_
      refine lv_iload_n hx hb dX11_leaves_24 rfl (lv_at hl 3 rfl) ?_
      refine mm_fini (va_runV (As := [.ref a_36, .int i_1]) (rest := []) ⟨hx, hb, hml, hown, hts⟩ (K443_X3_gather l G cy H.size a_8 a_36 i_1 a_3 a_12 a_13 i_2 i_3 i_4 i_5 i_6 i_7 i_8 i_9 a_14 a_15 a_16 a_17 a_18 a_19 a_20 a_21 a_22 a_23 f_0 f_1 f_2 f_3 f_4 a_24 a_25 a_26 a_27 a_28 i_10 i_11 i_12 f_5 a_29 a_30 i_13 i_14 i_15 f_6 a_31 a_32 i_16 i_17 i_18 f_7 i_28 i_29 i_30 a_40 f_11 a_7 a_42 i_32 f_13 w18 h0 h1 h3 h4 h5 h6 h7 h8 h9 h10 h11 h12 h13 h14 h22 h24 h25 w20) (cwV 2 hts (mm_gV mm_w1249 mm_w1250 mm_w1251 mm_w41 mm_w1252) rfl rfl rfl hd_X3_gather ⟨by rw [hRf]; exact Nat.le_of_ble_eq_true rfl, by rw [hRl]; exact Nat.le_of_ble_eq_true rfl⟩) (mm_preV hK hZ hS hA hP hD [1, 2, 3, 4, 5, 6, 7, 8, 9, 10, 11, 12, 13, 14, 22, 23, 26, 27] rfl rfl 26 rfl rfl rfl) rfl rfl hl.1 rfl (lv_room (Nat.le_of_ble_eq_true rfl)) dX11_leaves_25 ⟨by rw [hRc]; exact Nat.le_of_ble_eq_true rfl, by rw [hRs]; exact Nat.le_of_ble_eq_true rfl⟩) hP hD hS hA (fun u : Int32 × (Nat → Int32) => [(a_0, .inr (11, [.ref a_1, .ref a_2, .ref a_3, .ref a_4, .ref a_5, .ref a_6, .ref a_7, .ref a_8, .ref a_9, .ref a_10, .ref a_11])), (a_3, .inr (10, [.ref a_12, .ref a_13])), (a_12, .inr (0, [.int i_2, .int i_3, .int i_4, .int i_5, .int i_6, .int i_7, .int i_8, .int i_9, .ref a_14, .ref a_15, .ref a_16, .ref a_17, .ref a_18, .ref a_19, .ref a_20, .ref a_21, .ref a_22, .ref a_23])), (a_14, .inl (cy 1, 9, .inl f_0)), (a_15, .inl (cy 1, 9, .inl f_1)), (a_18, .inl (cy 1, 6, .inl f_2)), (a_19, .inl (cy 1, 48, .inl f_3)), (a_20, .inl (cy 1, 30, .inl f_4)), (a_13, .inl (cy 5, 3, .inr (.inr (.inr (.inr (va_up (va_up (va_up (fun _ => none) 0 (some a_24)) 1 (some a_25)) 2 (some a_26))))))), (a_24, .inr (1, [.ref a_27, .ref a_28, .int i_10, .int i_11, .int i_12])), (a_27, .inl (cy 1, 2100, .inl f_5)), (a_25, .inr (1, [.ref a_29, .ref a_30, .int i_13, .int i_14, .int i_15])), (a_29, .inl (cy 1, 2100, .inl f_6)), (a_26, .inr (1, [.ref a_31, .ref a_32, .int i_16, .int i_17, .int i_18])), (a_31, .inl (cy 1, 2100, .inl f_7)), (a_6, .inl (cy 6, 4, .inr (.inr (.inr (.inr (va_up (va_up (va_up (va_up (fun _ => none) 0 (some a_33)) 1 (some a_34)) 2 (some a_35)) 3 (some a_36))))))), (a_33, .inr (6, [.int i_19, .int i_20, .int i_21, .ref a_37])), (a_37, .inl (cy 2, 60, .inr (.inl f_8))), (a_34, .inr (6, [.int i_22, .int i_23, .int i_24, .ref a_38])), (a_38, .inl (cy 2, 60, .inr (.inl f_9))), (a_35, .inr (6, [.int i_25, .int i_26, .int i_27, .ref a_39])), (a_39, .inl (cy 2, 60, .inr (.inl f_10))), (a_36, .inr (6, [.int i_28, .int i_29, .int i_30, .ref a_40])), (a_40, .inl (cy 2, 60, .inr (.inl f_11))), (a_7, .inr (8, [.ref a_41, .int i_31])), (a_41, .inl (cy 1, 210, .inl f_12)), (a_8, .inr (3, [.ref a_3, .ref a_7, .ref a_42, .int u.1])), (a_42, .inl (cy 1, 210, .inl u.2))]) [1, 2, 3, 4, 5, 6, 7, 8, 9, 10, 11, 12, 13, 14, 22, 23, 26, 27] [0, 15, 16, 17, 18, 19, 20, 21, 24, 25] (n := 28) (fun _ => rfl) (by decide +kernel) (by decide +kernel) rfl (fun _ => rfl) (wr := [(a_0, .inr (11, [.ref a_1, .ref a_2, .ref a_3, .ref a_4, .ref a_5, .ref a_6, .ref a_7, .ref a_8, .ref a_9, .ref a_10, .ref a_11])), (a_6, .inl (cy 6, 4, .inr (.inr (.inr (.inr (va_up (va_up (va_up (va_up (fun _ => none) 0 (some a_33)) 1 (some a_34)) 2 (some a_35)) 3 (some a_36))))))), (a_33, .inr (6, [.int i_19, .int i_20, .int i_21, .ref a_37])), (a_37, .inl (cy 2, 60, .inr (.inl f_8))), (a_34, .inr (6, [.int i_22, .int i_23, .int i_24, .ref a_38])), (a_38, .inl (cy 2, 60, .inr (.inl f_9))), (a_35, .inr (6, [.int i_25, .int i_26, .int i_27, .ref a_39])), (a_39, .inl (cy 2, 60, .inr (.inl f_10))), (a_7, .inr (8, [.ref a_41, .int i_31])), (a_41, .inl (cy 1, 210, .inl f_12))]) rfl (fun _ => rfl) (fun _ => rfl) ?_
      clear hP hD hS
      clear H locs
      intro v89 u
      obtain ⟨n87, n88⟩ := u
      intro H locs hw (hP : va_P G vwCl [(a_0, .inr (11, [.ref a_1, .ref a_2, .ref a_3, .ref a_4, .ref a_5, .ref a_6, .ref a_7, .ref a_8, .ref a_9, .ref a_10, .ref a_11])), (a_3, .inr (10, [.ref a_12, .ref a_13])), (a_12, .inr (0, [.int i_2, .int i_3, .int i_4, .int i_5, .int i_6, .int i_7, .int i_8, .int i_9, .ref a_14, .ref a_15, .ref a_16, .ref a_17, .ref a_18, .ref a_19, .ref a_20, .ref a_21, .ref a_22, .ref a_23])), (a_14, .inl (cy 1, 9, .inl f_0)), (a_15, .inl (cy 1, 9, .inl f_1)), (a_18, .inl (cy 1, 6, .inl f_2)), (a_19, .inl (cy 1, 48, .inl f_3)), (a_20, .inl (cy 1, 30, .inl f_4)), (a_13, .inl (cy 5, 3, .inr (.inr (.inr (.inr (va_up (va_up (va_up (fun _ => none) 0 (some a_24)) 1 (some a_25)) 2 (some a_26))))))), (a_24, .inr (1, [.ref a_27, .ref a_28, .int i_10, .int i_11, .int i_12])), (a_27, .inl (cy 1, 2100, .inl f_5)), (a_25, .inr (1, [.ref a_29, .ref a_30, .int i_13, .int i_14, .int i_15])), (a_29, .inl (cy 1, 2100, .inl f_6)), (a_26, .inr (1, [.ref a_31, .ref a_32, .int i_16, .int i_17, .int i_18])), (a_31, .inl (cy 1, 2100, .inl f_7)), (a_6, .inl (cy 6, 4, .inr (.inr (.inr (.inr (va_up (va_up (va_up (va_up (fun _ => none) 0 (some a_33)) 1 (some a_34)) 2 (some a_35)) 3 (some a_36))))))), (a_33, .inr (6, [.int i_19, .int i_20, .int i_21, .ref a_37])), (a_37, .inl (cy 2, 60, .inr (.inl f_8))), (a_34, .inr (6, [.int i_22, .int i_23, .int i_24, .ref a_38])), (a_38, .inl (cy 2, 60, .inr (.inl f_9))), (a_35, .inr (6, [.int i_25, .int i_26, .int i_27, .ref a_39])), (a_39, .inl (cy 2, 60, .inr (.inl f_10))), (a_36, .inr (6, [.int i_28, .int i_29, .int i_30, .ref a_40])), (a_40, .inl (cy 2, 60, .inr (.inl f_11))), (a_7, .inr (8, [.ref a_41, .int i_31])), (a_41, .inl (cy 1, 210, .inl f_12)), (a_8, .inr (3, [.ref a_3, .ref a_7, .ref a_42, .int n87])), (a_42, .inl (cy 1, 210, .inl n88))] H) (hD : va_D A [(a_0, .inr (11, [.ref a_1, .ref a_2, .ref a_3, .ref a_4, .ref a_5, .ref a_6, .ref a_7, .ref a_8, .ref a_9, .ref a_10, .ref a_11])), (a_3, .inr (10, [.ref a_12, .ref a_13])), (a_12, .inr (0, [.int i_2, .int i_3, .int i_4, .int i_5, .int i_6, .int i_7, .int i_8, .int i_9, .ref a_14, .ref a_15, .ref a_16, .ref a_17, .ref a_18, .ref a_19, .ref a_20, .ref a_21, .ref a_22, .ref a_23])), (a_14, .inl (cy 1, 9, .inl f_0)), (a_15, .inl (cy 1, 9, .inl f_1)), (a_18, .inl (cy 1, 6, .inl f_2)), (a_19, .inl (cy 1, 48, .inl f_3)), (a_20, .inl (cy 1, 30, .inl f_4)), (a_13, .inl (cy 5, 3, .inr (.inr (.inr (.inr (va_up (va_up (va_up (fun _ => none) 0 (some a_24)) 1 (some a_25)) 2 (some a_26))))))), (a_24, .inr (1, [.ref a_27, .ref a_28, .int i_10, .int i_11, .int i_12])), (a_27, .inl (cy 1, 2100, .inl f_5)), (a_25, .inr (1, [.ref a_29, .ref a_30, .int i_13, .int i_14, .int i_15])), (a_29, .inl (cy 1, 2100, .inl f_6)), (a_26, .inr (1, [.ref a_31, .ref a_32, .int i_16, .int i_17, .int i_18])), (a_31, .inl (cy 1, 2100, .inl f_7)), (a_6, .inl (cy 6, 4, .inr (.inr (.inr (.inr (va_up (va_up (va_up (va_up (fun _ => none) 0 (some a_33)) 1 (some a_34)) 2 (some a_35)) 3 (some a_36))))))), (a_33, .inr (6, [.int i_19, .int i_20, .int i_21, .ref a_37])), (a_37, .inl (cy 2, 60, .inr (.inl f_8))), (a_34, .inr (6, [.int i_22, .int i_23, .int i_24, .ref a_38])), (a_38, .inl (cy 2, 60, .inr (.inl f_9))), (a_35, .inr (6, [.int i_25, .int i_26, .int i_27, .ref a_39])), (a_39, .inl (cy 2, 60, .inr (.inl f_10))), (a_36, .inr (6, [.int i_28, .int i_29, .int i_30, .ref a_40])), (a_40, .inl (cy 2, 60, .inr (.inl f_11))), (a_7, .inr (8, [.ref a_41, .int i_31])), (a_41, .inl (cy 1, 210, .inl f_12)), (a_8, .inr (3, [.ref a_3, .ref a_7, .ref a_42, .int n87])), (a_42, .inl (cy 1, 210, .inl n88))]) hS
      obtain ⟨w90, w91, hw⟩ := hw
      have w92 := hw
      refine lv_istore (lv' := [(4, .int v89), (3, .int 0), (0, .ref a_0), (1, .int 3), (2, .int i_1)]) hx hb dX11_leaves_28 hl (by decide) rfl ?_
      clear hl
      clear ls
      intro ls hl
      refine lv_aload_n hx hb dX11_leaves_30 rfl (lv_at hl 2 rfl) ?_
      refine va_get (D := G) (ci := 11) (v := .ref a_8) (C := RX11) (T := TX11) (N := 11) hx hb hts (mm_i inlX11) hown hK.1 hP 0 rfl rfl 7 (by decide) (mm_h hts mm_w42) (fun _ h9 => h9) rfl dX11_leaves_31 ?_
      refine lv_iload_n hx hb dX11_leaves_34 rfl (lv_at hl 4 rfl) ?_
      refine mm_fini (va_runV (As := [.int i_1]) (rest := []) ⟨hx, hb, hml, hown, hts⟩ (K450_X3_question l G cy H.size a_8 i_1 a_3 a_12 a_13 i_2 i_3 i_4 i_5 i_6 i_7 i_8 i_9 a_14 a_15 a_16 a_17 a_18 a_19 a_20 a_21 a_22 a_23 f_0 f_1 f_2 f_3 f_4 a_24 a_25 a_26 a_27 a_28 i_10 i_11 i_12 f_5 a_29 a_30 i_13 i_14 i_15 f_6 a_31 a_32 i_16 i_17 i_18 f_7 a_7 a_41 i_31 f_12 a_42 n87 n88 w18 h0 h1 h3 h4 h5 h6 h7 h8 h9 h10 h11 h12 h13 h14 h23 w90 w91) (cwV 1 hts (mm_gV mm_w1297 mm_w1298 mm_w1299 mm_w41 mm_w1300) rfl rfl rfl hd_X3_question ⟨by rw [hRf]; exact Nat.le_of_ble_eq_true rfl, by rw [hRl]; exact Nat.le_of_ble_eq_true rfl⟩) (mm_preV hK hZ hS hA hP hD [1, 2, 3, 4, 5, 6, 7, 8, 9, 10, 11, 12, 13, 14, 24, 25, 26, 27] rfl rfl 26 rfl rfl rfl) rfl rfl hl.1 rfl (lv_room (Nat.le_of_ble_eq_true rfl)) dX11_leaves_35 ⟨by rw [hRc]; exact Nat.le_of_ble_eq_true rfl, by rw [hRs]; exact Nat.le_of_ble_eq_true rfl⟩) hP hD hS hA (fun u : Int32 × (Nat → Int32) => [(a_0, .inr (11, [.ref a_1, .ref a_2, .ref a_3, .ref a_4, .ref a_5, .ref a_6, .ref a_7, .ref a_8, .ref a_9, .ref a_10, .ref a_11])), (a_3, .inr (10, [.ref a_12, .ref a_13])), (a_12, .inr (0, [.int i_2, .int i_3, .int i_4, .int i_5, .int i_6, .int i_7, .int i_8, .int i_9, .ref a_14, .ref a_15, .ref a_16, .ref a_17, .ref a_18, .ref a_19, .ref a_20, .ref a_21, .ref a_22, .ref a_23])), (a_14, .inl (cy 1, 9, .inl f_0)), (a_15, .inl (cy 1, 9, .inl f_1)), (a_18, .inl (cy 1, 6, .inl f_2)), (a_19, .inl (cy 1, 48, .inl f_3)), (a_20, .inl (cy 1, 30, .inl f_4)), (a_13, .inl (cy 5, 3, .inr (.inr (.inr (.inr (va_up (va_up (va_up (fun _ => none) 0 (some a_24)) 1 (some a_25)) 2 (some a_26))))))), (a_24, .inr (1, [.ref a_27, .ref a_28, .int i_10, .int i_11, .int i_12])), (a_27, .inl (cy 1, 2100, .inl f_5)), (a_25, .inr (1, [.ref a_29, .ref a_30, .int i_13, .int i_14, .int i_15])), (a_29, .inl (cy 1, 2100, .inl f_6)), (a_26, .inr (1, [.ref a_31, .ref a_32, .int i_16, .int i_17, .int i_18])), (a_31, .inl (cy 1, 2100, .inl f_7)), (a_6, .inl (cy 6, 4, .inr (.inr (.inr (.inr (va_up (va_up (va_up (va_up (fun _ => none) 0 (some a_33)) 1 (some a_34)) 2 (some a_35)) 3 (some a_36))))))), (a_33, .inr (6, [.int i_19, .int i_20, .int i_21, .ref a_37])), (a_37, .inl (cy 2, 60, .inr (.inl f_8))), (a_34, .inr (6, [.int i_22, .int i_23, .int i_24, .ref a_38])), (a_38, .inl (cy 2, 60, .inr (.inl f_9))), (a_35, .inr (6, [.int i_25, .int i_26, .int i_27, .ref a_39])), (a_39, .inl (cy 2, 60, .inr (.inl f_10))), (a_36, .inr (6, [.int i_28, .int i_29, .int i_30, .ref a_40])), (a_40, .inl (cy 2, 60, .inr (.inl f_11))), (a_7, .inr (8, [.ref a_41, .int u.1])), (a_41, .inl (cy 1, 210, .inl u.2)), (a_8, .inr (3, [.ref a_3, .ref a_7, .ref a_42, .int n87])), (a_42, .inl (cy 1, 210, .inl n88))]) [1, 2, 3, 4, 5, 6, 7, 8, 9, 10, 11, 12, 13, 14, 24, 25, 26, 27] [0, 15, 16, 17, 18, 19, 20, 21, 22, 23] (n := 28) (fun _ => rfl) (by decide +kernel) (by decide +kernel) rfl (fun _ => rfl) (wr := [(a_0, .inr (11, [.ref a_1, .ref a_2, .ref a_3, .ref a_4, .ref a_5, .ref a_6, .ref a_7, .ref a_8, .ref a_9, .ref a_10, .ref a_11])), (a_6, .inl (cy 6, 4, .inr (.inr (.inr (.inr (va_up (va_up (va_up (va_up (fun _ => none) 0 (some a_33)) 1 (some a_34)) 2 (some a_35)) 3 (some a_36))))))), (a_33, .inr (6, [.int i_19, .int i_20, .int i_21, .ref a_37])), (a_37, .inl (cy 2, 60, .inr (.inl f_8))), (a_34, .inr (6, [.int i_22, .int i_23, .int i_24, .ref a_38])), (a_38, .inl (cy 2, 60, .inr (.inl f_9))), (a_35, .inr (6, [.int i_25, .int i_26, .int i_27, .ref a_39])), (a_39, .inl (cy 2, 60, .inr (.inl f_10))), (a_36, .inr (6, [.int i_28, .int i_29, .int i_30, .ref a_40])), (a_40, .inl (cy 2, 60, .inr (.inl f_11)))]) rfl (fun _ => rfl) (fun _ => rfl) ?_
      clear hP hD hS
      clear H locs
      intro v95 u
      obtain ⟨n93, n94⟩ := u
      intro H locs hw (hP : va_P G vwCl [(a_0, .inr (11, [.ref a_1, .ref a_2, .ref a_3, .ref a_4, .ref a_5, .ref a_6, .ref a_7, .ref a_8, .ref a_9, .ref a_10, .ref a_11])), (a_3, .inr (10, [.ref a_12, .ref a_13])), (a_12, .inr (0, [.int i_2, .int i_3, .int i_4, .int i_5, .int i_6, .int i_7, .int i_8, .int i_9, .ref a_14, .ref a_15, .ref a_16, .ref a_17, .ref a_18, .ref a_19, .ref a_20, .ref a_21, .ref a_22, .ref a_23])), (a_14, .inl (cy 1, 9, .inl f_0)), (a_15, .inl (cy 1, 9, .inl f_1)), (a_18, .inl (cy 1, 6, .inl f_2)), (a_19, .inl (cy 1, 48, .inl f_3)), (a_20, .inl (cy 1, 30, .inl f_4)), (a_13, .inl (cy 5, 3, .inr (.inr (.inr (.inr (va_up (va_up (va_up (fun _ => none) 0 (some a_24)) 1 (some a_25)) 2 (some a_26))))))), (a_24, .inr (1, [.ref a_27, .ref a_28, .int i_10, .int i_11, .int i_12])), (a_27, .inl (cy 1, 2100, .inl f_5)), (a_25, .inr (1, [.ref a_29, .ref a_30, .int i_13, .int i_14, .int i_15])), (a_29, .inl (cy 1, 2100, .inl f_6)), (a_26, .inr (1, [.ref a_31, .ref a_32, .int i_16, .int i_17, .int i_18])), (a_31, .inl (cy 1, 2100, .inl f_7)), (a_6, .inl (cy 6, 4, .inr (.inr (.inr (.inr (va_up (va_up (va_up (va_up (fun _ => none) 0 (some a_33)) 1 (some a_34)) 2 (some a_35)) 3 (some a_36))))))), (a_33, .inr (6, [.int i_19, .int i_20, .int i_21, .ref a_37])), (a_37, .inl (cy 2, 60, .inr (.inl f_8))), (a_34, .inr (6, [.int i_22, .int i_23, .int i_24, .ref a_38])), (a_38, .inl (cy 2, 60, .inr (.inl f_9))), (a_35, .inr (6, [.int i_25, .int i_26, .int i_27, .ref a_39])), (a_39, .inl (cy 2, 60, .inr (.inl f_10))), (a_36, .inr (6, [.int i_28, .int i_29, .int i_30, .ref a_40])), (a_40, .inl (cy 2, 60, .inr (.inl f_11))), (a_7, .inr (8, [.ref a_41, .int n93])), (a_41, .inl (cy 1, 210, .inl n94)), (a_8, .inr (3, [.ref a_3, .ref a_7, .ref a_42, .int n87])), (a_42, .inl (cy 1, 210, .inl n88))] H) (hD : va_D A [(a_0, .inr (11, [.ref a_1, .ref a_2, .ref a_3, .ref a_4, .ref a_5, .ref a_6, .ref a_7, .ref a_8, .ref a_9, .ref a_10, .ref a_11])), (a_3, .inr (10, [.ref a_12, .ref a_13])), (a_12, .inr (0, [.int i_2, .int i_3, .int i_4, .int i_5, .int i_6, .int i_7, .int i_8, .int i_9, .ref a_14, .ref a_15, .ref a_16, .ref a_17, .ref a_18, .ref a_19, .ref a_20, .ref a_21, .ref a_22, .ref a_23])), (a_14, .inl (cy 1, 9, .inl f_0)), (a_15, .inl (cy 1, 9, .inl f_1)), (a_18, .inl (cy 1, 6, .inl f_2)), (a_19, .inl (cy 1, 48, .inl f_3)), (a_20, .inl (cy 1, 30, .inl f_4)), (a_13, .inl (cy 5, 3, .inr (.inr (.inr (.inr (va_up (va_up (va_up (fun _ => none) 0 (some a_24)) 1 (some a_25)) 2 (some a_26))))))), (a_24, .inr (1, [.ref a_27, .ref a_28, .int i_10, .int i_11, .int i_12])), (a_27, .inl (cy 1, 2100, .inl f_5)), (a_25, .inr (1, [.ref a_29, .ref a_30, .int i_13, .int i_14, .int i_15])), (a_29, .inl (cy 1, 2100, .inl f_6)), (a_26, .inr (1, [.ref a_31, .ref a_32, .int i_16, .int i_17, .int i_18])), (a_31, .inl (cy 1, 2100, .inl f_7)), (a_6, .inl (cy 6, 4, .inr (.inr (.inr (.inr (va_up (va_up (va_up (va_up (fun _ => none) 0 (some a_33)) 1 (some a_34)) 2 (some a_35)) 3 (some a_36))))))), (a_33, .inr (6, [.int i_19, .int i_20, .int i_21, .ref a_37])), (a_37, .inl (cy 2, 60, .inr (.inl f_8))), (a_34, .inr (6, [.int i_22, .int i_23, .int i_24, .ref a_38])), (a_38, .inl (cy 2, 60, .inr (.inl f_9))), (a_35, .inr (6, [.int i_25, .int i_26, .int i_27, .ref a_39])), (a_39, .inl (cy 2, 60, .inr (.inl f_10))), (a_36, .inr (6, [.int i_28, .int i_29, .int i_30, .ref a_40])), (a_40, .inl (cy 2, 60, .inr (.inl f_11))), (a_7, .inr (8, [.ref a_41, .int n93])), (a_41, .inl (cy 1, 210, .inl n94)), (a_8, .inr (3, [.ref a_3, .ref a_7, .ref a_42, .int n87])), (a_42, .inl (cy 1, 210, .inl n88))]) hS
      obtain ⟨w96, hw⟩ := hw
      have w97 := hw
      refine lv_istore (lv' := [(5, .int v95), (4, .int v89), (3, .int 0), (0, .ref a_0), (1, .int 3), (2, .int i_1)]) hx hb dX11_leaves_38 hl (by decide) rfl ?_
      clear hl
      clear ls
      intro ls hl
      refine lv_iload hx hb dX11_leaves_40 (lv_at hl 0 rfl) ?_
      refine lv_iconst (v := (-1)) hx hb dX11_leaves_42 (by decide) ?_
      refine lv_icmp_ne (tgt := 51) hx hb dX11_leaves_43 (by decide) (fun c98 => ?_) (fun c98 => ?_)
      · have q99 := mm_neL (lo := 0) (mm_ne c98) w97 mm_km1 (by decide) (by decide)
        refine lv_aload_n hx hb dX11_leaves_51 rfl (lv_at hl 3 rfl) ?_
        refine va_get (D := G) (ci := 11) (v := .ref a_8) (C := RX11) (T := TX11) (N := 11) hx hb hts (mm_i inlX11) hown hK.1 hP 0 rfl rfl 7 (by decide) (mm_h hts mm_w42) (fun _ h9 => h9) rfl dX11_leaves_52 ?_
        refine lv_iload_n hx hb dX11_leaves_55 rfl (lv_at hl 5 rfl) ?_
        refine lv_iload hx hb dX11_leaves_56 (lv_at hl 0 rfl) ?_
        refine mm_fini (va_runV (As := [.int i_1, .int v95]) (rest := []) ⟨hx, hb, hml, hown, hts⟩ (K449_X3_leftAtWorst l G cy H.size a_8 i_1 v95 a_3 a_12 a_13 i_2 i_3 i_4 i_5 i_6 i_7 i_8 i_9 a_14 a_15 a_16 a_17 a_18 a_19 a_20 a_21 a_22 a_23 f_0 f_1 f_2 f_3 f_4 a_24 a_25 a_26 a_27 a_28 i_10 i_11 i_12 f_5 a_29 a_30 i_13 i_14 i_15 f_6 a_31 a_32 i_16 i_17 i_18 f_7 a_7 a_41 n93 n94 a_42 n87 n88 w18 q99 h0 h1 h4 h5 h6 h7 h8 h9 h10 h11 h12 h13 h14 w96 w90 w91) (cwV 2 hts (mm_gV mm_w1330 mm_w1302 mm_w1303 mm_w41 mm_w1304) rfl rfl rfl hd_X3_leftAtWorst ⟨by rw [hRf]; exact Nat.le_of_ble_eq_true rfl, by rw [hRl]; exact Nat.le_of_ble_eq_true rfl⟩) (mm_preV hK hZ hS hA hP hD [1, 2, 3, 4, 5, 6, 7, 8, 9, 10, 11, 12, 13, 14, 24, 25, 26, 27] rfl rfl 26 rfl rfl rfl) rfl rfl hl.1 rfl (lv_room (Nat.le_of_ble_eq_true rfl)) dX11_leaves_58 ⟨by rw [hRc]; exact Nat.le_of_ble_eq_true rfl, by rw [hRs]; exact Nat.le_of_ble_eq_true rfl⟩) hP hD hS hA (fun u : Int32 × (Nat → Int32) => [(a_0, .inr (11, [.ref a_1, .ref a_2, .ref a_3, .ref a_4, .ref a_5, .ref a_6, .ref a_7, .ref a_8, .ref a_9, .ref a_10, .ref a_11])), (a_3, .inr (10, [.ref a_12, .ref a_13])), (a_12, .inr (0, [.int i_2, .int i_3, .int i_4, .int i_5, .int i_6, .int i_7, .int i_8, .int i_9, .ref a_14, .ref a_15, .ref a_16, .ref a_17, .ref a_18, .ref a_19, .ref a_20, .ref a_21, .ref a_22, .ref a_23])), (a_14, .inl (cy 1, 9, .inl f_0)), (a_15, .inl (cy 1, 9, .inl f_1)), (a_18, .inl (cy 1, 6, .inl f_2)), (a_19, .inl (cy 1, 48, .inl f_3)), (a_20, .inl (cy 1, 30, .inl f_4)), (a_13, .inl (cy 5, 3, .inr (.inr (.inr (.inr (va_up (va_up (va_up (fun _ => none) 0 (some a_24)) 1 (some a_25)) 2 (some a_26))))))), (a_24, .inr (1, [.ref a_27, .ref a_28, .int i_10, .int i_11, .int i_12])), (a_27, .inl (cy 1, 2100, .inl f_5)), (a_25, .inr (1, [.ref a_29, .ref a_30, .int i_13, .int i_14, .int i_15])), (a_29, .inl (cy 1, 2100, .inl f_6)), (a_26, .inr (1, [.ref a_31, .ref a_32, .int i_16, .int i_17, .int i_18])), (a_31, .inl (cy 1, 2100, .inl f_7)), (a_6, .inl (cy 6, 4, .inr (.inr (.inr (.inr (va_up (va_up (va_up (va_up (fun _ => none) 0 (some a_33)) 1 (some a_34)) 2 (some a_35)) 3 (some a_36))))))), (a_33, .inr (6, [.int i_19, .int i_20, .int i_21, .ref a_37])), (a_37, .inl (cy 2, 60, .inr (.inl f_8))), (a_34, .inr (6, [.int i_22, .int i_23, .int i_24, .ref a_38])), (a_38, .inl (cy 2, 60, .inr (.inl f_9))), (a_35, .inr (6, [.int i_25, .int i_26, .int i_27, .ref a_39])), (a_39, .inl (cy 2, 60, .inr (.inl f_10))), (a_36, .inr (6, [.int i_28, .int i_29, .int i_30, .ref a_40])), (a_40, .inl (cy 2, 60, .inr (.inl f_11))), (a_7, .inr (8, [.ref a_41, .int u.1])), (a_41, .inl (cy 1, 210, .inl u.2)), (a_8, .inr (3, [.ref a_3, .ref a_7, .ref a_42, .int n87])), (a_42, .inl (cy 1, 210, .inl n88))]) [1, 2, 3, 4, 5, 6, 7, 8, 9, 10, 11, 12, 13, 14, 24, 25, 26, 27] [0, 15, 16, 17, 18, 19, 20, 21, 22, 23] (n := 28) (fun _ => rfl) (by decide +kernel) (by decide +kernel) rfl (fun _ => rfl) (wr := [(a_0, .inr (11, [.ref a_1, .ref a_2, .ref a_3, .ref a_4, .ref a_5, .ref a_6, .ref a_7, .ref a_8, .ref a_9, .ref a_10, .ref a_11])), (a_6, .inl (cy 6, 4, .inr (.inr (.inr (.inr (va_up (va_up (va_up (va_up (fun _ => none) 0 (some a_33)) 1 (some a_34)) 2 (some a_35)) 3 (some a_36))))))), (a_33, .inr (6, [.int i_19, .int i_20, .int i_21, .ref a_37])), (a_37, .inl (cy 2, 60, .inr (.inl f_8))), (a_34, .inr (6, [.int i_22, .int i_23, .int i_24, .ref a_38])), (a_38, .inl (cy 2, 60, .inr (.inl f_9))), (a_35, .inr (6, [.int i_25, .int i_26, .int i_27, .ref a_39])), (a_39, .inl (cy 2, 60, .inr (.inl f_10))), (a_36, .inr (6, [.int i_28, .int i_29, .int i_30, .ref a_40])), (a_40, .inl (cy 2, 60, .inr (.inl f_11)))]) rfl (fun _ => rfl) (fun _ => rfl) ?_
        clear hP hD hS
        clear H locs
        intro v102 u
        obtain ⟨n100, n101⟩ := u
        intro H locs hw (hP : va_P G vwCl [(a_0, .inr (11, [.ref a_1, .ref a_2, .ref a_3, .ref a_4, .ref a_5, .ref a_6, .ref a_7, .ref a_8, .ref a_9, .ref a_10, .ref a_11])), (a_3, .inr (10, [.ref a_12, .ref a_13])), (a_12, .inr (0, [.int i_2, .int i_3, .int i_4, .int i_5, .int i_6, .int i_7, .int i_8, .int i_9, .ref a_14, .ref a_15, .ref a_16, .ref a_17, .ref a_18, .ref a_19, .ref a_20, .ref a_21, .ref a_22, .ref a_23])), (a_14, .inl (cy 1, 9, .inl f_0)), (a_15, .inl (cy 1, 9, .inl f_1)), (a_18, .inl (cy 1, 6, .inl f_2)), (a_19, .inl (cy 1, 48, .inl f_3)), (a_20, .inl (cy 1, 30, .inl f_4)), (a_13, .inl (cy 5, 3, .inr (.inr (.inr (.inr (va_up (va_up (va_up (fun _ => none) 0 (some a_24)) 1 (some a_25)) 2 (some a_26))))))), (a_24, .inr (1, [.ref a_27, .ref a_28, .int i_10, .int i_11, .int i_12])), (a_27, .inl (cy 1, 2100, .inl f_5)), (a_25, .inr (1, [.ref a_29, .ref a_30, .int i_13, .int i_14, .int i_15])), (a_29, .inl (cy 1, 2100, .inl f_6)), (a_26, .inr (1, [.ref a_31, .ref a_32, .int i_16, .int i_17, .int i_18])), (a_31, .inl (cy 1, 2100, .inl f_7)), (a_6, .inl (cy 6, 4, .inr (.inr (.inr (.inr (va_up (va_up (va_up (va_up (fun _ => none) 0 (some a_33)) 1 (some a_34)) 2 (some a_35)) 3 (some a_36))))))), (a_33, .inr (6, [.int i_19, .int i_20, .int i_21, .ref a_37])), (a_37, .inl (cy 2, 60, .inr (.inl f_8))), (a_34, .inr (6, [.int i_22, .int i_23, .int i_24, .ref a_38])), (a_38, .inl (cy 2, 60, .inr (.inl f_9))), (a_35, .inr (6, [.int i_25, .int i_26, .int i_27, .ref a_39])), (a_39, .inl (cy 2, 60, .inr (.inl f_10))), (a_36, .inr (6, [.int i_28, .int i_29, .int i_30, .ref a_40])), (a_40, .inl (cy 2, 60, .inr (.inl f_11))), (a_7, .inr (8, [.ref a_41, .int n100])), (a_41, .inl (cy 1, 210, .inl n101)), (a_8, .inr (3, [.ref a_3, .ref a_7, .ref a_42, .int n87])), (a_42, .inl (cy 1, 210, .inl n88))] H) (hD : va_D A [(a_0, .inr (11, [.ref a_1, .ref a_2, .ref a_3, .ref a_4, .ref a_5, .ref a_6, .ref a_7, .ref a_8, .ref a_9, .ref a_10, .ref a_11])), (a_3, .inr (10, [.ref a_12, .ref a_13])), (a_12, .inr (0, [.int i_2, .int i_3, .int i_4, .int i_5, .int i_6, .int i_7, .int i_8, .int i_9, .ref a_14, .ref a_15, .ref a_16, .ref a_17, .ref a_18, .ref a_19, .ref a_20, .ref a_21, .ref a_22, .ref a_23])), (a_14, .inl (cy 1, 9, .inl f_0)), (a_15, .inl (cy 1, 9, .inl f_1)), (a_18, .inl (cy 1, 6, .inl f_2)), (a_19, .inl (cy 1, 48, .inl f_3)), (a_20, .inl (cy 1, 30, .inl f_4)), (a_13, .inl (cy 5, 3, .inr (.inr (.inr (.inr (va_up (va_up (va_up (fun _ => none) 0 (some a_24)) 1 (some a_25)) 2 (some a_26))))))), (a_24, .inr (1, [.ref a_27, .ref a_28, .int i_10, .int i_11, .int i_12])), (a_27, .inl (cy 1, 2100, .inl f_5)), (a_25, .inr (1, [.ref a_29, .ref a_30, .int i_13, .int i_14, .int i_15])), (a_29, .inl (cy 1, 2100, .inl f_6)), (a_26, .inr (1, [.ref a_31, .ref a_32, .int i_16, .int i_17, .int i_18])), (a_31, .inl (cy 1, 2100, .inl f_7)), (a_6, .inl (cy 6, 4, .inr (.inr (.inr (.inr (va_up (va_up (va_up (va_up (fun _ => none) 0 (some a_33)) 1 (some a_34)) 2 (some a_35)) 3 (some a_36))))))), (a_33, .inr (6, [.int i_19, .int i_20, .int i_21, .ref a_37])), (a_37, .inl (cy 2, 60, .inr (.inl f_8))), (a_34, .inr (6, [.int i_22, .int i_23, .int i_24, .ref a_38])), (a_38, .inl (cy 2, 60, .inr (.inl f_9))), (a_35, .inr (6, [.int i_25, .int i_26, .int i_27, .ref a_39])), (a_39, .inl (cy 2, 60, .inr (.inl f_10))), (a_36, .inr (6, [.int i_28, .int i_29, .int i_30, .ref a_40])), (a_40, .inl (cy 2, 60, .inr (.inl f_11))), (a_7, .inr (8, [.ref a_41, .int n100])), (a_41, .inl (cy 1, 210, .inl n101)), (a_8, .inr (3, [.ref a_3, .ref a_7, .ref a_42, .int n87])), (a_42, .inl (cy 1, 210, .inl n88))]) hS
        obtain ⟨w103, hw⟩ := hw
        have w104 := hw
        subst hAe
        rw [hQ]
        exact W.iret (v := v102) hx hb hr (fun t ht hW => ⟨⟨v102, (n100, n101, n87, n88), rfl, ⟨w103, w90, w91, (mm_wk w104 (by decide))⟩, by rw [ht]; exact hP, hK.warm hW, hD⟩, hS.F ht⟩) hS.2.2 dX11_leaves_61
      · have q105 := mm_eqI (lo := (-1)) (hi := (-1)) c98 w97 mm_km1 (by decide)
        refine lv_iload hx hb dX11_leaves_46 (lv_at hl 1 rfl) ?_
        refine lv_goto (tgt := 61) hx hb dX11_leaves_48 (by decide) ?_
        subst hAe
        rw [hQ]
        exact W.iret (v := v89) hx hb hr (fun t ht hW => ⟨⟨v89, (n93, n94, n87, n88), rfl, ⟨w96, w90, w91, (mm_wk w92 (by decide))⟩, by rw [ht]; exact hP, hK.warm hW, hD⟩, hS.F ht⟩) hS.2.2 dX11_leaves_61
    · have q106 := mm_neL (lo := 1) (mm_ne c86) mm_k0 mm_k0 (by decide) (by decide)
      exact mm_no q106 (by decide)

set_option maxHeartbeats 4000000 in
set_option maxRecDepth 100000 in
theorem K453_X11_lands (l : Launch) (G : va_G) (cy : Nat → ClassId) (sz : Nat) (a_0 : Nat) (i_0 : Int32) (i_1 : Int32) (a_1 : Nat) (a_2 : Nat) (a_3 : Nat) (a_4 : Nat) (a_5 : Nat) (a_6 : Nat) (a_7 : Nat) (a_8 : Nat) (a_9 : Nat) (a_10 : Nat) (a_11 : Nat) (a_12 : Nat) (a_13 : Nat) (i_2 : Int32) (i_3 : Int32) (i_4 : Int32) (i_5 : Int32) (i_6 : Int32) (i_7 : Int32) (i_8 : Int32) (i_9 : Int32) (a_14 : Nat) (a_15 : Nat) (a_16 : Nat) (a_17 : Nat) (a_18 : Nat) (a_19 : Nat) (a_20 : Nat) (a_21 : Nat) (a_22 : Nat) (a_23 : Nat) (f_0 : Nat → Int32) (f_1 : Nat → Int32) (f_2 : Nat → Int32) (f_3 : Nat → Int32) (f_4 : Nat → Int32) (a_24 : Nat) (a_25 : Nat) (a_26 : Nat) (a_27 : Nat) (a_28 : Nat) (i_10 : Int32) (i_11 : Int32) (i_12 : Int32) (f_5 : Nat → Int32) (a_29 : Nat) (a_30 : Nat) (i_13 : Int32) (i_14 : Int32) (i_15 : Int32) (f_6 : Nat → Int32) (a_31 : Nat) (a_32 : Nat) (i_16 : Int32) (i_17 : Int32) (i_18 : Int32) (f_7 : Nat → Int32) (a_33 : Nat) (a_34 : Nat) (a_35 : Nat) (a_36 : Nat) (i_19 : Int32) (i_20 : Int32) (i_21 : Int32) (a_37 : Nat) (f_8 : Nat → Int64) (i_22 : Int32) (i_23 : Int32) (i_24 : Int32) (a_38 : Nat) (f_9 : Nat → Int64) (i_25 : Int32) (i_26 : Int32) (i_27 : Int32) (a_39 : Nat) (f_10 : Nat → Int64) (i_28 : Int32) (i_29 : Int32) (i_30 : Int32) (a_40 : Nat) (f_11 : Nat → Int64) (a_41 : Nat) (i_31 : Int32) (h0 : mm_rg i_5 0 99) (h1 : mm_rg i_6 0 9) (h2 : mm_rg i_7 0 3) (h3 : mm_rg i_8 0 6) (h4 : mm_ar f_0 (-1) 4) (h5 : mm_ar f_1 0 99) (h6 : mm_ar f_2 0 8) (h7 : mm_ar f_3 0 9) (h8 : mm_ar f_4 0 9) (h9 : mm_rg i_12 (-2147483648) 210) (h10 : mm_ar f_5 0 9) (h11 : mm_rg i_15 (-2147483648) 210) (h12 : mm_ar f_6 0 9) (h13 : mm_rg i_18 (-2147483648) 210) (h14 : mm_ar f_7 0 9) (h15 : mm_rg i_19 0 1) (h16 : mm_rg i_21 0 60) (h17 : mm_rg i_22 0 1) (h18 : mm_rg i_24 0 60) (h19 : mm_rg i_25 0 1) (h20 : mm_rg i_27 0 60) (h21 : mm_rg i_28 0 1) (h22 : mm_rg i_30 0 60)  : mm_CI l yX11_lands (mm_ws yX11_lands cX11_lands 6 (some .int)) ({ frames := 5, cells := 0, slots := 0, locals := 135 } : Room) G cy sz [(a_0, .inr (11, [.ref a_1, .ref a_2, .ref a_3, .ref a_4, .ref a_5, .ref a_6, .ref a_7, .ref a_8, .ref a_9, .ref a_10, .ref a_11])), (a_3, .inr (10, [.ref a_12, .ref a_13])), (a_12, .inr (0, [.int i_2, .int i_3, .int i_4, .int i_5, .int i_6, .int i_7, .int i_8, .int i_9, .ref a_14, .ref a_15, .ref a_16, .ref a_17, .ref a_18, .ref a_19, .ref a_20, .ref a_21, .ref a_22, .ref a_23])), (a_14, .inl (cy 1, 9, .inl f_0)), (a_15, .inl (cy 1, 9, .inl f_1)), (a_18, .inl (cy 1, 6, .inl f_2)), (a_19, .inl (cy 1, 48, .inl f_3)), (a_20, .inl (cy 1, 30, .inl f_4)), (a_13, .inl (cy 5, 3, .inr (.inr (.inr (.inr (va_up (va_up (va_up (fun _ => none) 0 (some a_24)) 1 (some a_25)) 2 (some a_26))))))), (a_24, .inr (1, [.ref a_27, .ref a_28, .int i_10, .int i_11, .int i_12])), (a_27, .inl (cy 1, 2100, .inl f_5)), (a_25, .inr (1, [.ref a_29, .ref a_30, .int i_13, .int i_14, .int i_15])), (a_29, .inl (cy 1, 2100, .inl f_6)), (a_26, .inr (1, [.ref a_31, .ref a_32, .int i_16, .int i_17, .int i_18])), (a_31, .inl (cy 1, 2100, .inl f_7)), (a_6, .inl (cy 6, 4, .inr (.inr (.inr (.inr (va_up (va_up (va_up (va_up (fun _ => none) 0 (some a_33)) 1 (some a_34)) 2 (some a_35)) 3 (some a_36))))))), (a_33, .inr (6, [.int i_19, .int i_20, .int i_21, .ref a_37])), (a_37, .inl (cy 2, 60, .inr (.inl f_8))), (a_34, .inr (6, [.int i_22, .int i_23, .int i_24, .ref a_38])), (a_38, .inl (cy 2, 60, .inr (.inl f_9))), (a_35, .inr (6, [.int i_25, .int i_26, .int i_27, .ref a_39])), (a_39, .inl (cy 2, 60, .inr (.inl f_10))), (a_36, .inr (6, [.int i_28, .int i_29, .int i_30, .ref a_40])), (a_40, .inl (cy 2, 60, .inr (.inl f_11))), (a_8, .inr (3, [.ref a_3, .ref a_7, .ref a_41, .int i_31]))] [.ref a_0, .int i_0, .int i_1] (fun u : Unit => [(a_0, .inr (11, [.ref a_1, .ref a_2, .ref a_3, .ref a_4, .ref a_5, .ref a_6, .ref a_7, .ref a_8, .ref a_9, .ref a_10, .ref a_11])), (a_3, .inr (10, [.ref a_12, .ref a_13])), (a_12, .inr (0, [.int i_2, .int i_3, .int i_4, .int i_5, .int i_6, .int i_7, .int i_8, .int i_9, .ref a_14, .ref a_15, .ref a_16, .ref a_17, .ref a_18, .ref a_19, .ref a_20, .ref a_21, .ref a_22, .ref a_23])), (a_14, .inl (cy 1, 9, .inl f_0)), (a_15, .inl (cy 1, 9, .inl f_1)), (a_18, .inl (cy 1, 6, .inl f_2)), (a_19, .inl (cy 1, 48, .inl f_3)), (a_20, .inl (cy 1, 30, .inl f_4)), (a_13, .inl (cy 5, 3, .inr (.inr (.inr (.inr (va_up (va_up (va_up (fun _ => none) 0 (some a_24)) 1 (some a_25)) 2 (some a_26))))))), (a_24, .inr (1, [.ref a_27, .ref a_28, .int i_10, .int i_11, .int i_12])), (a_27, .inl (cy 1, 2100, .inl f_5)), (a_25, .inr (1, [.ref a_29, .ref a_30, .int i_13, .int i_14, .int i_15])), (a_29, .inl (cy 1, 2100, .inl f_6)), (a_26, .inr (1, [.ref a_31, .ref a_32, .int i_16, .int i_17, .int i_18])), (a_31, .inl (cy 1, 2100, .inl f_7)), (a_6, .inl (cy 6, 4, .inr (.inr (.inr (.inr (va_up (va_up (va_up (va_up (fun _ => none) 0 (some a_33)) 1 (some a_34)) 2 (some a_35)) 3 (some a_36))))))), (a_33, .inr (6, [.int i_19, .int i_20, .int i_21, .ref a_37])), (a_37, .inl (cy 2, 60, .inr (.inl f_8))), (a_34, .inr (6, [.int i_22, .int i_23, .int i_24, .ref a_38])), (a_38, .inl (cy 2, 60, .inr (.inl f_9))), (a_35, .inr (6, [.int i_25, .int i_26, .int i_27, .ref a_39])), (a_39, .inl (cy 2, 60, .inr (.inl f_10))), (a_36, .inr (6, [.int i_28, .int i_29, .int i_30, .ref a_40])), (a_40, .inl (cy 2, 60, .inr (.inl f_11))), (a_8, .inr (3, [.ref a_3, .ref a_7, .ref a_41, .int i_31]))]) (fun (r : Int32) (u : Unit) => mm_rg r (-6) 7) 0 0 := by
  refine mm_begin (lv := [(0, .ref a_0), (1, .int i_0), (2, .int i_1)]) (by decide) (Nat.le_of_ble_eq_true rfl) rfl ?_
  intro p e s m below meth c A ls R args Q H locs hRe hQ hAe hx hb hr hlocks hml hown hnm hts hsz hA hS hP hK hD hZ hl
  have hRf : R.frames = 5 := by rw [hRe]
  have hRl : R.locals = 135 := by rw [hRe]
  have hRc : R.cells = 0 := by rw [hRe]
  have hRs : R.slots = 0 := by rw [hRe]
  refine lv_iload_n hx hb dX11_lands_0 rfl (lv_at hl 1 rfl) ?_
  refine mm_finir (va_runS (As := [.int i_0]) (rest := []) ⟨hx, hb, hml, hown, hts⟩ (K437_X11_isSlot l G cy H.size i_0 ) (va_cwS 1 hts (mm_gS mm_w1232 mm_w1233 mm_w2 mm_w1234) rfl rfl rfl hs_X11_isSlot ⟨by rw [hRf]; exact Nat.le_of_ble_eq_true rfl, by rw [hRl]; exact Nat.le_of_ble_eq_true rfl⟩) (mm_preS hK hZ hS hA hP hD [] rfl rfl) rfl rfl hl.1 rfl (lv_room (Nat.le_of_ble_eq_true rfl)) dX11_lands_1 ⟨by rw [hRc]; exact Nat.le_of_ble_eq_true rfl, by rw [hRs]; exact Nat.le_of_ble_eq_true rfl⟩) hP hD hS hA [] rfl (fun _ => rfl) ?_
  clear hP hD hS
  clear H locs
  intro v1 _u H locs hw hP hD hS
  rcases hw with ⟨rfl, w2⟩ | ⟨rfl, w3⟩
  · refine lv_if_eq (tgt := 27) hx hb dX11_lands_4 (by decide) (fun c4 => ?_) (fun c4 => ?_)
    · refine lv_bipush (v := (-2)) hx hb dX11_lands_27 (by decide) ?_
      subst hAe
      rw [hQ]
      exact W.iret (v := (-2)) hx hb hr (fun t ht hW => ⟨⟨(-2), (), rfl, (mm_wk mm_km2 (by decide)), by rw [ht]; exact hP, hK.warm hW, hD⟩, hS.F ht⟩) hS.2.2 dX11_lands_29
    · have q5 := mm_neL (lo := 1) (mm_ne c4) mm_k0 mm_k0 (by decide) (by decide)
      exact mm_no q5 (by decide)
  · refine lv_if_eq (tgt := 27) hx hb dX11_lands_4 (by decide) (fun c6 => ?_) (fun c6 => ?_)
    · exact mm_eqN c6.symm mm_k0 mm_k1 (by decide)
    · refine lv_iload_n hx hb dX11_lands_7 rfl (lv_at hl 2 rfl) ?_
      refine mm_finir (va_runS (As := [.int i_1]) (rest := []) ⟨hx, hb, hml, hown, hts⟩ (K353_X11_isDay l G cy H.size i_1 ) (va_cwS 1 hts (mm_gS mm_w661 mm_w662 mm_w2 mm_w663) rfl rfl rfl hs_X11_isDay ⟨by rw [hRf]; exact Nat.le_of_ble_eq_true rfl, by rw [hRl]; exact Nat.le_of_ble_eq_true rfl⟩) (mm_preS hK hZ hS hA hP hD [] rfl rfl) rfl rfl hl.1 rfl (lv_room (Nat.le_of_ble_eq_true rfl)) dX11_lands_8 ⟨by rw [hRc]; exact Nat.le_of_ble_eq_true rfl, by rw [hRs]; exact Nat.le_of_ble_eq_true rfl⟩) hP hD hS hA [] rfl (fun _ => rfl) ?_
      clear hP hD hS
      clear H locs
      intro v7 _u H locs hw hP hD hS
      rcases hw with ⟨rfl, w8⟩ | ⟨rfl, w9⟩
      · refine lv_if_eq (tgt := 27) hx hb dX11_lands_11 (by decide) (fun c10 => ?_) (fun c10 => ?_)
        · refine lv_bipush (v := (-2)) hx hb dX11_lands_27 (by decide) ?_
          subst hAe
          rw [hQ]
          exact W.iret (v := (-2)) hx hb hr (fun t ht hW => ⟨⟨(-2), (), rfl, (mm_wk mm_km2 (by decide)), by rw [ht]; exact hP, hK.warm hW, hD⟩, hS.F ht⟩) hS.2.2 dX11_lands_29
        · have q11 := mm_neL (lo := 1) (mm_ne c10) mm_k0 mm_k0 (by decide) (by decide)
          exact mm_no q11 (by decide)
      · refine lv_if_eq (tgt := 27) hx hb dX11_lands_11 (by decide) (fun c12 => ?_) (fun c12 => ?_)
        · exact mm_eqN c12.symm mm_k0 mm_k1 (by decide)
        · refine lv_aload_n hx hb dX11_lands_14 rfl (lv_at hl 0 rfl) ?_
          refine va_get (D := G) (ci := 11) (v := .ref a_3) (C := RX11) (T := TX11) (N := 11) hx hb hts (mm_i inlX11) hown hK.1 hP 0 rfl rfl 2 (by decide) (mm_h hts mm_w24) (fun _ h9 => h9) rfl dX11_lands_15 ?_
          refine va_get (D := G) (ci := 10) (v := .ref a_12) (C := RX10) (T := TX10) (N := 2) hx hb hts (mm_i inlX10) hown hK.1 hP 1 rfl rfl 0 (by decide) (mm_h hts mm_w199) (fun _ h9 => h9) rfl dX11_lands_18 ?_
          refine va_get (D := G) (ci := 0) (v := .int i_2) (C := RX0) (T := TX0) (N := 18) hx hb hts (mm_i inlX0) hown hK.1 hP 2 rfl rfl 0 (by decide) (mm_h hts mm_w200) (fun _ h9 => h9) rfl dX11_lands_21 ?_
          refine lv_if_ne (tgt := 30) hx hb dX11_lands_24 (by decide) (fun c13 => ?_) (fun c13 => ?_)
          · refine lv_aload_n hx hb dX11_lands_30 rfl (lv_at hl 0 rfl) ?_
            refine lv_aload_n hx hb dX11_lands_31 rfl (lv_at hl 0 rfl) ?_
            refine va_get (D := G) (ci := 11) (v := .ref a_6) (C := RX11) (T := TX11) (N := 11) hx hb hts (mm_i inlX11) hown hK.1 hP 0 rfl rfl 5 (by decide) (mm_h hts mm_w32) (fun _ h9 => h9) rfl dX11_lands_32 ?_
            refine lv_iload_n hx hb dX11_lands_35 rfl (lv_at hl 1 rfl) ?_
            refine va_aldq hx hb hK.1 hP 15 6 rfl rfl (mm_in w3 (by decide)) dX11_lands_36 ?_
            have c14 := mm_cases4 w3
            rcases c14 with rfl | rfl | rfl | rfl
            · refine W.eq (g2 := F0 m 37 ls [.ref a_33, .ref a_0]) rfl ?_
              refine mm_finir (va_runV (As := [.ref a_33]) (rest := []) ⟨hx, hb, hml, hown, hts⟩ (K440_X11_rowTrouble l G cy H.size a_0 a_33 a_1 a_2 a_3 a_4 a_5 a_6 a_7 a_8 a_9 a_10 a_11 a_12 a_13 i_2 i_3 i_4 i_5 i_6 i_7 i_8 i_9 a_14 a_15 a_16 a_17 a_18 a_19 a_20 a_21 a_22 a_23 i_19 i_20 i_21 a_37 f_8 a_41 i_31 h3 h15 h16) (cwV 1 hts (mm_gV mm_w1235 mm_w1236 mm_w1237 mm_w2 mm_w1238) rfl rfl rfl hd_X11_rowTrouble ⟨by rw [hRf]; exact Nat.le_of_ble_eq_true rfl, by rw [hRl]; exact Nat.le_of_ble_eq_true rfl⟩) (mm_preV hK hZ hS hA hP hD [0, 1, 2, 16, 17, 24] rfl rfl 0 rfl rfl rfl) rfl rfl hl.1 rfl (lv_room (Nat.le_of_ble_eq_true rfl)) dX11_lands_37 ⟨by rw [hRc]; exact Nat.le_of_ble_eq_true rfl, by rw [hRs]; exact Nat.le_of_ble_eq_true rfl⟩) hP hD hS hA [0, 1, 2, 16, 17, 24] rfl (fun _ => rfl) ?_
              clear hP hD hS
              clear H locs
              intro v15 _u H locs hw hP hD hS
              rcases hw with rfl | rfl | ⟨rfl, w16⟩
              · refine lv_istore_n (lv' := [(3, .int (-2)), (0, .ref a_0), (1, .int 0), (2, .int i_1)]) hx hb dX11_lands_40 rfl hl (by decide) rfl ?_
                clear hl
                clear ls
                intro ls hl
                refine lv_iload_n hx hb dX11_lands_41 rfl (lv_at hl 0 rfl) ?_
                refine lv_if_eq (tgt := 47) hx hb dX11_lands_42 (by decide) (fun c17 => ?_) (fun c17 => ?_)
                · exact mm_eqN c17 mm_km2 mm_k0 (by decide)
                · refine lv_iload_n hx hb dX11_lands_45 rfl (lv_at hl 0 rfl) ?_
                  subst hAe
                  rw [hQ]
                  exact W.iret (v := (-2)) hx hb hr (fun t ht hW => ⟨⟨(-2), (), rfl, (mm_wk mm_km2 (by decide)), by rw [ht]; exact hP, hK.warm hW, hD⟩, hS.F ht⟩) hS.2.2 dX11_lands_46
              · refine lv_istore_n (lv' := [(3, .int (-6)), (0, .ref a_0), (1, .int 0), (2, .int i_1)]) hx hb dX11_lands_40 rfl hl (by decide) rfl ?_
                clear hl
                clear ls
                intro ls hl
                refine lv_iload_n hx hb dX11_lands_41 rfl (lv_at hl 0 rfl) ?_
                refine lv_if_eq (tgt := 47) hx hb dX11_lands_42 (by decide) (fun c18 => ?_) (fun c18 => ?_)
                · exact mm_eqN c18 mm_km6 mm_k0 (by decide)
                · refine lv_iload_n hx hb dX11_lands_45 rfl (lv_at hl 0 rfl) ?_
                  subst hAe
                  rw [hQ]
                  exact W.iret (v := (-6)) hx hb hr (fun t ht hW => ⟨⟨(-6), (), rfl, (mm_wk mm_km6 (by decide)), by rw [ht]; exact hP, hK.warm hW, hD⟩, hS.F ht⟩) hS.2.2 dX11_lands_46
              · refine lv_istore_n (lv' := [(3, .int 0), (0, .ref a_0), (1, .int 0), (2, .int i_1)]) hx hb dX11_lands_40 rfl hl (by decide) rfl ?_
                clear hl
                clear ls
                intro ls hl
                refine lv_iload_n hx hb dX11_lands_41 rfl (lv_at hl 0 rfl) ?_
                refine lv_if_eq (tgt := 47) hx hb dX11_lands_42 (by decide) (fun c19 => ?_) (fun c19 => ?_)
                · refine lv_iconst (v := 0) hx hb dX11_lands_47 (by decide) ?_
                  refine lv_istore (lv' := [(4, .int 0), (3, .int 0), (0, .ref a_0), (1, .int 0), (2, .int i_1)]) hx hb dX11_lands_48 hl (by decide) rfl ?_
                  clear hl
                  clear ls
                  intro ls hl
                  refine lv_iconst (v := 0) hx hb dX11_lands_50 (by decide) ?_
                  refine lv_istore (lv' := [(5, .int 0), (4, .int 0), (3, .int 0), (0, .ref a_0), (1, .int 0), (2, .int i_1)]) hx hb dX11_lands_51 hl (by decide) rfl ?_
                  clear hl
                  clear ls
                  intro ls hl
                  have L53_74 : ∀ (n : Nat) (x53_5_73 : Int32) (x53_4_74 : Int32), mm_rg x53_5_73 0 3 → mm_rg x53_4_74 0 7 → (3 - x53_5_73.toInt).toNat < n → ∀ (H : Heap) (locs : List Loc), va_P G vwCl [(a_0, .inr (11, [.ref a_1, .ref a_2, .ref a_3, .ref a_4, .ref a_5, .ref a_6, .ref a_7, .ref a_8, .ref a_9, .ref a_10, .ref a_11])), (a_3, .inr (10, [.ref a_12, .ref a_13])), (a_12, .inr (0, [.int i_2, .int i_3, .int i_4, .int i_5, .int i_6, .int i_7, .int i_8, .int i_9, .ref a_14, .ref a_15, .ref a_16, .ref a_17, .ref a_18, .ref a_19, .ref a_20, .ref a_21, .ref a_22, .ref a_23])), (a_14, .inl (cy 1, 9, .inl f_0)), (a_15, .inl (cy 1, 9, .inl f_1)), (a_18, .inl (cy 1, 6, .inl f_2)), (a_19, .inl (cy 1, 48, .inl f_3)), (a_20, .inl (cy 1, 30, .inl f_4)), (a_13, .inl (cy 5, 3, .inr (.inr (.inr (.inr (va_up (va_up (va_up (fun _ => none) 0 (some a_24)) 1 (some a_25)) 2 (some a_26))))))), (a_24, .inr (1, [.ref a_27, .ref a_28, .int i_10, .int i_11, .int i_12])), (a_27, .inl (cy 1, 2100, .inl f_5)), (a_25, .inr (1, [.ref a_29, .ref a_30, .int i_13, .int i_14, .int i_15])), (a_29, .inl (cy 1, 2100, .inl f_6)), (a_26, .inr (1, [.ref a_31, .ref a_32, .int i_16, .int i_17, .int i_18])), (a_31, .inl (cy 1, 2100, .inl f_7)), (a_6, .inl (cy 6, 4, .inr (.inr (.inr (.inr (va_up (va_up (va_up (va_up (fun _ => none) 0 (some a_33)) 1 (some a_34)) 2 (some a_35)) 3 (some a_36))))))), (a_33, .inr (6, [.int i_19, .int i_20, .int i_21, .ref a_37])), (a_37, .inl (cy 2, 60, .inr (.inl f_8))), (a_34, .inr (6, [.int i_22, .int i_23, .int i_24, .ref a_38])), (a_38, .inl (cy 2, 60, .inr (.inl f_9))), (a_35, .inr (6, [.int i_25, .int i_26, .int i_27, .ref a_39])), (a_39, .inl (cy 2, 60, .inr (.inl f_10))), (a_36, .inr (6, [.int i_28, .int i_29, .int i_30, .ref a_40])), (a_40, .inl (cy 2, 60, .inr (.inl f_11))), (a_8, .inr (3, [.ref a_3, .ref a_7, .ref a_41, .int i_31]))] H → va_D A [(a_0, .inr (11, [.ref a_1, .ref a_2, .ref a_3, .ref a_4, .ref a_5, .ref a_6, .ref a_7, .ref a_8, .ref a_9, .ref a_10, .ref a_11])), (a_3, .inr (10, [.ref a_12, .ref a_13])), (a_12, .inr (0, [.int i_2, .int i_3, .int i_4, .int i_5, .int i_6, .int i_7, .int i_8, .int i_9, .ref a_14, .ref a_15, .ref a_16, .ref a_17, .ref a_18, .ref a_19, .ref a_20, .ref a_21, .ref a_22, .ref a_23])), (a_14, .inl (cy 1, 9, .inl f_0)), (a_15, .inl (cy 1, 9, .inl f_1)), (a_18, .inl (cy 1, 6, .inl f_2)), (a_19, .inl (cy 1, 48, .inl f_3)), (a_20, .inl (cy 1, 30, .inl f_4)), (a_13, .inl (cy 5, 3, .inr (.inr (.inr (.inr (va_up (va_up (va_up (fun _ => none) 0 (some a_24)) 1 (some a_25)) 2 (some a_26))))))), (a_24, .inr (1, [.ref a_27, .ref a_28, .int i_10, .int i_11, .int i_12])), (a_27, .inl (cy 1, 2100, .inl f_5)), (a_25, .inr (1, [.ref a_29, .ref a_30, .int i_13, .int i_14, .int i_15])), (a_29, .inl (cy 1, 2100, .inl f_6)), (a_26, .inr (1, [.ref a_31, .ref a_32, .int i_16, .int i_17, .int i_18])), (a_31, .inl (cy 1, 2100, .inl f_7)), (a_6, .inl (cy 6, 4, .inr (.inr (.inr (.inr (va_up (va_up (va_up (va_up (fun _ => none) 0 (some a_33)) 1 (some a_34)) 2 (some a_35)) 3 (some a_36))))))), (a_33, .inr (6, [.int i_19, .int i_20, .int i_21, .ref a_37])), (a_37, .inl (cy 2, 60, .inr (.inl f_8))), (a_34, .inr (6, [.int i_22, .int i_23, .int i_24, .ref a_38])), (a_38, .inl (cy 2, 60, .inr (.inl f_9))), (a_35, .inr (6, [.int i_25, .int i_26, .int i_27, .ref a_39])), (a_39, .inl (cy 2, 60, .inr (.inl f_10))), (a_36, .inr (6, [.int i_28, .int i_29, .int i_30, .ref a_40])), (a_40, .inl (cy 2, 60, .inr (.inl f_11))), (a_8, .inr (3, [.ref a_3, .ref a_7, .ref a_41, .int i_31]))] → va_S A s.heap H locs → ∀ (ls : Array Slot), lv_has ls 6 [(5, .int x53_5_73), (4, .int x53_4_74), (3, .int 0), (0, .ref a_0), (1, .int 0), (2, .int i_1)] → W p l e R s m args below meth c H locs 0 0 Q (F0 m 53 ls []) := by
                    intro n
                    induction n with
                    | zero => intro x53_5_73 x53_4_74 rx53_5_73 rx53_4_74 hm; exact absurd hm (Nat.not_lt_zero _)
                    | succ n ih53 =>
                      intro x53_5_73 x53_4_74 rx53_5_73 rx53_4_74 hm53 H locs hP hD hS ls hl
                      refine lv_iload hx hb dX11_lands_53 (lv_at hl 0 rfl) ?_
                      refine lv_aload_n hx hb dX11_lands_55 rfl (lv_at hl 3 rfl) ?_
                      refine va_get (D := G) (ci := 11) (v := .ref a_3) (C := RX11) (T := TX11) (N := 11) hx hb hts (mm_i inlX11) hown hK.1 hP 0 rfl rfl 2 (by decide) (mm_h hts mm_w24) (fun _ h9 => h9) rfl dX11_lands_56 ?_
                      refine va_get (D := G) (ci := 10) (v := .ref a_12) (C := RX10) (T := TX10) (N := 2) hx hb hts (mm_i inlX10) hown hK.1 hP 1 rfl rfl 0 (by decide) (mm_h hts mm_w199) (fun _ h9 => h9) rfl dX11_lands_59 ?_
                      refine va_get (D := G) (ci := 0) (v := .int i_7) (C := RX0) (T := TX0) (N := 18) hx hb hts (mm_i inlX0) hown hK.1 hP 2 rfl rfl 5 (by decide) (mm_h hts mm_w630) (fun _ h9 => h9) rfl dX11_lands_62 ?_
                      refine lv_icmp_ge (tgt := 102) hx hb dX11_lands_65 (by decide) (fun c76 => ?_) (fun c76 => ?_)
                      · refine lv_iload hx hb dX11_lands_102 (lv_at hl 1 rfl) ?_
                        subst hAe
                        rw [hQ]
                        exact W.iret (v := x53_4_74) hx hb hr (fun t ht hW => ⟨⟨x53_4_74, (), rfl, (mm_wk rx53_4_74 (by decide)), by rw [ht]; exact hP, hK.warm hW, hD⟩, hS.F ht⟩) hS.2.2 dX11_lands_104
                      · have q77 := mm_ltL (h := 2) (mm_nle c76) rx53_5_73 h2 (by decide)
                        have q78 := mm_ltR (lo := 1) (mm_nle c76) rx53_5_73 h2 (by decide)
                        refine lv_aload_n hx hb dX11_lands_68 rfl (lv_at hl 3 rfl) ?_
                        refine va_get (D := G) (ci := 11) (v := .ref a_8) (C := RX11) (T := TX11) (N := 11) hx hb hts (mm_i inlX11) hown hK.1 hP 0 rfl rfl 7 (by decide) (mm_h hts mm_w42) (fun _ h9 => h9) rfl dX11_lands_69 ?_
                        refine lv_aload_n hx hb dX11_lands_72 rfl (lv_at hl 3 rfl) ?_
                        refine va_get (D := G) (ci := 11) (v := .ref a_6) (C := RX11) (T := TX11) (N := 11) hx hb hts (mm_i inlX11) hown hK.1 hP 0 rfl rfl 5 (by decide) (mm_h hts mm_w32) (fun _ h9 => h9) rfl dX11_lands_73 ?_
                        refine lv_iload_n hx hb dX11_lands_76 rfl (lv_at hl 4 rfl) ?_
                        refine va_aldq hx hb hK.1 hP 15 6 rfl rfl (mm_in mm_k0 (by decide)) dX11_lands_77 ?_
                        refine W.eq (g2 := F0 m 78 ls [.ref a_33, .ref a_8]) rfl ?_
                        refine lv_iload hx hb dX11_lands_78 (lv_at hl 0 rfl) ?_
                        refine lv_iload_n hx hb dX11_lands_80 rfl (lv_at hl 5 rfl) ?_
                        refine mm_finir (va_runV (As := [.ref a_33, .int x53_5_73, .int i_1]) (rest := []) ⟨hx, hb, hml, hown, hts⟩ (K442_X3_fits l G cy H.size a_8 a_33 x53_5_73 i_1 a_3 a_12 a_13 i_2 i_3 i_4 i_5 i_6 i_7 i_8 i_9 a_14 a_15 a_16 a_17 a_18 a_19 a_20 a_21 a_22 a_23 f_0 f_1 f_2 f_3 f_4 a_24 a_25 a_26 a_27 a_28 i_10 i_11 i_12 f_5 a_29 a_30 i_13 i_14 i_15 f_6 a_31 a_32 i_16 i_17 i_18 f_7 i_19 i_20 i_21 a_37 f_8 a_7 a_41 i_31 q77 (mm_wk w9 (by decide)) h0 h1 h3 h4 h5 h6 h7 h8 h9 h10 h11 h12 h13 h14 h16 w16) (cwV 3 hts (mm_gV mm_w1339 mm_w1256 mm_w1257 mm_w41 mm_w1258) rfl rfl rfl hd_X3_fits ⟨by rw [hRf]; exact Nat.le_of_ble_eq_true rfl, by rw [hRl]; exact Nat.le_of_ble_eq_true rfl⟩) (mm_preV hK hZ hS hA hP hD [1, 2, 3, 4, 5, 6, 7, 8, 9, 10, 11, 12, 13, 14, 16, 17, 24] rfl rfl 24 rfl rfl rfl) rfl rfl hl.1 rfl (lv_room (Nat.le_of_ble_eq_true rfl)) dX11_lands_81 ⟨by rw [hRc]; exact Nat.le_of_ble_eq_true rfl, by rw [hRs]; exact Nat.le_of_ble_eq_true rfl⟩) hP hD hS hA [1, 2, 3, 4, 5, 6, 7, 8, 9, 10, 11, 12, 13, 14, 16, 17, 24] rfl (fun _ => rfl) ?_
                        clear hP hD hS
                        clear H locs
                        intro v79 _u H locs hw hP hD hS
                        rcases hw with rfl | rfl
                        · refine lv_if_eq (tgt := 96) hx hb dX11_lands_84 (by decide) (fun c80 => ?_) (fun c80 => ?_)
                          · obtain ⟨v81, ev81⟩ : ∃ y : Int32, y = x53_5_73 + 1 := ⟨_, rfl⟩
                            refine lv_iinc (v := v81) (lv' := [(5, .int v81), (4, .int x53_4_74), (3, .int 0), (0, .ref a_0), (1, .int 0), (2, .int i_1)]) hx hb dX11_lands_96 hl (k := 0) rfl (by rw [ev81]; rfl) (by decide) rfl ?_
                            clear hl
                            clear ls
                            intro ls hl
                            have rv81 : mm_rg v81 1 3 := mm_add ev81 q77 mm_k1 (by decide) (by decide)
                            have tv81 := mm_addEc ev81 q77 mm_k1 (by decide) (k := 1) (by decide)
                            refine lv_goto (tgt := 53) hx hb dX11_lands_99 (by decide) ?_
                            exact ih53 v81 x53_4_74 (mm_wk rv81 (by decide)) rx53_4_74 (mm_mu hm53 tv81 (by decide) (rv81).2 (by decide)) H locs hP hD hS ls (lv_sub hl [0, 1, 2, 3, 4, 5] rfl)
                          · have q82 := mm_neL (lo := 1) (mm_ne c80) mm_k0 mm_k0 (by decide) (by decide)
                            exact mm_no q82 (by decide)
                        · refine lv_if_eq (tgt := 96) hx hb dX11_lands_84 (by decide) (fun c83 => ?_) (fun c83 => ?_)
                          · exact mm_eqN c83.symm mm_k0 mm_k1 (by decide)
                          · refine lv_iload hx hb dX11_lands_87 (lv_at hl 1 rfl) ?_
                            refine lv_iconst (v := 1) hx hb dX11_lands_89 (by decide) ?_
                            refine lv_iload hx hb dX11_lands_90 (lv_at hl 0 rfl) ?_
                            refine lv_ishl hx hb dX11_lands_92 ?_
                            refine lv_topi (fun v84 ev84 => ?_)
                            have rv84 : mm_rg v84 1 4 := mm_shl1 ev84 q77 (by decide)
                            refine lv_ior hx hb dX11_lands_93 ?_
                            refine lv_topi (fun v85 ev85 => ?_)
                            have rv85 : mm_rg v85 0 7 := mm_or ev85 3 rx53_4_74 rv84 (by decide)
                            refine lv_istore (lv' := [(4, .int v85), (5, .int x53_5_73), (3, .int 0), (0, .ref a_0), (1, .int 0), (2, .int i_1)]) hx hb dX11_lands_94 hl (by decide) rfl ?_
                            clear hl
                            clear ls
                            intro ls hl
                            obtain ⟨v86, ev86⟩ : ∃ y : Int32, y = x53_5_73 + 1 := ⟨_, rfl⟩
                            refine lv_iinc (v := v86) (lv' := [(5, .int v86), (4, .int v85), (3, .int 0), (0, .ref a_0), (1, .int 0), (2, .int i_1)]) hx hb dX11_lands_96 hl (k := 1) rfl (by rw [ev86]; rfl) (by decide) rfl ?_
                            clear hl
                            clear ls
                            intro ls hl
                            have rv86 : mm_rg v86 1 3 := mm_add ev86 q77 mm_k1 (by decide) (by decide)
                            have tv86 := mm_addEc ev86 q77 mm_k1 (by decide) (k := 1) (by decide)
                            refine lv_goto (tgt := 53) hx hb dX11_lands_99 (by decide) ?_
                            exact ih53 v86 v85 (mm_wk rv86 (by decide)) rv85 (mm_mu hm53 tv86 (by decide) (rv86).2 (by decide)) H locs hP hD hS ls (lv_sub hl [0, 1, 2, 3, 4, 5] rfl)
                  exact L53_74 _ 0 0 (mm_wk mm_k0 (by decide)) (mm_wk mm_k0 (by decide)) (Nat.lt_succ_self _) H locs hP hD hS ls (lv_sub hl [0, 1, 2, 3, 4, 5] rfl)
                · have q87 := mm_neL (lo := 1) (mm_ne c19) mm_k0 mm_k0 (by decide) (by decide)
                  exact mm_no q87 (by decide)
            · refine W.eq (g2 := F0 m 37 ls [.ref a_34, .ref a_0]) rfl ?_
              refine mm_finir (va_runV (As := [.ref a_34]) (rest := []) ⟨hx, hb, hml, hown, hts⟩ (K440_X11_rowTrouble l G cy H.size a_0 a_34 a_1 a_2 a_3 a_4 a_5 a_6 a_7 a_8 a_9 a_10 a_11 a_12 a_13 i_2 i_3 i_4 i_5 i_6 i_7 i_8 i_9 a_14 a_15 a_16 a_17 a_18 a_19 a_20 a_21 a_22 a_23 i_22 i_23 i_24 a_38 f_9 a_41 i_31 h3 h17 h18) (cwV 1 hts (mm_gV mm_w1235 mm_w1236 mm_w1237 mm_w2 mm_w1238) rfl rfl rfl hd_X11_rowTrouble ⟨by rw [hRf]; exact Nat.le_of_ble_eq_true rfl, by rw [hRl]; exact Nat.le_of_ble_eq_true rfl⟩) (mm_preV hK hZ hS hA hP hD [0, 1, 2, 18, 19, 24] rfl rfl 0 rfl rfl rfl) rfl rfl hl.1 rfl (lv_room (Nat.le_of_ble_eq_true rfl)) dX11_lands_37 ⟨by rw [hRc]; exact Nat.le_of_ble_eq_true rfl, by rw [hRs]; exact Nat.le_of_ble_eq_true rfl⟩) hP hD hS hA [0, 1, 2, 18, 19, 24] rfl (fun _ => rfl) ?_
              clear hP hD hS
              clear H locs
              intro v88 _u H locs hw hP hD hS
              rcases hw with rfl | rfl | ⟨rfl, w89⟩
              · refine lv_istore_n (lv' := [(3, .int (-2)), (0, .ref a_0), (1, .int 1), (2, .int i_1)]) hx hb dX11_lands_40 rfl hl (by decide) rfl ?_
                clear hl
                clear ls
                intro ls hl
                refine lv_iload_n hx hb dX11_lands_41 rfl (lv_at hl 0 rfl) ?_
                refine lv_if_eq (tgt := 47) hx hb dX11_lands_42 (by decide) (fun c90 => ?_) (fun c90 => ?_)
                · exact mm_eqN c90 mm_km2 mm_k0 (by decide)
                · refine lv_iload_n hx hb dX11_lands_45 rfl (lv_at hl 0 rfl) ?_
                  subst hAe
                  rw [hQ]
                  exact W.iret (v := (-2)) hx hb hr (fun t ht hW => ⟨⟨(-2), (), rfl, (mm_wk mm_km2 (by decide)), by rw [ht]; exact hP, hK.warm hW, hD⟩, hS.F ht⟩) hS.2.2 dX11_lands_46
              · refine lv_istore_n (lv' := [(3, .int (-6)), (0, .ref a_0), (1, .int 1), (2, .int i_1)]) hx hb dX11_lands_40 rfl hl (by decide) rfl ?_
                clear hl
                clear ls
                intro ls hl
                refine lv_iload_n hx hb dX11_lands_41 rfl (lv_at hl 0 rfl) ?_
                refine lv_if_eq (tgt := 47) hx hb dX11_lands_42 (by decide) (fun c91 => ?_) (fun c91 => ?_)
                · exact mm_eqN c91 mm_km6 mm_k0 (by decide)
                · refine lv_iload_n hx hb dX11_lands_45 rfl (lv_at hl 0 rfl) ?_
                  subst hAe
                  rw [hQ]
                  exact W.iret (v := (-6)) hx hb hr (fun t ht hW => ⟨⟨(-6), (), rfl, (mm_wk mm_km6 (by decide)), by rw [ht]; exact hP, hK.warm hW, hD⟩, hS.F ht⟩) hS.2.2 dX11_lands_46
              · refine lv_istore_n (lv' := [(3, .int 0), (0, .ref a_0), (1, .int 1), (2, .int i_1)]) hx hb dX11_lands_40 rfl hl (by decide) rfl ?_
                clear hl
                clear ls
                intro ls hl
                refine lv_iload_n hx hb dX11_lands_41 rfl (lv_at hl 0 rfl) ?_
                refine lv_if_eq (tgt := 47) hx hb dX11_lands_42 (by decide) (fun c92 => ?_) (fun c92 => ?_)
                · refine lv_iconst (v := 0) hx hb dX11_lands_47 (by decide) ?_
                  refine lv_istore (lv' := [(4, .int 0), (3, .int 0), (0, .ref a_0), (1, .int 1), (2, .int i_1)]) hx hb dX11_lands_48 hl (by decide) rfl ?_
                  clear hl
                  clear ls
                  intro ls hl
                  refine lv_iconst (v := 0) hx hb dX11_lands_50 (by decide) ?_
                  refine lv_istore (lv' := [(5, .int 0), (4, .int 0), (3, .int 0), (0, .ref a_0), (1, .int 1), (2, .int i_1)]) hx hb dX11_lands_51 hl (by decide) rfl ?_
                  clear hl
                  clear ls
                  intro ls hl
                  have L53_147 : ∀ (n : Nat) (x53_5_146 : Int32) (x53_4_147 : Int32), mm_rg x53_5_146 0 3 → mm_rg x53_4_147 0 7 → (3 - x53_5_146.toInt).toNat < n → ∀ (H : Heap) (locs : List Loc), va_P G vwCl [(a_0, .inr (11, [.ref a_1, .ref a_2, .ref a_3, .ref a_4, .ref a_5, .ref a_6, .ref a_7, .ref a_8, .ref a_9, .ref a_10, .ref a_11])), (a_3, .inr (10, [.ref a_12, .ref a_13])), (a_12, .inr (0, [.int i_2, .int i_3, .int i_4, .int i_5, .int i_6, .int i_7, .int i_8, .int i_9, .ref a_14, .ref a_15, .ref a_16, .ref a_17, .ref a_18, .ref a_19, .ref a_20, .ref a_21, .ref a_22, .ref a_23])), (a_14, .inl (cy 1, 9, .inl f_0)), (a_15, .inl (cy 1, 9, .inl f_1)), (a_18, .inl (cy 1, 6, .inl f_2)), (a_19, .inl (cy 1, 48, .inl f_3)), (a_20, .inl (cy 1, 30, .inl f_4)), (a_13, .inl (cy 5, 3, .inr (.inr (.inr (.inr (va_up (va_up (va_up (fun _ => none) 0 (some a_24)) 1 (some a_25)) 2 (some a_26))))))), (a_24, .inr (1, [.ref a_27, .ref a_28, .int i_10, .int i_11, .int i_12])), (a_27, .inl (cy 1, 2100, .inl f_5)), (a_25, .inr (1, [.ref a_29, .ref a_30, .int i_13, .int i_14, .int i_15])), (a_29, .inl (cy 1, 2100, .inl f_6)), (a_26, .inr (1, [.ref a_31, .ref a_32, .int i_16, .int i_17, .int i_18])), (a_31, .inl (cy 1, 2100, .inl f_7)), (a_6, .inl (cy 6, 4, .inr (.inr (.inr (.inr (va_up (va_up (va_up (va_up (fun _ => none) 0 (some a_33)) 1 (some a_34)) 2 (some a_35)) 3 (some a_36))))))), (a_33, .inr (6, [.int i_19, .int i_20, .int i_21, .ref a_37])), (a_37, .inl (cy 2, 60, .inr (.inl f_8))), (a_34, .inr (6, [.int i_22, .int i_23, .int i_24, .ref a_38])), (a_38, .inl (cy 2, 60, .inr (.inl f_9))), (a_35, .inr (6, [.int i_25, .int i_26, .int i_27, .ref a_39])), (a_39, .inl (cy 2, 60, .inr (.inl f_10))), (a_36, .inr (6, [.int i_28, .int i_29, .int i_30, .ref a_40])), (a_40, .inl (cy 2, 60, .inr (.inl f_11))), (a_8, .inr (3, [.ref a_3, .ref a_7, .ref a_41, .int i_31]))] H → va_D A [(a_0, .inr (11, [.ref a_1, .ref a_2, .ref a_3, .ref a_4, .ref a_5, .ref a_6, .ref a_7, .ref a_8, .ref a_9, .ref a_10, .ref a_11])), (a_3, .inr (10, [.ref a_12, .ref a_13])), (a_12, .inr (0, [.int i_2, .int i_3, .int i_4, .int i_5, .int i_6, .int i_7, .int i_8, .int i_9, .ref a_14, .ref a_15, .ref a_16, .ref a_17, .ref a_18, .ref a_19, .ref a_20, .ref a_21, .ref a_22, .ref a_23])), (a_14, .inl (cy 1, 9, .inl f_0)), (a_15, .inl (cy 1, 9, .inl f_1)), (a_18, .inl (cy 1, 6, .inl f_2)), (a_19, .inl (cy 1, 48, .inl f_3)), (a_20, .inl (cy 1, 30, .inl f_4)), (a_13, .inl (cy 5, 3, .inr (.inr (.inr (.inr (va_up (va_up (va_up (fun _ => none) 0 (some a_24)) 1 (some a_25)) 2 (some a_26))))))), (a_24, .inr (1, [.ref a_27, .ref a_28, .int i_10, .int i_11, .int i_12])), (a_27, .inl (cy 1, 2100, .inl f_5)), (a_25, .inr (1, [.ref a_29, .ref a_30, .int i_13, .int i_14, .int i_15])), (a_29, .inl (cy 1, 2100, .inl f_6)), (a_26, .inr (1, [.ref a_31, .ref a_32, .int i_16, .int i_17, .int i_18])), (a_31, .inl (cy 1, 2100, .inl f_7)), (a_6, .inl (cy 6, 4, .inr (.inr (.inr (.inr (va_up (va_up (va_up (va_up (fun _ => none) 0 (some a_33)) 1 (some a_34)) 2 (some a_35)) 3 (some a_36))))))), (a_33, .inr (6, [.int i_19, .int i_20, .int i_21, .ref a_37])), (a_37, .inl (cy 2, 60, .inr (.inl f_8))), (a_34, .inr (6, [.int i_22, .int i_23, .int i_24, .ref a_38])), (a_38, .inl (cy 2, 60, .inr (.inl f_9))), (a_35, .inr (6, [.int i_25, .int i_26, .int i_27, .ref a_39])), (a_39, .inl (cy 2, 60, .inr (.inl f_10))), (a_36, .inr (6, [.int i_28, .int i_29, .int i_30, .ref a_40])), (a_40, .inl (cy 2, 60, .inr (.inl f_11))), (a_8, .inr (3, [.ref a_3, .ref a_7, .ref a_41, .int i_31]))] → va_S A s.heap H locs → ∀ (ls : Array Slot), lv_has ls 6 [(5, .int x53_5_146), (4, .int x53_4_147), (3, .int 0), (0, .ref a_0), (1, .int 1), (2, .int i_1)] → W p l e R s m args below meth c H locs 0 0 Q (F0 m 53 ls []) := by
                    intro n
                    induction n with
                    | zero => intro x53_5_146 x53_4_147 rx53_5_146 rx53_4_147 hm; exact absurd hm (Nat.not_lt_zero _)
                    | succ n ih53 =>
                      intro x53_5_146 x53_4_147 rx53_5_146 rx53_4_147 hm53 H locs hP hD hS ls hl
                      refine lv_iload hx hb dX11_lands_53 (lv_at hl 0 rfl) ?_
                      refine lv_aload_n hx hb dX11_lands_55 rfl (lv_at hl 3 rfl) ?_
                      refine va_get (D := G) (ci := 11) (v := .ref a_3) (C := RX11) (T := TX11) (N := 11) hx hb hts (mm_i inlX11) hown hK.1 hP 0 rfl rfl 2 (by decide) (mm_h hts mm_w24) (fun _ h9 => h9) rfl dX11_lands_56 ?_
                      refine va_get (D := G) (ci := 10) (v := .ref a_12) (C := RX10) (T := TX10) (N := 2) hx hb hts (mm_i inlX10) hown hK.1 hP 1 rfl rfl 0 (by decide) (mm_h hts mm_w199) (fun _ h9 => h9) rfl dX11_lands_59 ?_
                      refine va_get (D := G) (ci := 0) (v := .int i_7) (C := RX0) (T := TX0) (N := 18) hx hb hts (mm_i inlX0) hown hK.1 hP 2 rfl rfl 5 (by decide) (mm_h hts mm_w630) (fun _ h9 => h9) rfl dX11_lands_62 ?_
                      refine lv_icmp_ge (tgt := 102) hx hb dX11_lands_65 (by decide) (fun c149 => ?_) (fun c149 => ?_)
                      · refine lv_iload hx hb dX11_lands_102 (lv_at hl 1 rfl) ?_
                        subst hAe
                        rw [hQ]
                        exact W.iret (v := x53_4_147) hx hb hr (fun t ht hW => ⟨⟨x53_4_147, (), rfl, (mm_wk rx53_4_147 (by decide)), by rw [ht]; exact hP, hK.warm hW, hD⟩, hS.F ht⟩) hS.2.2 dX11_lands_104
                      · have q150 := mm_ltL (h := 2) (mm_nle c149) rx53_5_146 h2 (by decide)
                        have q151 := mm_ltR (lo := 1) (mm_nle c149) rx53_5_146 h2 (by decide)
                        refine lv_aload_n hx hb dX11_lands_68 rfl (lv_at hl 3 rfl) ?_
                        refine va_get (D := G) (ci := 11) (v := .ref a_8) (C := RX11) (T := TX11) (N := 11) hx hb hts (mm_i inlX11) hown hK.1 hP 0 rfl rfl 7 (by decide) (mm_h hts mm_w42) (fun _ h9 => h9) rfl dX11_lands_69 ?_
                        refine lv_aload_n hx hb dX11_lands_72 rfl (lv_at hl 3 rfl) ?_
                        refine va_get (D := G) (ci := 11) (v := .ref a_6) (C := RX11) (T := TX11) (N := 11) hx hb hts (mm_i inlX11) hown hK.1 hP 0 rfl rfl 5 (by decide) (mm_h hts mm_w32) (fun _ h9 => h9) rfl dX11_lands_73 ?_
                        refine lv_iload_n hx hb dX11_lands_76 rfl (lv_at hl 4 rfl) ?_
                        refine va_aldq hx hb hK.1 hP 15 6 rfl rfl (mm_in mm_k1 (by decide)) dX11_lands_77 ?_
                        refine W.eq (g2 := F0 m 78 ls [.ref a_34, .ref a_8]) rfl ?_
                        refine lv_iload hx hb dX11_lands_78 (lv_at hl 0 rfl) ?_
                        refine lv_iload_n hx hb dX11_lands_80 rfl (lv_at hl 5 rfl) ?_
                        refine mm_finir (va_runV (As := [.ref a_34, .int x53_5_146, .int i_1]) (rest := []) ⟨hx, hb, hml, hown, hts⟩ (K442_X3_fits l G cy H.size a_8 a_34 x53_5_146 i_1 a_3 a_12 a_13 i_2 i_3 i_4 i_5 i_6 i_7 i_8 i_9 a_14 a_15 a_16 a_17 a_18 a_19 a_20 a_21 a_22 a_23 f_0 f_1 f_2 f_3 f_4 a_24 a_25 a_26 a_27 a_28 i_10 i_11 i_12 f_5 a_29 a_30 i_13 i_14 i_15 f_6 a_31 a_32 i_16 i_17 i_18 f_7 i_22 i_23 i_24 a_38 f_9 a_7 a_41 i_31 q150 (mm_wk w9 (by decide)) h0 h1 h3 h4 h5 h6 h7 h8 h9 h10 h11 h12 h13 h14 h18 w89) (cwV 3 hts (mm_gV mm_w1339 mm_w1256 mm_w1257 mm_w41 mm_w1258) rfl rfl rfl hd_X3_fits ⟨by rw [hRf]; exact Nat.le_of_ble_eq_true rfl, by rw [hRl]; exact Nat.le_of_ble_eq_true rfl⟩) (mm_preV hK hZ hS hA hP hD [1, 2, 3, 4, 5, 6, 7, 8, 9, 10, 11, 12, 13, 14, 18, 19, 24] rfl rfl 24 rfl rfl rfl) rfl rfl hl.1 rfl (lv_room (Nat.le_of_ble_eq_true rfl)) dX11_lands_81 ⟨by rw [hRc]; exact Nat.le_of_ble_eq_true rfl, by rw [hRs]; exact Nat.le_of_ble_eq_true rfl⟩) hP hD hS hA [1, 2, 3, 4, 5, 6, 7, 8, 9, 10, 11, 12, 13, 14, 18, 19, 24] rfl (fun _ => rfl) ?_
                        clear hP hD hS
                        clear H locs
                        intro v152 _u H locs hw hP hD hS
                        rcases hw with rfl | rfl
                        · refine lv_if_eq (tgt := 96) hx hb dX11_lands_84 (by decide) (fun c153 => ?_) (fun c153 => ?_)
                          · obtain ⟨v154, ev154⟩ : ∃ y : Int32, y = x53_5_146 + 1 := ⟨_, rfl⟩
                            refine lv_iinc (v := v154) (lv' := [(5, .int v154), (4, .int x53_4_147), (3, .int 0), (0, .ref a_0), (1, .int 1), (2, .int i_1)]) hx hb dX11_lands_96 hl (k := 0) rfl (by rw [ev154]; rfl) (by decide) rfl ?_
                            clear hl
                            clear ls
                            intro ls hl
                            have rv154 : mm_rg v154 1 3 := mm_add ev154 q150 mm_k1 (by decide) (by decide)
                            have tv154 := mm_addEc ev154 q150 mm_k1 (by decide) (k := 1) (by decide)
                            refine lv_goto (tgt := 53) hx hb dX11_lands_99 (by decide) ?_
                            exact ih53 v154 x53_4_147 (mm_wk rv154 (by decide)) rx53_4_147 (mm_mu hm53 tv154 (by decide) (rv154).2 (by decide)) H locs hP hD hS ls (lv_sub hl [0, 1, 2, 3, 4, 5] rfl)
                          · have q155 := mm_neL (lo := 1) (mm_ne c153) mm_k0 mm_k0 (by decide) (by decide)
                            exact mm_no q155 (by decide)
                        · refine lv_if_eq (tgt := 96) hx hb dX11_lands_84 (by decide) (fun c156 => ?_) (fun c156 => ?_)
                          · exact mm_eqN c156.symm mm_k0 mm_k1 (by decide)
                          · refine lv_iload hx hb dX11_lands_87 (lv_at hl 1 rfl) ?_
                            refine lv_iconst (v := 1) hx hb dX11_lands_89 (by decide) ?_
                            refine lv_iload hx hb dX11_lands_90 (lv_at hl 0 rfl) ?_
                            refine lv_ishl hx hb dX11_lands_92 ?_
                            refine lv_topi (fun v157 ev157 => ?_)
                            have rv157 : mm_rg v157 1 4 := mm_shl1 ev157 q150 (by decide)
                            refine lv_ior hx hb dX11_lands_93 ?_
                            refine lv_topi (fun v158 ev158 => ?_)
                            have rv158 : mm_rg v158 0 7 := mm_or ev158 3 rx53_4_147 rv157 (by decide)
                            refine lv_istore (lv' := [(4, .int v158), (5, .int x53_5_146), (3, .int 0), (0, .ref a_0), (1, .int 1), (2, .int i_1)]) hx hb dX11_lands_94 hl (by decide) rfl ?_
                            clear hl
                            clear ls
                            intro ls hl
                            obtain ⟨v159, ev159⟩ : ∃ y : Int32, y = x53_5_146 + 1 := ⟨_, rfl⟩
                            refine lv_iinc (v := v159) (lv' := [(5, .int v159), (4, .int v158), (3, .int 0), (0, .ref a_0), (1, .int 1), (2, .int i_1)]) hx hb dX11_lands_96 hl (k := 1) rfl (by rw [ev159]; rfl) (by decide) rfl ?_
                            clear hl
                            clear ls
                            intro ls hl
                            have rv159 : mm_rg v159 1 3 := mm_add ev159 q150 mm_k1 (by decide) (by decide)
                            have tv159 := mm_addEc ev159 q150 mm_k1 (by decide) (k := 1) (by decide)
                            refine lv_goto (tgt := 53) hx hb dX11_lands_99 (by decide) ?_
                            exact ih53 v159 v158 (mm_wk rv159 (by decide)) rv158 (mm_mu hm53 tv159 (by decide) (rv159).2 (by decide)) H locs hP hD hS ls (lv_sub hl [0, 1, 2, 3, 4, 5] rfl)
                  exact L53_147 _ 0 0 (mm_wk mm_k0 (by decide)) (mm_wk mm_k0 (by decide)) (Nat.lt_succ_self _) H locs hP hD hS ls (lv_sub hl [0, 1, 2, 3, 4, 5] rfl)
                · have q160 := mm_neL (lo := 1) (mm_ne c92) mm_k0 mm_k0 (by decide) (by decide)
                  exact mm_no q160 (by decide)
            · refine W.eq (g2 := F0 m 37 ls [.ref a_35, .ref a_0]) rfl ?_
              refine mm_finir (va_runV (As := [.ref a_35]) (rest := []) ⟨hx, hb, hml, hown, hts⟩ (K440_X11_rowTrouble l G cy H.size a_0 a_35 a_1 a_2 a_3 a_4 a_5 a_6 a_7 a_8 a_9 a_10 a_11 a_12 a_13 i_2 i_3 i_4 i_5 i_6 i_7 i_8 i_9 a_14 a_15 a_16 a_17 a_18 a_19 a_20 a_21 a_22 a_23 i_25 i_26 i_27 a_39 f_10 a_41 i_31 h3 h19 h20) (cwV 1 hts (mm_gV mm_w1235 mm_w1236 mm_w1237 mm_w2 mm_w1238) rfl rfl rfl hd_X11_rowTrouble ⟨by rw [hRf]; exact Nat.le_of_ble_eq_true rfl, by rw [hRl]; exact Nat.le_of_ble_eq_true rfl⟩) (mm_preV hK hZ hS hA hP hD [0, 1, 2, 20, 21, 24] rfl rfl 0 rfl rfl rfl) rfl rfl hl.1 rfl (lv_room (Nat.le_of_ble_eq_true rfl)) dX11_lands_37 ⟨by rw [hRc]; exact Nat.le_of_ble_eq_true rfl, by rw [hRs]; exact Nat.le_of_ble_eq_true rfl⟩) hP hD hS hA [0, 1, 2, 20, 21, 24] rfl (fun _ => rfl) ?_
              clear hP hD hS
              clear H locs
              intro v161 _u H locs hw hP hD hS
              rcases hw with rfl | rfl | ⟨rfl, w162⟩
              · refine lv_istore_n (lv' := [(3, .int (-2)), (0, .ref a_0), (1, .int 2), (2, .int i_1)]) hx hb dX11_lands_40 rfl hl (by decide) rfl ?_
                clear hl
                clear ls
                intro ls hl
                refine lv_iload_n hx hb dX11_lands_41 rfl (lv_at hl 0 rfl) ?_
                refine lv_if_eq (tgt := 47) hx hb dX11_lands_42 (by decide) (fun c163 => ?_) (fun c163 => ?_)
                · exact mm_eqN c163 mm_km2 mm_k0 (by decide)
                · refine lv_iload_n hx hb dX11_lands_45 rfl (lv_at hl 0 rfl) ?_
                  subst hAe
                  rw [hQ]
                  exact W.iret (v := (-2)) hx hb hr (fun t ht hW => ⟨⟨(-2), (), rfl, (mm_wk mm_km2 (by decide)), by rw [ht]; exact hP, hK.warm hW, hD⟩, hS.F ht⟩) hS.2.2 dX11_lands_46
              · refine lv_istore_n (lv' := [(3, .int (-6)), (0, .ref a_0), (1, .int 2), (2, .int i_1)]) hx hb dX11_lands_40 rfl hl (by decide) rfl ?_
                clear hl
                clear ls
                intro ls hl
                refine lv_iload_n hx hb dX11_lands_41 rfl (lv_at hl 0 rfl) ?_
                refine lv_if_eq (tgt := 47) hx hb dX11_lands_42 (by decide) (fun c164 => ?_) (fun c164 => ?_)
                · exact mm_eqN c164 mm_km6 mm_k0 (by decide)
                · refine lv_iload_n hx hb dX11_lands_45 rfl (lv_at hl 0 rfl) ?_
                  subst hAe
                  rw [hQ]
                  exact W.iret (v := (-6)) hx hb hr (fun t ht hW => ⟨⟨(-6), (), rfl, (mm_wk mm_km6 (by decide)), by rw [ht]; exact hP, hK.warm hW, hD⟩, hS.F ht⟩) hS.2.2 dX11_lands_46
              · refine lv_istore_n (lv' := [(3, .int 0), (0, .ref a_0), (1, .int 2), (2, .int i_1)]) hx hb dX11_lands_40 rfl hl (by decide) rfl ?_
                clear hl
                clear ls
                intro ls hl
                refine lv_iload_n hx hb dX11_lands_41 rfl (lv_at hl 0 rfl) ?_
                refine lv_if_eq (tgt := 47) hx hb dX11_lands_42 (by decide) (fun c165 => ?_) (fun c165 => ?_)
                · refine lv_iconst (v := 0) hx hb dX11_lands_47 (by decide) ?_
                  refine lv_istore (lv' := [(4, .int 0), (3, .int 0), (0, .ref a_0), (1, .int 2), (2, .int i_1)]) hx hb dX11_lands_48 hl (by decide) rfl ?_
                  clear hl
                  clear ls
                  intro ls hl
                  refine lv_iconst (v := 0) hx hb dX11_lands_50 (by decide) ?_
                  refine lv_istore (lv' := [(5, .int 0), (4, .int 0), (3, .int 0), (0, .ref a_0), (1, .int 2), (2, .int i_1)]) hx hb dX11_lands_51 hl (by decide) rfl ?_
                  clear hl
                  clear ls
                  intro ls hl
                  have L53_220 : ∀ (n : Nat) (x53_5_219 : Int32) (x53_4_220 : Int32), mm_rg x53_5_219 0 3 → mm_rg x53_4_220 0 7 → (3 - x53_5_219.toInt).toNat < n → ∀ (H : Heap) (locs : List Loc), va_P G vwCl [(a_0, .inr (11, [.ref a_1, .ref a_2, .ref a_3, .ref a_4, .ref a_5, .ref a_6, .ref a_7, .ref a_8, .ref a_9, .ref a_10, .ref a_11])), (a_3, .inr (10, [.ref a_12, .ref a_13])), (a_12, .inr (0, [.int i_2, .int i_3, .int i_4, .int i_5, .int i_6, .int i_7, .int i_8, .int i_9, .ref a_14, .ref a_15, .ref a_16, .ref a_17, .ref a_18, .ref a_19, .ref a_20, .ref a_21, .ref a_22, .ref a_23])), (a_14, .inl (cy 1, 9, .inl f_0)), (a_15, .inl (cy 1, 9, .inl f_1)), (a_18, .inl (cy 1, 6, .inl f_2)), (a_19, .inl (cy 1, 48, .inl f_3)), (a_20, .inl (cy 1, 30, .inl f_4)), (a_13, .inl (cy 5, 3, .inr (.inr (.inr (.inr (va_up (va_up (va_up (fun _ => none) 0 (some a_24)) 1 (some a_25)) 2 (some a_26))))))), (a_24, .inr (1, [.ref a_27, .ref a_28, .int i_10, .int i_11, .int i_12])), (a_27, .inl (cy 1, 2100, .inl f_5)), (a_25, .inr (1, [.ref a_29, .ref a_30, .int i_13, .int i_14, .int i_15])), (a_29, .inl (cy 1, 2100, .inl f_6)), (a_26, .inr (1, [.ref a_31, .ref a_32, .int i_16, .int i_17, .int i_18])), (a_31, .inl (cy 1, 2100, .inl f_7)), (a_6, .inl (cy 6, 4, .inr (.inr (.inr (.inr (va_up (va_up (va_up (va_up (fun _ => none) 0 (some a_33)) 1 (some a_34)) 2 (some a_35)) 3 (some a_36))))))), (a_33, .inr (6, [.int i_19, .int i_20, .int i_21, .ref a_37])), (a_37, .inl (cy 2, 60, .inr (.inl f_8))), (a_34, .inr (6, [.int i_22, .int i_23, .int i_24, .ref a_38])), (a_38, .inl (cy 2, 60, .inr (.inl f_9))), (a_35, .inr (6, [.int i_25, .int i_26, .int i_27, .ref a_39])), (a_39, .inl (cy 2, 60, .inr (.inl f_10))), (a_36, .inr (6, [.int i_28, .int i_29, .int i_30, .ref a_40])), (a_40, .inl (cy 2, 60, .inr (.inl f_11))), (a_8, .inr (3, [.ref a_3, .ref a_7, .ref a_41, .int i_31]))] H → va_D A [(a_0, .inr (11, [.ref a_1, .ref a_2, .ref a_3, .ref a_4, .ref a_5, .ref a_6, .ref a_7, .ref a_8, .ref a_9, .ref a_10, .ref a_11])), (a_3, .inr (10, [.ref a_12, .ref a_13])), (a_12, .inr (0, [.int i_2, .int i_3, .int i_4, .int i_5, .int i_6, .int i_7, .int i_8, .int i_9, .ref a_14, .ref a_15, .ref a_16, .ref a_17, .ref a_18, .ref a_19, .ref a_20, .ref a_21, .ref a_22, .ref a_23])), (a_14, .inl (cy 1, 9, .inl f_0)), (a_15, .inl (cy 1, 9, .inl f_1)), (a_18, .inl (cy 1, 6, .inl f_2)), (a_19, .inl (cy 1, 48, .inl f_3)), (a_20, .inl (cy 1, 30, .inl f_4)), (a_13, .inl (cy 5, 3, .inr (.inr (.inr (.inr (va_up (va_up (va_up (fun _ => none) 0 (some a_24)) 1 (some a_25)) 2 (some a_26))))))), (a_24, .inr (1, [.ref a_27, .ref a_28, .int i_10, .int i_11, .int i_12])), (a_27, .inl (cy 1, 2100, .inl f_5)), (a_25, .inr (1, [.ref a_29, .ref a_30, .int i_13, .int i_14, .int i_15])), (a_29, .inl (cy 1, 2100, .inl f_6)), (a_26, .inr (1, [.ref a_31, .ref a_32, .int i_16, .int i_17, .int i_18])), (a_31, .inl (cy 1, 2100, .inl f_7)), (a_6, .inl (cy 6, 4, .inr (.inr (.inr (.inr (va_up (va_up (va_up (va_up (fun _ => none) 0 (some a_33)) 1 (some a_34)) 2 (some a_35)) 3 (some a_36))))))), (a_33, .inr (6, [.int i_19, .int i_20, .int i_21, .ref a_37])), (a_37, .inl (cy 2, 60, .inr (.inl f_8))), (a_34, .inr (6, [.int i_22, .int i_23, .int i_24, .ref a_38])), (a_38, .inl (cy 2, 60, .inr (.inl f_9))), (a_35, .inr (6, [.int i_25, .int i_26, .int i_27, .ref a_39])), (a_39, .inl (cy 2, 60, .inr (.inl f_10))), (a_36, .inr (6, [.int i_28, .int i_29, .int i_30, .ref a_40])), (a_40, .inl (cy 2, 60, .inr (.inl f_11))), (a_8, .inr (3, [.ref a_3, .ref a_7, .ref a_41, .int i_31]))] → va_S A s.heap H locs → ∀ (ls : Array Slot), lv_has ls 6 [(5, .int x53_5_219), (4, .int x53_4_220), (3, .int 0), (0, .ref a_0), (1, .int 2), (2, .int i_1)] → W p l e R s m args below meth c H locs 0 0 Q (F0 m 53 ls []) := by
                    intro n
                    induction n with
                    | zero => intro x53_5_219 x53_4_220 rx53_5_219 rx53_4_220 hm; exact absurd hm (Nat.not_lt_zero _)
                    | succ n ih53 =>
                      intro x53_5_219 x53_4_220 rx53_5_219 rx53_4_220 hm53 H locs hP hD hS ls hl
                      refine lv_iload hx hb dX11_lands_53 (lv_at hl 0 rfl) ?_
                      refine lv_aload_n hx hb dX11_lands_55 rfl (lv_at hl 3 rfl) ?_
                      refine va_get (D := G) (ci := 11) (v := .ref a_3) (C := RX11) (T := TX11) (N := 11) hx hb hts (mm_i inlX11) hown hK.1 hP 0 rfl rfl 2 (by decide) (mm_h hts mm_w24) (fun _ h9 => h9) rfl dX11_lands_56 ?_
                      refine va_get (D := G) (ci := 10) (v := .ref a_12) (C := RX10) (T := TX10) (N := 2) hx hb hts (mm_i inlX10) hown hK.1 hP 1 rfl rfl 0 (by decide) (mm_h hts mm_w199) (fun _ h9 => h9) rfl dX11_lands_59 ?_
                      refine va_get (D := G) (ci := 0) (v := .int i_7) (C := RX0) (T := TX0) (N := 18) hx hb hts (mm_i inlX0) hown hK.1 hP 2 rfl rfl 5 (by decide) (mm_h hts mm_w630) (fun _ h9 => h9) rfl dX11_lands_62 ?_
                      refine lv_icmp_ge (tgt := 102) hx hb dX11_lands_65 (by decide) (fun c222 => ?_) (fun c222 => ?_)
                      · refine lv_iload hx hb dX11_lands_102 (lv_at hl 1 rfl) ?_
                        subst hAe
                        rw [hQ]
                        exact W.iret (v := x53_4_220) hx hb hr (fun t ht hW => ⟨⟨x53_4_220, (), rfl, (mm_wk rx53_4_220 (by decide)), by rw [ht]; exact hP, hK.warm hW, hD⟩, hS.F ht⟩) hS.2.2 dX11_lands_104
                      · have q223 := mm_ltL (h := 2) (mm_nle c222) rx53_5_219 h2 (by decide)
                        have q224 := mm_ltR (lo := 1) (mm_nle c222) rx53_5_219 h2 (by decide)
                        refine lv_aload_n hx hb dX11_lands_68 rfl (lv_at hl 3 rfl) ?_
                        refine va_get (D := G) (ci := 11) (v := .ref a_8) (C := RX11) (T := TX11) (N := 11) hx hb hts (mm_i inlX11) hown hK.1 hP 0 rfl rfl 7 (by decide) (mm_h hts mm_w42) (fun _ h9 => h9) rfl dX11_lands_69 ?_
                        refine lv_aload_n hx hb dX11_lands_72 rfl (lv_at hl 3 rfl) ?_
                        refine va_get (D := G) (ci := 11) (v := .ref a_6) (C := RX11) (T := TX11) (N := 11) hx hb hts (mm_i inlX11) hown hK.1 hP 0 rfl rfl 5 (by decide) (mm_h hts mm_w32) (fun _ h9 => h9) rfl dX11_lands_73 ?_
                        refine lv_iload_n hx hb dX11_lands_76 rfl (lv_at hl 4 rfl) ?_
                        refine va_aldq hx hb hK.1 hP 15 6 rfl rfl (mm_in mm_k2 (by decide)) dX11_lands_77 ?_
                        refine W.eq (g2 := F0 m 78 ls [.ref a_35, .ref a_8]) rfl ?_
                        refine lv_iload hx hb dX11_lands_78 (lv_at hl 0 rfl) ?_
                        refine lv_iload_n hx hb dX11_lands_80 rfl (lv_at hl 5 rfl) ?_
                        refine mm_finir (va_runV (As := [.ref a_35, .int x53_5_219, .int i_1]) (rest := []) ⟨hx, hb, hml, hown, hts⟩ (K442_X3_fits l G cy H.size a_8 a_35 x53_5_219 i_1 a_3 a_12 a_13 i_2 i_3 i_4 i_5 i_6 i_7 i_8 i_9 a_14 a_15 a_16 a_17 a_18 a_19 a_20 a_21 a_22 a_23 f_0 f_1 f_2 f_3 f_4 a_24 a_25 a_26 a_27 a_28 i_10 i_11 i_12 f_5 a_29 a_30 i_13 i_14 i_15 f_6 a_31 a_32 i_16 i_17 i_18 f_7 i_25 i_26 i_27 a_39 f_10 a_7 a_41 i_31 q223 (mm_wk w9 (by decide)) h0 h1 h3 h4 h5 h6 h7 h8 h9 h10 h11 h12 h13 h14 h20 w162) (cwV 3 hts (mm_gV mm_w1339 mm_w1256 mm_w1257 mm_w41 mm_w1258) rfl rfl rfl hd_X3_fits ⟨by rw [hRf]; exact Nat.le_of_ble_eq_true rfl, by rw [hRl]; exact Nat.le_of_ble_eq_true rfl⟩) (mm_preV hK hZ hS hA hP hD [1, 2, 3, 4, 5, 6, 7, 8, 9, 10, 11, 12, 13, 14, 20, 21, 24] rfl rfl 24 rfl rfl rfl) rfl rfl hl.1 rfl (lv_room (Nat.le_of_ble_eq_true rfl)) dX11_lands_81 ⟨by rw [hRc]; exact Nat.le_of_ble_eq_true rfl, by rw [hRs]; exact Nat.le_of_ble_eq_true rfl⟩) hP hD hS hA [1, 2, 3, 4, 5, 6, 7, 8, 9, 10, 11, 12, 13, 14, 20, 21, 24] rfl (fun _ => rfl) ?_
                        clear hP hD hS
                        clear H locs
                        intro v225 _u H locs hw hP hD hS
                        rcases hw with rfl | rfl
                        · refine lv_if_eq (tgt := 96) hx hb dX11_lands_84 (by decide) (fun c226 => ?_) (fun c226 => ?_)
                          · obtain ⟨v227, ev227⟩ : ∃ y : Int32, y = x53_5_219 + 1 := ⟨_, rfl⟩
                            refine lv_iinc (v := v227) (lv' := [(5, .int v227), (4, .int x53_4_220), (3, .int 0), (0, .ref a_0), (1, .int 2), (2, .int i_1)]) hx hb dX11_lands_96 hl (k := 0) rfl (by rw [ev227]; rfl) (by decide) rfl ?_
                            clear hl
                            clear ls
                            intro ls hl
                            have rv227 : mm_rg v227 1 3 := mm_add ev227 q223 mm_k1 (by decide) (by decide)
                            have tv227 := mm_addEc ev227 q223 mm_k1 (by decide) (k := 1) (by decide)
                            refine lv_goto (tgt := 53) hx hb dX11_lands_99 (by decide) ?_
                            exact ih53 v227 x53_4_220 (mm_wk rv227 (by decide)) rx53_4_220 (mm_mu hm53 tv227 (by decide) (rv227).2 (by decide)) H locs hP hD hS ls (lv_sub hl [0, 1, 2, 3, 4, 5] rfl)
                          · have q228 := mm_neL (lo := 1) (mm_ne c226) mm_k0 mm_k0 (by decide) (by decide)
                            exact mm_no q228 (by decide)
                        · refine lv_if_eq (tgt := 96) hx hb dX11_lands_84 (by decide) (fun c229 => ?_) (fun c229 => ?_)
                          · exact mm_eqN c229.symm mm_k0 mm_k1 (by decide)
                          · refine lv_iload hx hb dX11_lands_87 (lv_at hl 1 rfl) ?_
                            refine lv_iconst (v := 1) hx hb dX11_lands_89 (by decide) ?_
                            refine lv_iload hx hb dX11_lands_90 (lv_at hl 0 rfl) ?_
                            refine lv_ishl hx hb dX11_lands_92 ?_
                            refine lv_topi (fun v230 ev230 => ?_)
                            have rv230 : mm_rg v230 1 4 := mm_shl1 ev230 q223 (by decide)
                            refine lv_ior hx hb dX11_lands_93 ?_
                            refine lv_topi (fun v231 ev231 => ?_)
                            have rv231 : mm_rg v231 0 7 := mm_or ev231 3 rx53_4_220 rv230 (by decide)
                            refine lv_istore (lv' := [(4, .int v231), (5, .int x53_5_219), (3, .int 0), (0, .ref a_0), (1, .int 2), (2, .int i_1)]) hx hb dX11_lands_94 hl (by decide) rfl ?_
                            clear hl
                            clear ls
                            intro ls hl
                            obtain ⟨v232, ev232⟩ : ∃ y : Int32, y = x53_5_219 + 1 := ⟨_, rfl⟩
                            refine lv_iinc (v := v232) (lv' := [(5, .int v232), (4, .int v231), (3, .int 0), (0, .ref a_0), (1, .int 2), (2, .int i_1)]) hx hb dX11_lands_96 hl (k := 1) rfl (by rw [ev232]; rfl) (by decide) rfl ?_
                            clear hl
                            clear ls
                            intro ls hl
                            have rv232 : mm_rg v232 1 3 := mm_add ev232 q223 mm_k1 (by decide) (by decide)
                            have tv232 := mm_addEc ev232 q223 mm_k1 (by decide) (k := 1) (by decide)
                            refine lv_goto (tgt := 53) hx hb dX11_lands_99 (by decide) ?_
                            exact ih53 v232 v231 (mm_wk rv232 (by decide)) rv231 (mm_mu hm53 tv232 (by decide) (rv232).2 (by decide)) H locs hP hD hS ls (lv_sub hl [0, 1, 2, 3, 4, 5] rfl)
                  exact L53_220 _ 0 0 (mm_wk mm_k0 (by decide)) (mm_wk mm_k0 (by decide)) (Nat.lt_succ_self _) H locs hP hD hS ls (lv_sub hl [0, 1, 2, 3, 4, 5] rfl)
                · have q233 := mm_neL (lo := 1) (mm_ne c165) mm_k0 mm_k0 (by decide) (by decide)
                  exact mm_no q233 (by decide)
            · refine W.eq (g2 := F0 m 37 ls [.ref a_36, .ref a_0]) rfl ?_
              refine mm_finir (va_runV (As := [.ref a_36]) (rest := []) ⟨hx, hb, hml, hown, hts⟩ (K440_X11_rowTrouble l G cy H.size a_0 a_36 a_1 a_2 a_3 a_4 a_5 a_6 a_7 a_8 a_9 a_10 a_11 a_12 a_13 i_2 i_3 i_4 i_5 i_6 i_7 i_8 i_9 a_14 a_15 a_16 a_17 a_18 a_19 a_20 a_21 a_22 a_23 i_28 i_29 i_30 a_40 f_11 a_41 i_31 h3 h21 h22) (cwV 1 hts (mm_gV mm_w1235 mm_w1236 mm_w1237 mm_w2 mm_w1238) rfl rfl rfl hd_X11_rowTrouble ⟨by rw [hRf]; exact Nat.le_of_ble_eq_true rfl, by rw [hRl]; exact Nat.le_of_ble_eq_true rfl⟩) (mm_preV hK hZ hS hA hP hD [0, 1, 2, 22, 23, 24] rfl rfl 0 rfl rfl rfl) rfl rfl hl.1 rfl (lv_room (Nat.le_of_ble_eq_true rfl)) dX11_lands_37 ⟨by rw [hRc]; exact Nat.le_of_ble_eq_true rfl, by rw [hRs]; exact Nat.le_of_ble_eq_true rfl⟩) hP hD hS hA [0, 1, 2, 22, 23, 24] rfl (fun _ => rfl) ?_
              clear hP hD hS
              clear H locs
              intro v234 _u H locs hw hP hD hS
              rcases hw with rfl | rfl | ⟨rfl, w235⟩
              · refine lv_istore_n (lv' := [(3, .int (-2)), (0, .ref a_0), (1, .int 3), (2, .int i_1)]) hx hb dX11_lands_40 rfl hl (by decide) rfl ?_
                clear hl
                clear ls
                intro ls hl
                refine lv_iload_n hx hb dX11_lands_41 rfl (lv_at hl 0 rfl) ?_
                refine lv_if_eq (tgt := 47) hx hb dX11_lands_42 (by decide) (fun c236 => ?_) (fun c236 => ?_)
                · exact mm_eqN c236 mm_km2 mm_k0 (by decide)
                · refine lv_iload_n hx hb dX11_lands_45 rfl (lv_at hl 0 rfl) ?_
                  subst hAe
                  rw [hQ]
                  exact W.iret (v := (-2)) hx hb hr (fun t ht hW => ⟨⟨(-2), (), rfl, (mm_wk mm_km2 (by decide)), by rw [ht]; exact hP, hK.warm hW, hD⟩, hS.F ht⟩) hS.2.2 dX11_lands_46
              · refine lv_istore_n (lv' := [(3, .int (-6)), (0, .ref a_0), (1, .int 3), (2, .int i_1)]) hx hb dX11_lands_40 rfl hl (by decide) rfl ?_
                clear hl
                clear ls
                intro ls hl
                refine lv_iload_n hx hb dX11_lands_41 rfl (lv_at hl 0 rfl) ?_
                refine lv_if_eq (tgt := 47) hx hb dX11_lands_42 (by decide) (fun c237 => ?_) (fun c237 => ?_)
                · exact mm_eqN c237 mm_km6 mm_k0 (by decide)
                · refine lv_iload_n hx hb dX11_lands_45 rfl (lv_at hl 0 rfl) ?_
                  subst hAe
                  rw [hQ]
                  exact W.iret (v := (-6)) hx hb hr (fun t ht hW => ⟨⟨(-6), (), rfl, (mm_wk mm_km6 (by decide)), by rw [ht]; exact hP, hK.warm hW, hD⟩, hS.F ht⟩) hS.2.2 dX11_lands_46
              · refine lv_istore_n (lv' := [(3, .int 0), (0, .ref a_0), (1, .int 3), (2, .int i_1)]) hx hb dX11_lands_40 rfl hl (by decide) rfl ?_
                clear hl
                clear ls
                intro ls hl
                refine lv_iload_n hx hb dX11_lands_41 rfl (lv_at hl 0 rfl) ?_
                refine lv_if_eq (tgt := 47) hx hb dX11_lands_42 (by decide) (fun c238 => ?_) (fun c238 => ?_)
                · refine lv_iconst (v := 0) hx hb dX11_lands_47 (by decide) ?_
                  refine lv_istore (lv' := [(4, .int 0), (3, .int 0), (0, .ref a_0), (1, .int 3), (2, .int i_1)]) hx hb dX11_lands_48 hl (by decide) rfl ?_
                  clear hl
                  clear ls
                  intro ls hl
                  refine lv_iconst (v := 0) hx hb dX11_lands_50 (by decide) ?_
                  refine lv_istore (lv' := [(5, .int 0), (4, .int 0), (3, .int 0), (0, .ref a_0), (1, .int 3), (2, .int i_1)]) hx hb dX11_lands_51 hl (by decide) rfl ?_
                  clear hl
                  clear ls
                  intro ls hl
                  have L53_293 : ∀ (n : Nat) (x53_5_292 : Int32) (x53_4_293 : Int32), mm_rg x53_5_292 0 3 → mm_rg x53_4_293 0 7 → (3 - x53_5_292.toInt).toNat < n → ∀ (H : Heap) (locs : List Loc), va_P G vwCl [(a_0, .inr (11, [.ref a_1, .ref a_2, .ref a_3, .ref a_4, .ref a_5, .ref a_6, .ref a_7, .ref a_8, .ref a_9, .ref a_10, .ref a_11])), (a_3, .inr (10, [.ref a_12, .ref a_13])), (a_12, .inr (0, [.int i_2, .int i_3, .int i_4, .int i_5, .int i_6, .int i_7, .int i_8, .int i_9, .ref a_14, .ref a_15, .ref a_16, .ref a_17, .ref a_18, .ref a_19, .ref a_20, .ref a_21, .ref a_22, .ref a_23])), (a_14, .inl (cy 1, 9, .inl f_0)), (a_15, .inl (cy 1, 9, .inl f_1)), (a_18, .inl (cy 1, 6, .inl f_2)), (a_19, .inl (cy 1, 48, .inl f_3)), (a_20, .inl (cy 1, 30, .inl f_4)), (a_13, .inl (cy 5, 3, .inr (.inr (.inr (.inr (va_up (va_up (va_up (fun _ => none) 0 (some a_24)) 1 (some a_25)) 2 (some a_26))))))), (a_24, .inr (1, [.ref a_27, .ref a_28, .int i_10, .int i_11, .int i_12])), (a_27, .inl (cy 1, 2100, .inl f_5)), (a_25, .inr (1, [.ref a_29, .ref a_30, .int i_13, .int i_14, .int i_15])), (a_29, .inl (cy 1, 2100, .inl f_6)), (a_26, .inr (1, [.ref a_31, .ref a_32, .int i_16, .int i_17, .int i_18])), (a_31, .inl (cy 1, 2100, .inl f_7)), (a_6, .inl (cy 6, 4, .inr (.inr (.inr (.inr (va_up (va_up (va_up (va_up (fun _ => none) 0 (some a_33)) 1 (some a_34)) 2 (some a_35)) 3 (some a_36))))))), (a_33, .inr (6, [.int i_19, .int i_20, .int i_21, .ref a_37])), (a_37, .inl (cy 2, 60, .inr (.inl f_8))), (a_34, .inr (6, [.int i_22, .int i_23, .int i_24, .ref a_38])), (a_38, .inl (cy 2, 60, .inr (.inl f_9))), (a_35, .inr (6, [.int i_25, .int i_26, .int i_27, .ref a_39])), (a_39, .inl (cy 2, 60, .inr (.inl f_10))), (a_36, .inr (6, [.int i_28, .int i_29, .int i_30, .ref a_40])), (a_40, .inl (cy 2, 60, .inr (.inl f_11))), (a_8, .inr (3, [.ref a_3, .ref a_7, .ref a_41, .int i_31]))] H → va_D A [(a_0, .inr (11, [.ref a_1, .ref a_2, .ref a_3, .ref a_4, .ref a_5, .ref a_6, .ref a_7, .ref a_8, .ref a_9, .ref a_10, .ref a_11])), (a_3, .inr (10, [.ref a_12, .ref a_13])), (a_12, .inr (0, [.int i_2, .int i_3, .int i_4, .int i_5, .int i_6, .int i_7, .int i_8, .int i_9, .ref a_14, .ref a_15, .ref a_16, .ref a_17, .ref a_18, .ref a_19, .ref a_20, .ref a_21, .ref a_22, .ref a_23])), (a_14, .inl (cy 1, 9, .inl f_0)), (a_15, .inl (cy 1, 9, .inl f_1)), (a_18, .inl (cy 1, 6, .inl f_2)), (a_19, .inl (cy 1, 48, .inl f_3)), (a_20, .inl (cy 1, 30, .inl f_4)), (a_13, .inl (cy 5, 3, .inr (.inr (.inr (.inr (va_up (va_up (va_up (fun _ => none) 0 (some a_24)) 1 (some a_25)) 2 (some a_26))))))), (a_24, .inr (1, [.ref a_27, .ref a_28, .int i_10, .int i_11, .int i_12])), (a_27, .inl (cy 1, 2100, .inl f_5)), (a_25, .inr (1, [.ref a_29, .ref a_30, .int i_13, .int i_14, .int i_15])), (a_29, .inl (cy 1, 2100, .inl f_6)), (a_26, .inr (1, [.ref a_31, .ref a_32, .int i_16, .int i_17, .int i_18])), (a_31, .inl (cy 1, 2100, .inl f_7)), (a_6, .inl (cy 6, 4, .inr (.inr (.inr (.inr (va_up (va_up (va_up (va_up (fun _ => none) 0 (some a_33)) 1 (some a_34)) 2 (some a_35)) 3 (some a_36))))))), (a_33, .inr (6, [.int i_19, .int i_20, .int i_21, .ref a_37])), (a_37, .inl (cy 2, 60, .inr (.inl f_8))), (a_34, .inr (6, [.int i_22, .int i_23, .int i_24, .ref a_38])), (a_38, .inl (cy 2, 60, .inr (.inl f_9))), (a_35, .inr (6, [.int i_25, .int i_26, .int i_27, .ref a_39])), (a_39, .inl (cy 2, 60, .inr (.inl f_10))), (a_36, .inr (6, [.int i_28, .int i_29, .int i_30, .ref a_40])), (a_40, .inl (cy 2, 60, .inr (.inl f_11))), (a_8, .inr (3, [.ref a_3, .ref a_7, .ref a_41, .int i_31]))] → va_S A s.heap H locs → ∀ (ls : Array Slot), lv_has ls 6 [(5, .int x53_5_292), (4, .int x53_4_293), (3, .int 0), (0, .ref a_0), (1, .int 3), (2, .int i_1)] → W p l e R s m args below meth c H locs 0 0 Q (F0 m 53 ls []) := by
                    intro n
                    induction n with
                    | zero => intro x53_5_292 x53_4_293 rx53_5_292 rx53_4_293 hm; exact absurd hm (Nat.not_lt_zero _)
                    | succ n ih53 =>
                      intro x53_5_292 x53_4_293 rx53_5_292 rx53_4_293 hm53 H locs hP hD hS ls hl
                      refine lv_iload hx hb dX11_lands_53 (lv_at hl 0 rfl) ?_
                      refine lv_aload_n hx hb dX11_lands_55 rfl (lv_at hl 3 rfl) ?_
                      refine va_get (D := G) (ci := 11) (v := .ref a_3) (C := RX11) (T := TX11) (N := 11) hx hb hts (mm_i inlX11) hown hK.1 hP 0 rfl rfl 2 (by decide) (mm_h hts mm_w24) (fun _ h9 => h9) rfl dX11_lands_56 ?_
                      refine va_get (D := G) (ci := 10) (v := .ref a_12) (C := RX10) (T := TX10) (N := 2) hx hb hts (mm_i inlX10) hown hK.1 hP 1 rfl rfl 0 (by decide) (mm_h hts mm_w199) (fun _ h9 => h9) rfl dX11_lands_59 ?_
                      refine va_get (D := G) (ci := 0) (v := .int i_7) (C := RX0) (T := TX0) (N := 18) hx hb hts (mm_i inlX0) hown hK.1 hP 2 rfl rfl 5 (by decide) (mm_h hts mm_w630) (fun _ h9 => h9) rfl dX11_lands_62 ?_
                      refine lv_icmp_ge (tgt := 102) hx hb dX11_lands_65 (by decide) (fun c295 => ?_) (fun c295 => ?_)
                      · refine lv_iload hx hb dX11_lands_102 (lv_at hl 1 rfl) ?_
                        subst hAe
                        rw [hQ]
                        exact W.iret (v := x53_4_293) hx hb hr (fun t ht hW => ⟨⟨x53_4_293, (), rfl, (mm_wk rx53_4_293 (by decide)), by rw [ht]; exact hP, hK.warm hW, hD⟩, hS.F ht⟩) hS.2.2 dX11_lands_104
                      · have q296 := mm_ltL (h := 2) (mm_nle c295) rx53_5_292 h2 (by decide)
                        have q297 := mm_ltR (lo := 1) (mm_nle c295) rx53_5_292 h2 (by decide)
                        refine lv_aload_n hx hb dX11_lands_68 rfl (lv_at hl 3 rfl) ?_
                        refine va_get (D := G) (ci := 11) (v := .ref a_8) (C := RX11) (T := TX11) (N := 11) hx hb hts (mm_i inlX11) hown hK.1 hP 0 rfl rfl 7 (by decide) (mm_h hts mm_w42) (fun _ h9 => h9) rfl dX11_lands_69 ?_
                        refine lv_aload_n hx hb dX11_lands_72 rfl (lv_at hl 3 rfl) ?_
                        refine va_get (D := G) (ci := 11) (v := .ref a_6) (C := RX11) (T := TX11) (N := 11) hx hb hts (mm_i inlX11) hown hK.1 hP 0 rfl rfl 5 (by decide) (mm_h hts mm_w32) (fun _ h9 => h9) rfl dX11_lands_73 ?_
                        refine lv_iload_n hx hb dX11_lands_76 rfl (lv_at hl 4 rfl) ?_
                        refine va_aldq hx hb hK.1 hP 15 6 rfl rfl (mm_in mm_k3 (by decide)) dX11_lands_77 ?_
                        refine W.eq (g2 := F0 m 78 ls [.ref a_36, .ref a_8]) rfl ?_
                        refine lv_iload hx hb dX11_lands_78 (lv_at hl 0 rfl) ?_
                        refine lv_iload_n hx hb dX11_lands_80 rfl (lv_at hl 5 rfl) ?_
                        refine mm_finir (va_runV (As := [.ref a_36, .int x53_5_292, .int i_1]) (rest := []) ⟨hx, hb, hml, hown, hts⟩ (K442_X3_fits l G cy H.size a_8 a_36 x53_5_292 i_1 a_3 a_12 a_13 i_2 i_3 i_4 i_5 i_6 i_7 i_8 i_9 a_14 a_15 a_16 a_17 a_18 a_19 a_20 a_21 a_22 a_23 f_0 f_1 f_2 f_3 f_4 a_24 a_25 a_26 a_27 a_28 i_10 i_11 i_12 f_5 a_29 a_30 i_13 i_14 i_15 f_6 a_31 a_32 i_16 i_17 i_18 f_7 i_28 i_29 i_30 a_40 f_11 a_7 a_41 i_31 q296 (mm_wk w9 (by decide)) h0 h1 h3 h4 h5 h6 h7 h8 h9 h10 h11 h12 h13 h14 h22 w235) (cwV 3 hts (mm_gV mm_w1339 mm_w1256 mm_w1257 mm_w41 mm_w1258) rfl rfl rfl hd_X3_fits ⟨by rw [hRf]; exact Nat.le_of_ble_eq_true rfl, by rw [hRl]; exact Nat.le_of_ble_eq_true rfl⟩) (mm_preV hK hZ hS hA hP hD [1, 2, 3, 4, 5, 6, 7, 8, 9, 10, 11, 12, 13, 14, 22, 23, 24] rfl rfl 24 rfl rfl rfl) rfl rfl hl.1 rfl (lv_room (Nat.le_of_ble_eq_true rfl)) dX11_lands_81 ⟨by rw [hRc]; exact Nat.le_of_ble_eq_true rfl, by rw [hRs]; exact Nat.le_of_ble_eq_true rfl⟩) hP hD hS hA [1, 2, 3, 4, 5, 6, 7, 8, 9, 10, 11, 12, 13, 14, 22, 23, 24] rfl (fun _ => rfl) ?_
                        clear hP hD hS
                        clear H locs
                        intro v298 _u H locs hw hP hD hS
                        rcases hw with rfl | rfl
                        · refine lv_if_eq (tgt := 96) hx hb dX11_lands_84 (by decide) (fun c299 => ?_) (fun c299 => ?_)
                          · obtain ⟨v300, ev300⟩ : ∃ y : Int32, y = x53_5_292 + 1 := ⟨_, rfl⟩
                            refine lv_iinc (v := v300) (lv' := [(5, .int v300), (4, .int x53_4_293), (3, .int 0), (0, .ref a_0), (1, .int 3), (2, .int i_1)]) hx hb dX11_lands_96 hl (k := 0) rfl (by rw [ev300]; rfl) (by decide) rfl ?_
                            clear hl
                            clear ls
                            intro ls hl
                            have rv300 : mm_rg v300 1 3 := mm_add ev300 q296 mm_k1 (by decide) (by decide)
                            have tv300 := mm_addEc ev300 q296 mm_k1 (by decide) (k := 1) (by decide)
                            refine lv_goto (tgt := 53) hx hb dX11_lands_99 (by decide) ?_
                            exact ih53 v300 x53_4_293 (mm_wk rv300 (by decide)) rx53_4_293 (mm_mu hm53 tv300 (by decide) (rv300).2 (by decide)) H locs hP hD hS ls (lv_sub hl [0, 1, 2, 3, 4, 5] rfl)
                          · have q301 := mm_neL (lo := 1) (mm_ne c299) mm_k0 mm_k0 (by decide) (by decide)
                            exact mm_no q301 (by decide)
                        · refine lv_if_eq (tgt := 96) hx hb dX11_lands_84 (by decide) (fun c302 => ?_) (fun c302 => ?_)
                          · exact mm_eqN c302.symm mm_k0 mm_k1 (by decide)
                          · refine lv_iload hx hb dX11_lands_87 (lv_at hl 1 rfl) ?_
                            refine lv_iconst (v := 1) hx hb dX11_lands_89 (by decide) ?_
                            refine lv_iload hx hb dX11_lands_90 (lv_at hl 0 rfl) ?_
                            refine lv_ishl hx hb dX11_lands_92 ?_
                            refine lv_topi (fun v303 ev303 => ?_)
                            have rv303 : mm_rg v303 1 4 := mm_shl1 ev303 q296 (by decide)
                            refine lv_ior hx hb dX11_lands_93 ?_
                            refine lv_topi (fun v304 ev304 => ?_)
                            have rv304 : mm_rg v304 0 7 := mm_or ev304 3 rx53_4_293 rv303 (by decide)
                            refine lv_istore (lv' := [(4, .int v304), (5, .int x53_5_292), (3, .int 0), (0, .ref a_0), (1, .int 3), (2, .int i_1)]) hx hb dX11_lands_94 hl (by decide) rfl ?_
                            clear hl
                            clear ls
                            intro ls hl
                            obtain ⟨v305, ev305⟩ : ∃ y : Int32, y = x53_5_292 + 1 := ⟨_, rfl⟩
                            refine lv_iinc (v := v305) (lv' := [(5, .int v305), (4, .int v304), (3, .int 0), (0, .ref a_0), (1, .int 3), (2, .int i_1)]) hx hb dX11_lands_96 hl (k := 1) rfl (by rw [ev305]; rfl) (by decide) rfl ?_
                            clear hl
                            clear ls
                            intro ls hl
                            have rv305 : mm_rg v305 1 3 := mm_add ev305 q296 mm_k1 (by decide) (by decide)
                            have tv305 := mm_addEc ev305 q296 mm_k1 (by decide) (k := 1) (by decide)
                            refine lv_goto (tgt := 53) hx hb dX11_lands_99 (by decide) ?_
                            exact ih53 v305 v304 (mm_wk rv305 (by decide)) rv304 (mm_mu hm53 tv305 (by decide) (rv305).2 (by decide)) H locs hP hD hS ls (lv_sub hl [0, 1, 2, 3, 4, 5] rfl)
                  exact L53_293 _ 0 0 (mm_wk mm_k0 (by decide)) (mm_wk mm_k0 (by decide)) (Nat.lt_succ_self _) H locs hP hD hS ls (lv_sub hl [0, 1, 2, 3, 4, 5] rfl)
                · have q306 := mm_neL (lo := 1) (mm_ne c238) mm_k0 mm_k0 (by decide) (by decide)
                  exact mm_no q306 (by decide)
          · have q307 := mm_eqI (lo := 0) (hi := 0) c13 (mm_top i_2) mm_k0 (by decide)
            refine lv_bipush (v := (-2)) hx hb dX11_lands_27 (by decide) ?_
            subst hAe
            rw [hQ]
            exact W.iret (v := (-2)) hx hb hr (fun t ht hW => ⟨⟨(-2), (), rfl, (mm_wk mm_km2 (by decide)), by rw [ht]; exact hP, hK.warm hW, hD⟩, hS.F ht⟩) hS.2.2 dX11_lands_29

set_option maxHeartbeats 4000000 in
set_option maxRecDepth 100000 in
theorem K454_X11_isTask (l : Launch) (G : va_G) (cy : Nat → ClassId) (sz : Nat) (a_0 : Nat) (i_0 : Int32) (i_1 : Int32) (i_2 : Int32) (i_3 : Int32) (a_1 : Nat) (a_2 : Nat) (a_3 : Nat) (a_4 : Nat) (a_5 : Nat) (a_6 : Nat) (a_7 : Nat) (a_8 : Nat) (a_9 : Nat) (a_10 : Nat) (a_11 : Nat) (a_12 : Nat) (a_13 : Nat) (i_4 : Int32) (i_5 : Int32) (i_6 : Int32) (i_7 : Int32) (i_8 : Int32) (i_9 : Int32) (i_10 : Int32) (i_11 : Int32) (a_14 : Nat) (a_15 : Nat) (a_16 : Nat) (a_17 : Nat) (a_18 : Nat) (a_19 : Nat) (a_20 : Nat) (a_21 : Nat) (a_22 : Nat) (a_23 : Nat) (h0 : mm_rg i_9 0 3)  : mm_CI l yX11_isTask (mm_ws yX11_isTask cX11_isTask 5 (some .boolean)) ({ frames := 1, cells := 0, slots := 0, locals := 21 } : Room) G cy sz [(a_0, .inr (11, [.ref a_1, .ref a_2, .ref a_3, .ref a_4, .ref a_5, .ref a_6, .ref a_7, .ref a_8, .ref a_9, .ref a_10, .ref a_11])), (a_3, .inr (10, [.ref a_12, .ref a_13])), (a_12, .inr (0, [.int i_4, .int i_5, .int i_6, .int i_7, .int i_8, .int i_9, .int i_10, .int i_11, .ref a_14, .ref a_15, .ref a_16, .ref a_17, .ref a_18, .ref a_19, .ref a_20, .ref a_21, .ref a_22, .ref a_23]))] [.ref a_0, .int i_0, .int i_1, .int i_2, .int i_3] (fun u : Unit => [(a_0, .inr (11, [.ref a_1, .ref a_2, .ref a_3, .ref a_4, .ref a_5, .ref a_6, .ref a_7, .ref a_8, .ref a_9, .ref a_10, .ref a_11])), (a_3, .inr (10, [.ref a_12, .ref a_13])), (a_12, .inr (0, [.int i_4, .int i_5, .int i_6, .int i_7, .int i_8, .int i_9, .int i_10, .int i_11, .ref a_14, .ref a_15, .ref a_16, .ref a_17, .ref a_18, .ref a_19, .ref a_20, .ref a_21, .ref a_22, .ref a_23]))]) (fun (r : Int32) (u : Unit) => ((0 = r) ∨ (1 = r ∧ mm_rg i_0 0 2 ∧ mm_rg i_1 0 1000000000 ∧ mm_rg i_2 1 7 ∧ mm_rg i_3 0 9999))) 0 0 := by
  refine mm_begin (lv := [(0, .ref a_0), (1, .int i_0), (2, .int i_1), (3, .int i_2), (4, .int i_3)]) (by decide) (Nat.le_of_ble_eq_true rfl) rfl ?_
  intro p e s m below meth c A ls R args Q H locs hRe hQ hAe hx hb hr hlocks hml hown hnm hts hsz hA hS hP hK hD hZ hl
  have hRf : R.frames = 1 := by rw [hRe]
  have hRl : R.locals = 21 := by rw [hRe]
  have hRc : R.cells = 0 := by rw [hRe]
  have hRs : R.slots = 0 := by rw [hRe]
  refine lv_aload_n hx hb dX11_isTask_0 rfl (lv_at hl 0 rfl) ?_
  refine lv_iload_n hx hb dX11_isTask_1 rfl (lv_at hl 1 rfl) ?_
  refine mm_finir (va_runV (As := [.int i_0]) (rest := []) ⟨hx, hb, hml, hown, hts⟩ (K350_X11_isLand l G cy H.size a_0 i_0 a_1 a_2 a_3 a_4 a_5 a_6 a_7 a_8 a_9 a_10 a_11 a_12 a_13 i_4 i_5 i_6 i_7 i_8 i_9 i_10 i_11 a_14 a_15 a_16 a_17 a_18 a_19 a_20 a_21 a_22 a_23 h0) (cwV 1 hts (mm_gV mm_w626 mm_w627 mm_w628 mm_w2 mm_w629) rfl rfl rfl hd_X11_isLand ⟨by rw [hRf]; exact Nat.le_of_ble_eq_true rfl, by rw [hRl]; exact Nat.le_of_ble_eq_true rfl⟩) (mm_preV hK hZ hS hA hP hD [0, 1, 2] rfl rfl 0 rfl rfl rfl) rfl rfl hl.1 rfl (lv_room (Nat.le_of_ble_eq_true rfl)) dX11_isTask_2 ⟨by rw [hRc]; exact Nat.le_of_ble_eq_true rfl, by rw [hRs]; exact Nat.le_of_ble_eq_true rfl⟩) hP hD hS hA [0, 1, 2] rfl (fun _ => rfl) ?_
  clear hP hD hS
  clear H locs
  intro v1 _u H locs hw hP hD hS
  rcases hw with ⟨rfl, w2⟩ | ⟨rfl, w3⟩
  · refine lv_if_eq (tgt := 38) hx hb dX11_isTask_5 (by decide) (fun c4 => ?_) (fun c4 => ?_)
    · refine lv_iconst (v := 0) hx hb dX11_isTask_38 (by decide) ?_
      subst hAe
      rw [hQ]
      exact W.zret (v := 0) hx hb hr rfl (fun t ht hW => ⟨⟨0, (), rfl, (Or.inl rfl), by rw [ht]; exact hP, hK.warm hW, hD⟩, hS.F ht⟩) hS.2.2 dX11_isTask_39
    · have q5 := mm_neL (lo := 1) (mm_ne c4) mm_k0 mm_k0 (by decide) (by decide)
      exact mm_no q5 (by decide)
  · refine lv_if_eq (tgt := 38) hx hb dX11_isTask_5 (by decide) (fun c6 => ?_) (fun c6 => ?_)
    · exact mm_eqN c6.symm mm_k0 mm_k1 (by decide)
    · refine lv_iload_n hx hb dX11_isTask_8 rfl (lv_at hl 2 rfl) ?_
      refine mm_finir (va_runS (As := [.int i_1]) (rest := []) ⟨hx, hb, hml, hown, hts⟩ (K353_X11_isDay l G cy H.size i_1 ) (va_cwS 1 hts (mm_gS mm_w661 mm_w662 mm_w2 mm_w663) rfl rfl rfl hs_X11_isDay ⟨by rw [hRf]; exact Nat.le_of_ble_eq_true rfl, by rw [hRl]; exact Nat.le_of_ble_eq_true rfl⟩) (mm_preS hK hZ hS hA hP hD [] rfl rfl) rfl rfl hl.1 rfl (lv_room (Nat.le_of_ble_eq_true rfl)) dX11_isTask_9 ⟨by rw [hRc]; exact Nat.le_of_ble_eq_true rfl, by rw [hRs]; exact Nat.le_of_ble_eq_true rfl⟩) hP hD hS hA [] rfl (fun _ => rfl) ?_
      clear hP hD hS
      clear H locs
      intro v7 _u H locs hw hP hD hS
      rcases hw with ⟨rfl, w8⟩ | ⟨rfl, w9⟩
      · refine lv_if_eq (tgt := 38) hx hb dX11_isTask_12 (by decide) (fun c10 => ?_) (fun c10 => ?_)
        · refine lv_iconst (v := 0) hx hb dX11_isTask_38 (by decide) ?_
          subst hAe
          rw [hQ]
          exact W.zret (v := 0) hx hb hr rfl (fun t ht hW => ⟨⟨0, (), rfl, (Or.inl rfl), by rw [ht]; exact hP, hK.warm hW, hD⟩, hS.F ht⟩) hS.2.2 dX11_isTask_39
        · have q11 := mm_neL (lo := 1) (mm_ne c10) mm_k0 mm_k0 (by decide) (by decide)
          exact mm_no q11 (by decide)
      · refine lv_if_eq (tgt := 38) hx hb dX11_isTask_12 (by decide) (fun c12 => ?_) (fun c12 => ?_)
        · exact mm_eqN c12.symm mm_k0 mm_k1 (by decide)
        · refine lv_iload_n hx hb dX11_isTask_15 rfl (lv_at hl 3 rfl) ?_
          refine lv_iconst (v := 1) hx hb dX11_isTask_16 (by decide) ?_
          refine lv_icmp_lt (tgt := 38) hx hb dX11_isTask_17 (by decide) (fun c13 => ?_) (fun c13 => ?_)
          · have q14 := mm_ltL (h := 0) (mm_lt c13) (mm_top i_2) mm_k1 (by decide)
            refine lv_iconst (v := 0) hx hb dX11_isTask_38 (by decide) ?_
            subst hAe
            rw [hQ]
            exact W.zret (v := 0) hx hb hr rfl (fun t ht hW => ⟨⟨0, (), rfl, (Or.inl rfl), by rw [ht]; exact hP, hK.warm hW, hD⟩, hS.F ht⟩) hS.2.2 dX11_isTask_39
          · have q15 := mm_leR (mm_nlt c13) mm_k1 (mm_top i_2)
            refine lv_iload_n hx hb dX11_isTask_20 rfl (lv_at hl 3 rfl) ?_
            refine lv_bipush (v := 7) hx hb dX11_isTask_21 (by decide) ?_
            refine lv_icmp_gt (tgt := 38) hx hb dX11_isTask_23 (by decide) (fun c16 => ?_) (fun c16 => ?_)
            · have q17 := mm_ltR (lo := 8) (mm_lt c16) mm_k7 q15 (by decide)
              refine lv_iconst (v := 0) hx hb dX11_isTask_38 (by decide) ?_
              subst hAe
              rw [hQ]
              exact W.zret (v := 0) hx hb hr rfl (fun t ht hW => ⟨⟨0, (), rfl, (Or.inl rfl), by rw [ht]; exact hP, hK.warm hW, hD⟩, hS.F ht⟩) hS.2.2 dX11_isTask_39
            · have q18 := mm_leL (mm_nlt c16) q15 mm_k7
              refine lv_iload hx hb dX11_isTask_26 (lv_at hl 4 rfl) ?_
              refine mm_finir (va_runS (As := [.int i_3]) (rest := []) ⟨hx, hb, hml, hown, hts⟩ (K382_X11_isStock l G cy H.size i_3 ) (va_cwS 1 hts (mm_gS mm_w915 mm_w916 mm_w2 mm_w917) rfl rfl rfl hs_X11_isStock ⟨by rw [hRf]; exact Nat.le_of_ble_eq_true rfl, by rw [hRl]; exact Nat.le_of_ble_eq_true rfl⟩) (mm_preS hK hZ hS hA hP hD [] rfl rfl) rfl rfl hl.1 rfl (lv_room (Nat.le_of_ble_eq_true rfl)) dX11_isTask_28 ⟨by rw [hRc]; exact Nat.le_of_ble_eq_true rfl, by rw [hRs]; exact Nat.le_of_ble_eq_true rfl⟩) hP hD hS hA [] rfl (fun _ => rfl) ?_
              clear hP hD hS
              clear H locs
              intro v19 _u H locs hw hP hD hS
              rcases hw with ⟨rfl, w20⟩ | ⟨rfl, w21⟩
              · refine lv_if_eq (tgt := 38) hx hb dX11_isTask_31 (by decide) (fun c22 => ?_) (fun c22 => ?_)
                · refine lv_iconst (v := 0) hx hb dX11_isTask_38 (by decide) ?_
                  subst hAe
                  rw [hQ]
                  exact W.zret (v := 0) hx hb hr rfl (fun t ht hW => ⟨⟨0, (), rfl, (Or.inl rfl), by rw [ht]; exact hP, hK.warm hW, hD⟩, hS.F ht⟩) hS.2.2 dX11_isTask_39
                · have q23 := mm_neL (lo := 1) (mm_ne c22) mm_k0 mm_k0 (by decide) (by decide)
                  exact mm_no q23 (by decide)
              · refine lv_if_eq (tgt := 38) hx hb dX11_isTask_31 (by decide) (fun c24 => ?_) (fun c24 => ?_)
                · exact mm_eqN c24.symm mm_k0 mm_k1 (by decide)
                · refine lv_iconst (v := 1) hx hb dX11_isTask_34 (by decide) ?_
                  refine lv_goto (tgt := 39) hx hb dX11_isTask_35 (by decide) ?_
                  subst hAe
                  rw [hQ]
                  exact W.zret (v := 1) hx hb hr rfl (fun t ht hW => ⟨⟨1, (), rfl, (Or.inr ⟨rfl, w3, w9, q18, w21⟩), by rw [ht]; exact hP, hK.warm hW, hD⟩, hS.F ht⟩) hS.2.2 dX11_isTask_39

set_option maxHeartbeats 4000000 in
set_option maxRecDepth 100000 in
theorem K462_X4_leavesWanted (l : Launch) (G : va_G) (cy : Nat → ClassId) (sz : Nat) (a_0 : Nat) (i_0 : Int32) (a_1 : Nat) (a_2 : Nat) (a_3 : Nat) (i_1 : Int32) (i_2 : Int32) (i_3 : Int32) (i_4 : Int32) (i_5 : Int32) (i_6 : Int32) (i_7 : Int32) (i_8 : Int32) (a_4 : Nat) (a_5 : Nat) (a_6 : Nat) (a_7 : Nat) (a_8 : Nat) (a_9 : Nat) (a_10 : Nat) (a_11 : Nat) (a_12 : Nat) (a_13 : Nat) (f_0 : Nat → Int32) (f_1 : Nat → Int32) (a_14 : Nat) (a_15 : Nat) (a_16 : Nat) (a_17 : Nat) (i_9 : Int32) (i_10 : Int32) (i_11 : Int32) (i_12 : Int32) (f_2 : Nat → Int32) (f_3 : Nat → Int32) (h0 : mm_rg i_0 0 9) (h1 : mm_rg i_5 0 9) (h2 : mm_ar f_0 (-1) 4) (h3 : mm_ar f_1 0 99) (h4 : mm_rg i_9 0 7) (h5 : mm_ar f_2 0 9)  : mm_CI l yX4_leavesWanted (mm_ws yX4_leavesWanted cX4_leavesWanted 4 (some .boolean)) ({ frames := 2, cells := 0, slots := 0, locals := 62 } : Room) G cy sz [(a_1, .inr (10, [.ref a_2, .ref a_3])), (a_2, .inr (0, [.int i_1, .int i_2, .int i_3, .int i_4, .int i_5, .int i_6, .int i_7, .int i_8, .ref a_4, .ref a_5, .ref a_6, .ref a_7, .ref a_8, .ref a_9, .ref a_10, .ref a_11, .ref a_12, .ref a_13])), (a_4, .inl (cy 1, 9, .inl f_0)), (a_5, .inl (cy 1, 9, .inl f_1)), (a_0, .inr (4, [.ref a_1, .ref a_14, .ref a_15, .ref a_16, .ref a_17, .int i_9, .int i_10, .int i_11, .int i_12])), (a_14, .inl (cy 1, 70, .inl f_2)), (a_15, .inl (cy 1, 7, .inl f_3))] [.ref a_0, .int i_0] (fun u : Unit => [(a_1, .inr (10, [.ref a_2, .ref a_3])), (a_2, .inr (0, [.int i_1, .int i_2, .int i_3, .int i_4, .int i_5, .int i_6, .int i_7, .int i_8, .ref a_4, .ref a_5, .ref a_6, .ref a_7, .ref a_8, .ref a_9, .ref a_10, .ref a_11, .ref a_12, .ref a_13])), (a_4, .inl (cy 1, 9, .inl f_0)), (a_5, .inl (cy 1, 9, .inl f_1)), (a_0, .inr (4, [.ref a_1, .ref a_14, .ref a_15, .ref a_16, .ref a_17, .int i_9, .int i_10, .int i_11, .int i_12])), (a_14, .inl (cy 1, 70, .inl f_2)), (a_15, .inl (cy 1, 7, .inl f_3))]) (fun (r : Int32) (u : Unit) => ((0 = r) ∨ (1 = r))) 0 0 := by
  refine mm_begin (lv := [(0, .ref a_0), (1, .int i_0)]) (by decide) (Nat.le_of_ble_eq_true rfl) rfl ?_
  intro p e s m below meth c A ls R args Q H locs hRe hQ hAe hx hb hr hlocks hml hown hnm hts hsz hA hS hP hK hD hZ hl
  have hRf : R.frames = 2 := by rw [hRe]
  have hRl : R.locals = 62 := by rw [hRe]
  have hRc : R.cells = 0 := by rw [hRe]
  have hRs : R.slots = 0 := by rw [hRe]
  refine lv_iconst (v := 0) hx hb dX4_leavesWanted_0 (by decide) ?_
  refine lv_istore_n (lv' := [(2, .int 0), (0, .ref a_0), (1, .int i_0)]) hx hb dX4_leavesWanted_1 rfl hl (by decide) rfl ?_
  clear hl
  clear ls
  intro ls hl
  have L2_99 : ∀ (n : Nat) (x2_2_99 : Int32), mm_rg x2_2_99 0 7 → (7 - x2_2_99.toInt).toNat < n → ∀ (H : Heap) (locs : List Loc), va_P G vwCl [(a_1, .inr (10, [.ref a_2, .ref a_3])), (a_2, .inr (0, [.int i_1, .int i_2, .int i_3, .int i_4, .int i_5, .int i_6, .int i_7, .int i_8, .ref a_4, .ref a_5, .ref a_6, .ref a_7, .ref a_8, .ref a_9, .ref a_10, .ref a_11, .ref a_12, .ref a_13])), (a_4, .inl (cy 1, 9, .inl f_0)), (a_5, .inl (cy 1, 9, .inl f_1)), (a_0, .inr (4, [.ref a_1, .ref a_14, .ref a_15, .ref a_16, .ref a_17, .int i_9, .int i_10, .int i_11, .int i_12])), (a_14, .inl (cy 1, 70, .inl f_2)), (a_15, .inl (cy 1, 7, .inl f_3))] H → va_D A [(a_1, .inr (10, [.ref a_2, .ref a_3])), (a_2, .inr (0, [.int i_1, .int i_2, .int i_3, .int i_4, .int i_5, .int i_6, .int i_7, .int i_8, .ref a_4, .ref a_5, .ref a_6, .ref a_7, .ref a_8, .ref a_9, .ref a_10, .ref a_11, .ref a_12, .ref a_13])), (a_4, .inl (cy 1, 9, .inl f_0)), (a_5, .inl (cy 1, 9, .inl f_1)), (a_0, .inr (4, [.ref a_1, .ref a_14, .ref a_15, .ref a_16, .ref a_17, .int i_9, .int i_10, .int i_11, .int i_12])), (a_14, .inl (cy 1, 70, .inl f_2)), (a_15, .inl (cy 1, 7, .inl f_3))] → va_S A s.heap H locs → ∀ (ls : Array Slot), lv_has ls 4 [(2, .int x2_2_99), (0, .ref a_0), (1, .int i_0)] → W p l e R s m args below meth c H locs 0 0 Q (F0 m 2 ls []) := by
    intro n
    induction n with
    | zero => intro x2_2_99 rx2_2_99 hm; exact absurd hm (Nat.not_lt_zero _)
    | succ n ih2 =>
      intro x2_2_99 rx2_2_99 hm2 H locs hP hD hS ls hl
      refine lv_iload_n hx hb dX4_leavesWanted_2 rfl (lv_at hl 0 rfl) ?_
      refine lv_aload_n hx hb dX4_leavesWanted_3 rfl (lv_at hl 1 rfl) ?_
      refine va_get (D := G) (ci := 4) (v := .int i_9) (C := RX4) (T := TX4) (N := 9) hx hb hts (mm_i inlX4) hown hK.1 hP 4 rfl rfl 5 (by decide) (mm_h hts mm_w1359) (fun _ h9 => h9) rfl dX4_leavesWanted_4 ?_
      refine lv_icmp_ge (tgt := 55) hx hb dX4_leavesWanted_7 (by decide) (fun c101 => ?_) (fun c101 => ?_)
      · refine lv_iconst (v := 1) hx hb dX4_leavesWanted_55 (by decide) ?_
        subst hAe
        rw [hQ]
        exact W.zret (v := 1) hx hb hr rfl (fun t ht hW => ⟨⟨1, (), rfl, (Or.inr rfl), by rw [ht]; exact hP, hK.warm hW, hD⟩, hS.F ht⟩) hS.2.2 dX4_leavesWanted_56
      · have q102 := mm_ltL (h := 6) (mm_nle c101) rx2_2_99 h4 (by decide)
        have q103 := mm_ltR (lo := 1) (mm_nle c101) rx2_2_99 h4 (by decide)
        refine lv_aload_n hx hb dX4_leavesWanted_10 rfl (lv_at hl 1 rfl) ?_
        refine va_get (D := G) (ci := 4) (v := .ref a_1) (C := RX4) (T := TX4) (N := 9) hx hb hts (mm_i inlX4) hown hK.1 hP 4 rfl rfl 0 (by decide) (mm_h hts mm_w124) (fun _ h9 => h9) rfl dX4_leavesWanted_11 ?_
        refine lv_aload_n hx hb dX4_leavesWanted_14 rfl (lv_at hl 1 rfl) ?_
        refine va_get (D := G) (ci := 4) (v := .ref a_15) (C := RX4) (T := TX4) (N := 9) hx hb hts (mm_i inlX4) hown hK.1 hP 4 rfl rfl 2 (by decide) (mm_h hts mm_w121) (fun _ h9 => h9) rfl dX4_leavesWanted_15 ?_
        refine lv_iload_n hx hb dX4_leavesWanted_18 rfl (lv_at hl 0 rfl) ?_
        refine va_iald hx hb hK.1 hP 6 1 rfl rfl (mm_in q102 (by decide)) dX4_leavesWanted_19 ?_
        refine lv_topi (fun v104 ev104 => ?_)
        refine lv_aload_n hx hb dX4_leavesWanted_20 rfl (lv_at hl 1 rfl) ?_
        refine va_get (D := G) (ci := 4) (v := .ref a_14) (C := RX4) (T := TX4) (N := 9) hx hb hts (mm_i inlX4) hown hK.1 hP 4 rfl rfl 1 (by decide) (mm_h hts mm_w120) (fun _ h9 => h9) rfl dX4_leavesWanted_21 ?_
        refine lv_iload_n hx hb dX4_leavesWanted_24 rfl (lv_at hl 0 rfl) ?_
        refine lv_bipush (v := 10) hx hb dX4_leavesWanted_25 (by decide) ?_
        refine lv_imul hx hb dX4_leavesWanted_27 ?_
        refine lv_topi (fun v105 ev105 => ?_)
        have rv105 : mm_rg v105 0 60 := mm_mul ev105 q102 mm_k10 (by decide) (by decide)
        refine lv_iload_n hx hb dX4_leavesWanted_28 rfl (lv_at hl 2 rfl) ?_
        refine lv_iadd hx hb dX4_leavesWanted_29 ?_
        refine lv_topi (fun v106 ev106 => ?_)
        have rv106 : mm_rg v106 0 69 := mm_add ev106 rv105 h0 (by decide) (by decide)
        have tv106 := mm_addE ev106 rv105 h0 (by decide)
        refine va_iald hx hb hK.1 hP 5 1 rfl rfl (mm_in rv106 (by decide)) dX4_leavesWanted_30 ?_
        refine lv_topi (fun v107 ev107 => ?_)
        have rv107 : mm_rg v107 0 9 := mm_eqv ev107 (h5 _)
        refine mm_finir (va_runV (As := [.int v104, .int v107]) (rest := []) ⟨hx, hb, hml, hown, hts⟩ (K372_X10_after l G cy H.size a_1 v104 v107 a_2 a_3 i_1 i_2 i_3 i_4 i_5 i_6 i_7 i_8 a_4 a_5 a_6 a_7 a_8 a_9 a_10 a_11 a_12 a_13 f_0 f_1 rv107 h1 h2 h3) (cwV 2 hts (mm_gV mm_w1381 mm_w841 mm_w842 mm_w23 mm_w843) rfl rfl rfl hd_X10_after ⟨by rw [hRf]; exact Nat.le_of_ble_eq_true rfl, by rw [hRl]; exact Nat.le_of_ble_eq_true rfl⟩) (mm_preV hK hZ hS hA hP hD [0, 1, 2, 3] rfl rfl 0 rfl rfl rfl) rfl rfl hl.1 rfl (lv_room (Nat.le_of_ble_eq_true rfl)) dX4_leavesWanted_31 ⟨by rw [hRc]; exact Nat.le_of_ble_eq_true rfl, by rw [hRs]; exact Nat.le_of_ble_eq_true rfl⟩) hP hD hS hA [0, 1, 2, 3] rfl (fun _ => rfl) ?_
        clear hP hD hS
        clear H locs
        intro v108 _u H locs hw hP hD hS
        refine lv_istore_n (lv' := [(3, .int v108), (2, .int x2_2_99), (0, .ref a_0), (1, .int i_0)]) hx hb dX4_leavesWanted_34 rfl hl (by decide) rfl ?_
        clear hl
        clear ls
        intro ls hl
        refine lv_iload_n hx hb dX4_leavesWanted_35 rfl (lv_at hl 0 rfl) ?_
        refine lv_sipush (v := 10000) hx hb dX4_leavesWanted_36 (by decide) ?_
        refine lv_irem hx hb dX4_leavesWanted_39 (mm_nz mm_k10000 (by decide)) ?_
        refine lv_topi (fun v109 ev109 => ?_)
        refine lv_aload_n hx hb dX4_leavesWanted_40 rfl (lv_at hl 2 rfl) ?_
        refine va_get (D := G) (ci := 4) (v := .int i_10) (C := RX4) (T := TX4) (N := 9) hx hb hts (mm_i inlX4) hown hK.1 hP 4 rfl rfl 6 (by decide) (mm_h hts mm_w1360) (fun _ h9 => h9) rfl dX4_leavesWanted_41 ?_
        refine lv_icmp_eq (tgt := 49) hx hb dX4_leavesWanted_44 (by decide) (fun c110 => ?_) (fun c110 => ?_)
        · obtain ⟨v111, ev111⟩ : ∃ y : Int32, y = x2_2_99 + 1 := ⟨_, rfl⟩
          refine lv_iinc (v := v111) (lv' := [(2, .int v111), (3, .int v108), (0, .ref a_0), (1, .int i_0)]) hx hb dX4_leavesWanted_49 hl (k := 1) rfl (by rw [ev111]; rfl) (by decide) rfl ?_
          clear hl
          clear ls
          intro ls hl
          have rv111 : mm_rg v111 1 7 := mm_add ev111 q102 mm_k1 (by decide) (by decide)
          have tv111 := mm_addEc ev111 q102 mm_k1 (by decide) (k := 1) (by decide)
          refine lv_goto (tgt := 2) hx hb dX4_leavesWanted_52 (by decide) ?_
          exact ih2 v111 (mm_wk rv111 (by decide)) (mm_mu hm2 tv111 (by decide) (rv111).2 (by decide)) H locs hP hD hS ls (lv_sub hl [0, 2, 3] rfl)
        · refine lv_iconst (v := 0) hx hb dX4_leavesWanted_47 (by decide) ?_
          subst hAe
          rw [hQ]
          exact W.zret (v := 0) hx hb hr rfl (fun t ht hW => ⟨⟨0, (), rfl, (Or.inl rfl), by rw [ht]; exact hP, hK.warm hW, hD⟩, hS.F ht⟩) hS.2.2 dX4_leavesWanted_48
  exact L2_99 _ 0 (mm_wk mm_k0 (by decide)) (Nat.lt_succ_self _) H locs hP hD hS ls (lv_sub hl [0, 1, 2] rfl)

set_option maxHeartbeats 4000000 in
set_option maxRecDepth 100000 in
theorem K473_X4_spell (l : Launch) (G : va_G) (cy : Nat → ClassId) (sz : Nat) (a_0 : Nat) (i_0 : Int32) (a_1 : Nat) (a_2 : Nat) (a_3 : Nat) (i_1 : Int32) (i_2 : Int32) (i_3 : Int32) (i_4 : Int32) (i_5 : Int32) (i_6 : Int32) (i_7 : Int32) (i_8 : Int32) (a_4 : Nat) (a_5 : Nat) (a_6 : Nat) (a_7 : Nat) (a_8 : Nat) (a_9 : Nat) (a_10 : Nat) (a_11 : Nat) (a_12 : Nat) (a_13 : Nat) (a_14 : Nat) (a_15 : Nat) (a_16 : Nat) (a_17 : Nat) (i_9 : Int32) (i_10 : Int32) (i_11 : Int32) (i_12 : Int32) (f_0 : Nat → Int32) (h0 : mm_rg i_0 0 2147483647) (h1 : mm_rg i_5 0 9) (h2 : mm_rg i_11 1 4) (h3 : mm_ar f_0 0 9)  : mm_CV l yX4_spell (mm_ws yX4_spell cX4_spell 5 (none)) ({ frames := 1, cells := 0, slots := 0, locals := 40 } : Room) G cy sz [(a_1, .inr (10, [.ref a_2, .ref a_3])), (a_2, .inr (0, [.int i_1, .int i_2, .int i_3, .int i_4, .int i_5, .int i_6, .int i_7, .int i_8, .ref a_4, .ref a_5, .ref a_6, .ref a_7, .ref a_8, .ref a_9, .ref a_10, .ref a_11, .ref a_12, .ref a_13])), (a_0, .inr (4, [.ref a_1, .ref a_14, .ref a_15, .ref a_16, .ref a_17, .int i_9, .int i_10, .int i_11, .int i_12])), (a_16, .inl (cy 1, 4, .inl f_0))] [.ref a_0, .int i_0] (fun u : (Nat → Int32) => [(a_1, .inr (10, [.ref a_2, .ref a_3])), (a_2, .inr (0, [.int i_1, .int i_2, .int i_3, .int i_4, .int i_5, .int i_6, .int i_7, .int i_8, .ref a_4, .ref a_5, .ref a_6, .ref a_7, .ref a_8, .ref a_9, .ref a_10, .ref a_11, .ref a_12, .ref a_13])), (a_0, .inr (4, [.ref a_1, .ref a_14, .ref a_15, .ref a_16, .ref a_17, .int i_9, .int i_10, .int i_11, .int i_12])), (a_16, .inl (cy 1, 4, .inl u))]) (fun u : (Nat → Int32) => mm_ar u 0 9) 0 0 := by
  refine mm_begin (lv := [(0, .ref a_0), (1, .int i_0)]) (by decide) (Nat.le_of_ble_eq_true rfl) rfl ?_
  intro p e s m below meth c A ls R args Q H locs hRe hQ hAe hx hb hr hlocks hml hown hnm hts hsz hA hS hP hK hD hZ hl
  have hRf : R.frames = 1 := by rw [hRe]
  have hRl : R.locals = 40 := by rw [hRe]
  have hRc : R.cells = 0 := by rw [hRe]
  have hRs : R.slots = 0 := by rw [hRe]
  refine lv_iconst (v := 1) hx hb dX4_spell_0 (by decide) ?_
  refine lv_aload_n hx hb dX4_spell_1 rfl (lv_at hl 0 rfl) ?_
  refine va_get (D := G) (ci := 4) (v := .ref a_1) (C := RX4) (T := TX4) (N := 9) hx hb hts (mm_i inlX4) hown hK.1 hP 2 rfl rfl 0 (by decide) (mm_h hts mm_w124) (fun _ h9 => h9) rfl dX4_spell_2 ?_
  refine va_get (D := G) (ci := 10) (v := .ref a_2) (C := RX10) (T := TX10) (N := 2) hx hb hts (mm_i inlX10) hown hK.1 hP 0 rfl rfl 0 (by decide) (mm_h hts mm_w1363) (fun _ h9 => h9) rfl dX4_spell_5 ?_
  refine mm_finir (va_runV (As := []) (rest := [.int 1]) ⟨hx, hb, hml, hown, hts⟩ (K107_X0_wordCount l G cy H.size a_2 i_1 i_2 i_3 i_4 i_5 i_6 i_7 i_8 a_4 a_5 a_6 a_7 a_8 a_9 a_10 a_11 a_12 a_13 h1) (cwV 0 hts (mm_gV mm_w1370 mm_w349 mm_w350 mm_w28 mm_w351) rfl rfl rfl hd_X0_wordCount ⟨by rw [hRf]; exact Nat.le_of_ble_eq_true rfl, by rw [hRl]; exact Nat.le_of_ble_eq_true rfl⟩) (mm_preV hK hZ hS hA hP hD [1] rfl rfl 1 rfl rfl rfl) rfl rfl hl.1 rfl (lv_room (Nat.le_of_ble_eq_true rfl)) dX4_spell_8 ⟨by rw [hRc]; exact Nat.le_of_ble_eq_true rfl, by rw [hRs]; exact Nat.le_of_ble_eq_true rfl⟩) hP hD hS hA [1] rfl (fun _ => rfl) ?_
  clear hP hD hS
  clear H locs
  intro v1 _u H locs hw hP hD hS
  have w2 := hw
  refine va_mmax hx hb (by rw [hml]; exact hl.1.symm) hown (mm_h hts mm_w1375) (mm_h hts mm_w345) (mm_h hts mm_w346) (mm_h hts mm_w347) (by rw [hRf]; exact Nat.le_of_ble_eq_true rfl) (by rw [hRl]; exact Nat.le_of_ble_eq_true rfl) (by rw [hRc]; exact Nat.le_of_ble_eq_true rfl) (by rw [hRs]; exact Nat.le_of_ble_eq_true rfl) dX4_spell_11 ?_
  refine lv_topi (fun v3 ev3 => ?_)
  have rv3 : mm_rg v3 1 10 := mm_max ev3 mm_k1 w2 (by decide)
  refine lv_istore_n (lv' := [(2, .int v3), (0, .ref a_0), (1, .int i_0)]) hx hb dX4_spell_14 rfl hl (by decide) rfl ?_
  clear hl
  clear ls
  intro ls hl
  refine lv_iload_n hx hb dX4_spell_15 rfl (lv_at hl 2 rfl) ?_
  refine lv_istore_n (lv' := [(3, .int i_0), (2, .int v3), (0, .ref a_0), (1, .int i_0)]) hx hb dX4_spell_16 rfl hl (by decide) rfl ?_
  clear hl
  clear ls
  intro ls hl
  refine lv_aload_n hx hb dX4_spell_17 rfl (lv_at hl 2 rfl) ?_
  refine va_get (D := G) (ci := 4) (v := .int i_11) (C := RX4) (T := TX4) (N := 9) hx hb hts (mm_i inlX4) hown hK.1 hP 2 rfl rfl 7 (by decide) (mm_h hts mm_w1362) (fun _ h9 => h9) rfl dX4_spell_18 ?_
  refine lv_iconst (v := 2) hx hb dX4_spell_21 (by decide) ?_
  refine lv_isub hx hb dX4_spell_22 ?_
  refine lv_topi (fun v4 ev4 => ?_)
  have rv4 : mm_rg v4 (-1) 2 := mm_sub ev4 h2 mm_k2 (by decide) (by decide)
  have tv4 := mm_subEc ev4 h2 mm_k2 (by decide) (k := (-2)) (by decide)
  refine lv_istore (lv' := [(4, .int v4), (3, .int i_0), (2, .int v3), (0, .ref a_0), (1, .int i_0)]) hx hb dX4_spell_23 hl (by decide) rfl ?_
  clear hl
  clear ls
  intro ls hl
  have L25_23 : ∀ (n : Nat) (x25_4_21 : Int32) (x25_3_22 : Int32) (z25_3_23 : Nat → Int32), mm_rg x25_4_21 (-1) 2 → mm_rg x25_3_22 0 2147483647 → mm_ar z25_3_23 0 9 → (x25_4_21.toInt - (-1)).toNat < n → ∀ (H : Heap) (locs : List Loc), va_P G vwCl [(a_1, .inr (10, [.ref a_2, .ref a_3])), (a_2, .inr (0, [.int i_1, .int i_2, .int i_3, .int i_4, .int i_5, .int i_6, .int i_7, .int i_8, .ref a_4, .ref a_5, .ref a_6, .ref a_7, .ref a_8, .ref a_9, .ref a_10, .ref a_11, .ref a_12, .ref a_13])), (a_0, .inr (4, [.ref a_1, .ref a_14, .ref a_15, .ref a_16, .ref a_17, .int i_9, .int i_10, .int i_11, .int i_12])), (a_16, .inl (cy 1, 4, .inl z25_3_23))] H → va_D A [(a_1, .inr (10, [.ref a_2, .ref a_3])), (a_2, .inr (0, [.int i_1, .int i_2, .int i_3, .int i_4, .int i_5, .int i_6, .int i_7, .int i_8, .ref a_4, .ref a_5, .ref a_6, .ref a_7, .ref a_8, .ref a_9, .ref a_10, .ref a_11, .ref a_12, .ref a_13])), (a_0, .inr (4, [.ref a_1, .ref a_14, .ref a_15, .ref a_16, .ref a_17, .int i_9, .int i_10, .int i_11, .int i_12])), (a_16, .inl (cy 1, 4, .inl z25_3_23))] → va_S A s.heap H locs → ∀ (ls : Array Slot), lv_has ls 5 [(4, .int x25_4_21), (3, .int x25_3_22), (2, .int v3), (0, .ref a_0), (1, .int i_0)] → W p l e R s m args below meth c H locs 0 0 Q (F0 m 25 ls []) := by
    intro n
    induction n with
    | zero => intro x25_4_21 x25_3_22 z25_3_23 rx25_4_21 rx25_3_22 rz25_3_23 hm; exact absurd hm (Nat.not_lt_zero _)
    | succ n ih25 =>
      intro x25_4_21 x25_3_22 z25_3_23 rx25_4_21 rx25_3_22 rz25_3_23 hm25 H locs hP hD hS ls hl
      refine lv_iload hx hb dX4_spell_25 (lv_at hl 0 rfl) ?_
      refine lv_if_lt (tgt := 50) hx hb dX4_spell_27 (by decide) (fun c25 => ?_) (fun c25 => ?_)
      · have q26 := mm_ltL (h := (-1)) (mm_lt c25) rx25_4_21 mm_k0 (by decide)
        subst hAe
        rw [hQ]
        exact W.vret hx hb hr (fun t ht hW => ⟨⟨z25_3_23, rfl, rz25_3_23, by rw [ht]; exact hP, hK.warm hW, hD⟩, hS.F ht⟩) hS.2.2 dX4_spell_50
      · have q27 := mm_leR (mm_nlt c25) mm_k0 rx25_4_21
        refine lv_aload_n hx hb dX4_spell_30 rfl (lv_at hl 3 rfl) ?_
        refine va_get (D := G) (ci := 4) (v := .ref a_16) (C := RX4) (T := TX4) (N := 9) hx hb hts (mm_i inlX4) hown hK.1 hP 2 rfl rfl 3 (by decide) (mm_h hts mm_w122) (fun _ h9 => h9) rfl dX4_spell_31 ?_
        refine lv_iload hx hb dX4_spell_34 (lv_at hl 0 rfl) ?_
        refine lv_iload_n hx hb dX4_spell_36 rfl (lv_at hl 1 rfl) ?_
        refine lv_iload_n hx hb dX4_spell_37 rfl (lv_at hl 2 rfl) ?_
        refine lv_irem hx hb dX4_spell_38 (mm_nz rv3 (by decide)) ?_
        refine lv_topi (fun v28 ev28 => ?_)
        have rv28 : mm_rg v28 0 9 := mm_rem ev28 rx25_3_22 rv3 (by decide) (by decide)
        refine va_iast hx hb hK.1 hP hD hS 3 1 rfl rfl (mm_in q27 (by decide)) dX4_spell_39 ?_
        clear hP hD hS
        clear H locs
        obtain ⟨g29, eg29⟩ : ∃ z : Nat → Int32, z = upd z25_3_23 x25_4_21.toNatClampNeg v28 := ⟨_, rfl⟩
        rw [← eg29]
        intro H locs (hP : va_P G vwCl [(a_1, .inr (10, [.ref a_2, .ref a_3])), (a_2, .inr (0, [.int i_1, .int i_2, .int i_3, .int i_4, .int i_5, .int i_6, .int i_7, .int i_8, .ref a_4, .ref a_5, .ref a_6, .ref a_7, .ref a_8, .ref a_9, .ref a_10, .ref a_11, .ref a_12, .ref a_13])), (a_0, .inr (4, [.ref a_1, .ref a_14, .ref a_15, .ref a_16, .ref a_17, .int i_9, .int i_10, .int i_11, .int i_12])), (a_16, .inl (cy 1, 4, .inl g29))] H) (hD : va_D A [(a_1, .inr (10, [.ref a_2, .ref a_3])), (a_2, .inr (0, [.int i_1, .int i_2, .int i_3, .int i_4, .int i_5, .int i_6, .int i_7, .int i_8, .ref a_4, .ref a_5, .ref a_6, .ref a_7, .ref a_8, .ref a_9, .ref a_10, .ref a_11, .ref a_12, .ref a_13])), (a_0, .inr (4, [.ref a_1, .ref a_14, .ref a_15, .ref a_16, .ref a_17, .int i_9, .int i_10, .int i_11, .int i_12])), (a_16, .inl (cy 1, 4, .inl g29))]) hS
        have rg29 : mm_ar g29 0 9 := by rw [eg29]; exact mm_ar_upd (mm_ar_wk rz25_3_23 (by decide)) (mm_wk rv28 (by decide)) _
        refine lv_iload_n hx hb dX4_spell_40 rfl (lv_at hl 1 rfl) ?_
        refine lv_iload_n hx hb dX4_spell_41 rfl (lv_at hl 2 rfl) ?_
        refine lv_idiv hx hb dX4_spell_42 (mm_nz rv3 (by decide)) ?_
        refine lv_topi (fun v30 ev30 => ?_)
        have rv30 : mm_rg v30 0 2147483647 := mm_div ev30 rx25_3_22 rv3 (by decide) (by decide)
        refine lv_istore_n (lv' := [(3, .int v30), (4, .int x25_4_21), (2, .int v3), (0, .ref a_0), (1, .int i_0)]) hx hb dX4_spell_43 rfl hl (by decide) rfl ?_
        clear hl
        clear ls
        intro ls hl
        obtain ⟨v31, ev31⟩ : ∃ y : Int32, y = x25_4_21 + (-1) := ⟨_, rfl⟩
        refine lv_iinc (v := v31) (lv' := [(4, .int v31), (3, .int v30), (2, .int v3), (0, .ref a_0), (1, .int i_0)]) hx hb dX4_spell_44 hl (k := 1) rfl (by rw [ev31]; rfl) (by decide) rfl ?_
        clear hl
        clear ls
        intro ls hl
        have rv31 : mm_rg v31 (-1) 1 := mm_add ev31 q27 mm_km1 (by decide) (by decide)
        have tv31 := mm_addEc ev31 q27 mm_km1 (by decide) (k := (-1)) (by decide)
        refine lv_goto (tgt := 25) hx hb dX4_spell_47 (by decide) ?_
        exact ih25 v31 v30 g29 (mm_wk rv31 (by decide)) rv30 rg29 (mm_md hm25 tv31 (by decide) (rv31).1 (by decide)) H locs hP hD hS ls (lv_sub hl [0, 1, 2, 3, 4] rfl)
  exact L25_23 _ v4 i_0 f_0 rv4 h0 h3 (Nat.lt_succ_self _) H locs hP hD hS ls (lv_sub hl [0, 1, 2, 3, 4] rfl)

set_option maxHeartbeats 4000000 in
set_option maxRecDepth 100000 in
theorem K474_X4_readBeginning (l : Launch) (G : va_G) (cy : Nat → ClassId) (sz : Nat) (a_0 : Nat) (a_1 : Nat) (a_2 : Nat) (a_3 : Nat) (i_0 : Int32) (i_1 : Int32) (i_2 : Int32) (i_3 : Int32) (i_4 : Int32) (i_5 : Int32) (i_6 : Int32) (i_7 : Int32) (a_4 : Nat) (a_5 : Nat) (a_6 : Nat) (a_7 : Nat) (a_8 : Nat) (a_9 : Nat) (a_10 : Nat) (a_11 : Nat) (a_12 : Nat) (a_13 : Nat) (f_0 : Nat → Int32) (f_1 : Nat → Int32) (a_14 : Nat) (a_15 : Nat) (a_16 : Nat) (a_17 : Nat) (i_8 : Int32) (i_9 : Int32) (i_10 : Int32) (i_11 : Int32) (f_2 : Nat → Int32) (f_3 : Nat → Int32) (f_4 : Nat → Int32) (h0 : mm_rg i_3 0 99) (h1 : mm_rg i_4 0 9) (h2 : mm_ar f_0 (-1) 4) (h3 : mm_ar f_1 0 99) (h4 : mm_rg i_8 0 7) (h5 : mm_rg i_10 1 4) (h6 : mm_ar f_2 0 9) (h7 : mm_ar f_4 0 9)  : mm_CV l yX4_readBeginning (mm_ws yX4_readBeginning cX4_readBeginning 4 (none)) ({ frames := 2, cells := 0, slots := 0, locals := 62 } : Room) G cy sz [(a_1, .inr (10, [.ref a_2, .ref a_3])), (a_2, .inr (0, [.int i_0, .int i_1, .int i_2, .int i_3, .int i_4, .int i_5, .int i_6, .int i_7, .ref a_4, .ref a_5, .ref a_6, .ref a_7, .ref a_8, .ref a_9, .ref a_10, .ref a_11, .ref a_12, .ref a_13])), (a_4, .inl (cy 1, 9, .inl f_0)), (a_5, .inl (cy 1, 9, .inl f_1)), (a_0, .inr (4, [.ref a_1, .ref a_14, .ref a_15, .ref a_16, .ref a_17, .int i_8, .int i_9, .int i_10, .int i_11])), (a_14, .inl (cy 1, 70, .inl f_2)), (a_15, .inl (cy 1, 7, .inl f_3)), (a_16, .inl (cy 1, 4, .inl f_4))] [.ref a_0] (fun u : (Nat → Int32) => [(a_1, .inr (10, [.ref a_2, .ref a_3])), (a_2, .inr (0, [.int i_0, .int i_1, .int i_2, .int i_3, .int i_4, .int i_5, .int i_6, .int i_7, .ref a_4, .ref a_5, .ref a_6, .ref a_7, .ref a_8, .ref a_9, .ref a_10, .ref a_11, .ref a_12, .ref a_13])), (a_4, .inl (cy 1, 9, .inl f_0)), (a_5, .inl (cy 1, 9, .inl f_1)), (a_0, .inr (4, [.ref a_1, .ref a_14, .ref a_15, .ref a_16, .ref a_17, .int i_8, .int i_9, .int i_10, .int i_11])), (a_14, .inl (cy 1, 70, .inl f_2)), (a_15, .inl (cy 1, 7, .inl u)), (a_16, .inl (cy 1, 4, .inl f_4))]) (fun u : (Nat → Int32) => True) 0 0 := by
  refine mm_begin (lv := [(0, .ref a_0)]) (by decide) (Nat.le_of_ble_eq_true rfl) rfl ?_
  intro p e s m below meth c A ls R args Q H locs hRe hQ hAe hx hb hr hlocks hml hown hnm hts hsz hA hS hP hK hD hZ hl
  have hRf : R.frames = 2 := by rw [hRe]
  have hRl : R.locals = 62 := by rw [hRe]
  have hRc : R.cells = 0 := by rw [hRe]
  have hRs : R.slots = 0 := by rw [hRe]
  refine lv_iconst (v := 0) hx hb dX4_readBeginning_0 (by decide) ?_
  refine lv_istore_n (lv' := [(1, .int 0), (0, .ref a_0)]) hx hb dX4_readBeginning_1 rfl hl (by decide) rfl ?_
  clear hl
  clear ls
  intro ls hl
  have L2_779 : ∀ (n : Nat) (x2_1_778 : Int32) (z2_6_779 : Nat → Int32), mm_rg x2_1_778 0 7 → (7 - x2_1_778.toInt).toNat < n → ∀ (H : Heap) (locs : List Loc), va_P G vwCl [(a_1, .inr (10, [.ref a_2, .ref a_3])), (a_2, .inr (0, [.int i_0, .int i_1, .int i_2, .int i_3, .int i_4, .int i_5, .int i_6, .int i_7, .ref a_4, .ref a_5, .ref a_6, .ref a_7, .ref a_8, .ref a_9, .ref a_10, .ref a_11, .ref a_12, .ref a_13])), (a_4, .inl (cy 1, 9, .inl f_0)), (a_5, .inl (cy 1, 9, .inl f_1)), (a_0, .inr (4, [.ref a_1, .ref a_14, .ref a_15, .ref a_16, .ref a_17, .int i_8, .int i_9, .int i_10, .int i_11])), (a_14, .inl (cy 1, 70, .inl f_2)), (a_15, .inl (cy 1, 7, .inl z2_6_779)), (a_16, .inl (cy 1, 4, .inl f_4))] H → va_D A [(a_1, .inr (10, [.ref a_2, .ref a_3])), (a_2, .inr (0, [.int i_0, .int i_1, .int i_2, .int i_3, .int i_4, .int i_5, .int i_6, .int i_7, .ref a_4, .ref a_5, .ref a_6, .ref a_7, .ref a_8, .ref a_9, .ref a_10, .ref a_11, .ref a_12, .ref a_13])), (a_4, .inl (cy 1, 9, .inl f_0)), (a_5, .inl (cy 1, 9, .inl f_1)), (a_0, .inr (4, [.ref a_1, .ref a_14, .ref a_15, .ref a_16, .ref a_17, .int i_8, .int i_9, .int i_10, .int i_11])), (a_14, .inl (cy 1, 70, .inl f_2)), (a_15, .inl (cy 1, 7, .inl z2_6_779)), (a_16, .inl (cy 1, 4, .inl f_4))] → va_S A s.heap H locs → ∀ (ls : Array Slot), lv_has ls 4 [(1, .int x2_1_778), (0, .ref a_0)] → W p l e R s m args below meth c H locs 0 0 Q (F0 m 2 ls []) := by
    intro n
    induction n with
    | zero => intro x2_1_778 z2_6_779 rx2_1_778 hm; exact absurd hm (Nat.not_lt_zero _)
    | succ n ih2 =>
      intro x2_1_778 z2_6_779 rx2_1_778 hm2 H locs hP hD hS ls hl
      refine lv_iload_n hx hb dX4_readBeginning_2 rfl (lv_at hl 0 rfl) ?_
      refine lv_aload_n hx hb dX4_readBeginning_3 rfl (lv_at hl 1 rfl) ?_
      refine va_get (D := G) (ci := 4) (v := .int i_8) (C := RX4) (T := TX4) (N := 9) hx hb hts (mm_i inlX4) hown hK.1 hP 4 rfl rfl 5 (by decide) (mm_h hts mm_w1359) (fun _ h9 => h9) rfl dX4_readBeginning_4 ?_
      refine lv_icmp_ge (tgt := 77) hx hb dX4_readBeginning_7 (by decide) (fun c781 => ?_) (fun c781 => ?_)
      · subst hAe
        rw [hQ]
        exact W.vret hx hb hr (fun t ht hW => ⟨⟨z2_6_779, rfl, trivial, by rw [ht]; exact hP, hK.warm hW, hD⟩, hS.F ht⟩) hS.2.2 dX4_readBeginning_77
      · have q782 := mm_ltL (h := 6) (mm_nle c781) rx2_1_778 h4 (by decide)
        have q783 := mm_ltR (lo := 1) (mm_nle c781) rx2_1_778 h4 (by decide)
        refine lv_aload_n hx hb dX4_readBeginning_10 rfl (lv_at hl 1 rfl) ?_
        refine va_get (D := G) (ci := 4) (v := .ref a_1) (C := RX4) (T := TX4) (N := 9) hx hb hts (mm_i inlX4) hown hK.1 hP 4 rfl rfl 0 (by decide) (mm_h hts mm_w124) (fun _ h9 => h9) rfl dX4_readBeginning_11 ?_
        refine va_get (D := G) (ci := 10) (v := .ref a_2) (C := RX10) (T := TX10) (N := 2) hx hb hts (mm_i inlX10) hown hK.1 hP 0 rfl rfl 0 (by decide) (mm_h hts mm_w1363) (fun _ h9 => h9) rfl dX4_readBeginning_14 ?_
        refine va_get (D := G) (ci := 0) (v := .int i_3) (C := RX0) (T := TX0) (N := 18) hx hb hts (mm_i inlX0) hown hK.1 hP 1 rfl rfl 3 (by decide) (mm_h hts mm_w1380) (fun _ h9 => h9) rfl dX4_readBeginning_17 ?_
        refine lv_istore_n (lv' := [(2, .int i_3), (1, .int x2_1_778), (0, .ref a_0)]) hx hb dX4_readBeginning_20 rfl hl (by decide) rfl ?_
        clear hl
        clear ls
        intro ls hl
        refine lv_iconst (v := 0) hx hb dX4_readBeginning_21 (by decide) ?_
        refine lv_istore_n (lv' := [(3, .int 0), (2, .int i_3), (1, .int x2_1_778), (0, .ref a_0)]) hx hb dX4_readBeginning_22 rfl hl (by decide) rfl ?_
        clear hl
        clear ls
        intro ls hl
        have L23_853 : ∀ (n : Nat) (x23_3_852 : Int32) (x23_2_853 : Int32), mm_rg x23_3_852 0 3 → (3 - x23_3_852.toInt).toNat < n → ∀ (H : Heap) (locs : List Loc), va_P G vwCl [(a_1, .inr (10, [.ref a_2, .ref a_3])), (a_2, .inr (0, [.int i_0, .int i_1, .int i_2, .int i_3, .int i_4, .int i_5, .int i_6, .int i_7, .ref a_4, .ref a_5, .ref a_6, .ref a_7, .ref a_8, .ref a_9, .ref a_10, .ref a_11, .ref a_12, .ref a_13])), (a_4, .inl (cy 1, 9, .inl f_0)), (a_5, .inl (cy 1, 9, .inl f_1)), (a_0, .inr (4, [.ref a_1, .ref a_14, .ref a_15, .ref a_16, .ref a_17, .int i_8, .int i_9, .int i_10, .int i_11])), (a_14, .inl (cy 1, 70, .inl f_2)), (a_15, .inl (cy 1, 7, .inl z2_6_779)), (a_16, .inl (cy 1, 4, .inl f_4))] H → va_D A [(a_1, .inr (10, [.ref a_2, .ref a_3])), (a_2, .inr (0, [.int i_0, .int i_1, .int i_2, .int i_3, .int i_4, .int i_5, .int i_6, .int i_7, .ref a_4, .ref a_5, .ref a_6, .ref a_7, .ref a_8, .ref a_9, .ref a_10, .ref a_11, .ref a_12, .ref a_13])), (a_4, .inl (cy 1, 9, .inl f_0)), (a_5, .inl (cy 1, 9, .inl f_1)), (a_0, .inr (4, [.ref a_1, .ref a_14, .ref a_15, .ref a_16, .ref a_17, .int i_8, .int i_9, .int i_10, .int i_11])), (a_14, .inl (cy 1, 70, .inl f_2)), (a_15, .inl (cy 1, 7, .inl z2_6_779)), (a_16, .inl (cy 1, 4, .inl f_4))] → va_S A s.heap H locs → ∀ (ls : Array Slot), lv_has ls 4 [(3, .int x23_3_852), (2, .int x23_2_853), (1, .int x2_1_778), (0, .ref a_0)] → W p l e R s m args below meth c H locs 0 0 Q (F0 m 23 ls []) := by
          intro n
          induction n with
          | zero => intro x23_3_852 x23_2_853 rx23_3_852 hm; exact absurd hm (Nat.not_lt_zero _)
          | succ n ih23 =>
            intro x23_3_852 x23_2_853 rx23_3_852 hm23 H locs hP hD hS ls hl
            refine lv_iload_n hx hb dX4_readBeginning_23 rfl (lv_at hl 0 rfl) ?_
            refine lv_aload_n hx hb dX4_readBeginning_24 rfl (lv_at hl 3 rfl) ?_
            refine va_get (D := G) (ci := 4) (v := .int i_10) (C := RX4) (T := TX4) (N := 9) hx hb hts (mm_i inlX4) hown hK.1 hP 4 rfl rfl 7 (by decide) (mm_h hts mm_w1362) (fun _ h9 => h9) rfl dX4_readBeginning_25 ?_
            refine lv_iconst (v := 1) hx hb dX4_readBeginning_28 (by decide) ?_
            refine lv_isub hx hb dX4_readBeginning_29 ?_
            refine lv_topi (fun v855 ev855 => ?_)
            have rv855 : mm_rg v855 0 3 := mm_sub ev855 h5 mm_k1 (by decide) (by decide)
            have tv855 := mm_subEc ev855 h5 mm_k1 (by decide) (k := (-1)) (by decide)
            refine lv_icmp_ge (tgt := 64) hx hb dX4_readBeginning_30 (by decide) (fun c856 => ?_) (fun c856 => ?_)
            · refine lv_aload_n hx hb dX4_readBeginning_64 rfl (lv_at hl 3 rfl) ?_
              refine va_get (D := G) (ci := 4) (v := .ref a_15) (C := RX4) (T := TX4) (N := 9) hx hb hts (mm_i inlX4) hown hK.1 hP 4 rfl rfl 2 (by decide) (mm_h hts mm_w121) (fun _ h9 => h9) rfl dX4_readBeginning_65 ?_
              refine lv_iload_n hx hb dX4_readBeginning_68 rfl (lv_at hl 2 rfl) ?_
              refine lv_iload_n hx hb dX4_readBeginning_69 rfl (lv_at hl 1 rfl) ?_
              refine va_iast hx hb hK.1 hP hD hS 6 1 rfl rfl (mm_in q782 (by decide)) dX4_readBeginning_70 ?_
              clear hP hD hS
              clear H locs
              obtain ⟨g857, eg857⟩ : ∃ z : Nat → Int32, z = upd z2_6_779 x2_1_778.toNatClampNeg x23_2_853 := ⟨_, rfl⟩
              rw [← eg857]
              intro H locs (hP : va_P G vwCl [(a_1, .inr (10, [.ref a_2, .ref a_3])), (a_2, .inr (0, [.int i_0, .int i_1, .int i_2, .int i_3, .int i_4, .int i_5, .int i_6, .int i_7, .ref a_4, .ref a_5, .ref a_6, .ref a_7, .ref a_8, .ref a_9, .ref a_10, .ref a_11, .ref a_12, .ref a_13])), (a_4, .inl (cy 1, 9, .inl f_0)), (a_5, .inl (cy 1, 9, .inl f_1)), (a_0, .inr (4, [.ref a_1, .ref a_14, .ref a_15, .ref a_16, .ref a_17, .int i_8, .int i_9, .int i_10, .int i_11])), (a_14, .inl (cy 1, 70, .inl f_2)), (a_15, .inl (cy 1, 7, .inl g857)), (a_16, .inl (cy 1, 4, .inl f_4))] H) (hD : va_D A [(a_1, .inr (10, [.ref a_2, .ref a_3])), (a_2, .inr (0, [.int i_0, .int i_1, .int i_2, .int i_3, .int i_4, .int i_5, .int i_6, .int i_7, .ref a_4, .ref a_5, .ref a_6, .ref a_7, .ref a_8, .ref a_9, .ref a_10, .ref a_11, .ref a_12, .ref a_13])), (a_4, .inl (cy 1, 9, .inl f_0)), (a_5, .inl (cy 1, 9, .inl f_1)), (a_0, .inr (4, [.ref a_1, .ref a_14, .ref a_15, .ref a_16, .ref a_17, .int i_8, .int i_9, .int i_10, .int i_11])), (a_14, .inl (cy 1, 70, .inl f_2)), (a_15, .inl (cy 1, 7, .inl g857)), (a_16, .inl (cy 1, 4, .inl f_4))]) hS
              obtain ⟨v858, ev858⟩ : ∃ y : Int32, y = x2_1_778 + 1 := ⟨_, rfl⟩
              refine lv_iinc (v := v858) (lv' := [(1, .int v858), (3, .int x23_3_852), (2, .int x23_2_853), (0, .ref a_0)]) hx hb dX4_readBeginning_71 hl (k := 2) rfl (by rw [ev858]; rfl) (by decide) rfl ?_
              clear hl
              clear ls
              intro ls hl
              have rv858 : mm_rg v858 1 7 := mm_add ev858 q782 mm_k1 (by decide) (by decide)
              have tv858 := mm_addEc ev858 q782 mm_k1 (by decide) (k := 1) (by decide)
              refine lv_goto (tgt := 2) hx hb dX4_readBeginning_74 (by decide) ?_
              exact ih2 v858 g857 (mm_wk rv858 (by decide)) (mm_mu hm2 tv858 (by decide) (rv858).2 (by decide)) H locs hP hD hS ls (lv_sub hl [0, 3] rfl)
            · have q859 := mm_ltL (h := 2) (mm_nle c856) rx23_3_852 rv855 (by decide)
              have q860 := mm_ltR (lo := 1) (mm_nle c856) rx23_3_852 rv855 (by decide)
              have q861 : mm_rg i_10 2 4 := mm_unadd tv855 q860 h5 (by decide) (by decide)
              refine lv_aload_n hx hb dX4_readBeginning_33 rfl (lv_at hl 3 rfl) ?_
              refine va_get (D := G) (ci := 4) (v := .ref a_1) (C := RX4) (T := TX4) (N := 9) hx hb hts (mm_i inlX4) hown hK.1 hP 4 rfl rfl 0 (by decide) (mm_h hts mm_w124) (fun _ h9 => h9) rfl dX4_readBeginning_34 ?_
              refine lv_iload_n hx hb dX4_readBeginning_37 rfl (lv_at hl 1 rfl) ?_
              refine lv_aload_n hx hb dX4_readBeginning_38 rfl (lv_at hl 3 rfl) ?_
              refine va_get (D := G) (ci := 4) (v := .ref a_14) (C := RX4) (T := TX4) (N := 9) hx hb hts (mm_i inlX4) hown hK.1 hP 4 rfl rfl 1 (by decide) (mm_h hts mm_w120) (fun _ h9 => h9) rfl dX4_readBeginning_39 ?_
              refine lv_iload_n hx hb dX4_readBeginning_42 rfl (lv_at hl 2 rfl) ?_
              refine lv_bipush (v := 10) hx hb dX4_readBeginning_43 (by decide) ?_
              refine lv_imul hx hb dX4_readBeginning_45 ?_
              refine lv_topi (fun v862 ev862 => ?_)
              have rv862 : mm_rg v862 0 60 := mm_mul ev862 q782 mm_k10 (by decide) (by decide)
              refine lv_aload_n hx hb dX4_readBeginning_46 rfl (lv_at hl 3 rfl) ?_
              refine va_get (D := G) (ci := 4) (v := .ref a_16) (C := RX4) (T := TX4) (N := 9) hx hb hts (mm_i inlX4) hown hK.1 hP 4 rfl rfl 3 (by decide) (mm_h hts mm_w122) (fun _ h9 => h9) rfl dX4_readBeginning_47 ?_
              refine lv_iload_n hx hb dX4_readBeginning_50 rfl (lv_at hl 0 rfl) ?_
              refine va_iald hx hb hK.1 hP 7 1 rfl rfl (mm_in q859 (by decide)) dX4_readBeginning_51 ?_
              refine lv_topi (fun v863 ev863 => ?_)
              have rv863 : mm_rg v863 0 9 := mm_eqv ev863 (h7 _)
              refine lv_iadd hx hb dX4_readBeginning_52 ?_
              refine lv_topi (fun v864 ev864 => ?_)
              have rv864 : mm_rg v864 0 69 := mm_add ev864 rv862 rv863 (by decide) (by decide)
              have tv864 := mm_addE ev864 rv862 rv863 (by decide)
              refine va_iald hx hb hK.1 hP 5 1 rfl rfl (mm_in rv864 (by decide)) dX4_readBeginning_53 ?_
              refine lv_topi (fun v865 ev865 => ?_)
              have rv865 : mm_rg v865 0 9 := mm_eqv ev865 (h6 _)
              refine mm_finir (va_runV (As := [.int x23_2_853, .int v865]) (rest := []) ⟨hx, hb, hml, hown, hts⟩ (K372_X10_after l G cy H.size a_1 x23_2_853 v865 a_2 a_3 i_0 i_1 i_2 i_3 i_4 i_5 i_6 i_7 a_4 a_5 a_6 a_7 a_8 a_9 a_10 a_11 a_12 a_13 f_0 f_1 rv865 h1 h2 h3) (cwV 2 hts (mm_gV mm_w1381 mm_w841 mm_w842 mm_w23 mm_w843) rfl rfl rfl hd_X10_after ⟨by rw [hRf]; exact Nat.le_of_ble_eq_true rfl, by rw [hRl]; exact Nat.le_of_ble_eq_true rfl⟩) (mm_preV hK hZ hS hA hP hD [0, 1, 2, 3] rfl rfl 0 rfl rfl rfl) rfl rfl hl.1 rfl (lv_room (Nat.le_of_ble_eq_true rfl)) dX4_readBeginning_54 ⟨by rw [hRc]; exact Nat.le_of_ble_eq_true rfl, by rw [hRs]; exact Nat.le_of_ble_eq_true rfl⟩) hP hD hS hA [0, 1, 2, 3] rfl (fun _ => rfl) ?_
              clear hP hD hS
              clear H locs
              intro v866 _u H locs hw hP hD hS
              refine lv_istore_n (lv' := [(2, .int v866), (3, .int x23_3_852), (1, .int x2_1_778), (0, .ref a_0)]) hx hb dX4_readBeginning_57 rfl hl (by decide) rfl ?_
              clear hl
              clear ls
              intro ls hl
              obtain ⟨v867, ev867⟩ : ∃ y : Int32, y = x23_3_852 + 1 := ⟨_, rfl⟩
              refine lv_iinc (v := v867) (lv' := [(3, .int v867), (2, .int v866), (1, .int x2_1_778), (0, .ref a_0)]) hx hb dX4_readBeginning_58 hl (k := 1) rfl (by rw [ev867]; rfl) (by decide) rfl ?_
              clear hl
              clear ls
              intro ls hl
              have rv867 : mm_rg v867 1 3 := mm_add ev867 q859 mm_k1 (by decide) (by decide)
              have tv867 := mm_addEc ev867 q859 mm_k1 (by decide) (k := 1) (by decide)
              refine lv_goto (tgt := 23) hx hb dX4_readBeginning_61 (by decide) ?_
              exact ih23 v867 v866 (mm_wk rv867 (by decide)) (mm_mu hm23 tv867 (by decide) (rv867).2 (by decide)) H locs hP hD hS ls (lv_sub hl [0, 1, 2, 3] rfl)
        exact L23_853 _ 0 i_3 (mm_wk mm_k0 (by decide)) (Nat.lt_succ_self _) H locs hP hD hS ls (lv_sub hl [0, 1, 2, 3] rfl)
  exact L2_779 _ 0 f_3 (mm_wk mm_k0 (by decide)) (Nat.lt_succ_self _) H locs hP hD hS ls (lv_sub hl [0, 1] rfl)

